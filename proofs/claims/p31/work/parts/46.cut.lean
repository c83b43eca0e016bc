/-! the tape cut into tokens -/
theorem dX9_isBlank_0 : decode cX9_isBlank 0 = .ok (.iload_n 0, 1) := by decide +kernel
theorem dX9_isBlank_1 : decode cX9_isBlank 1 = .ok (.bipush 9, 2) := by decide +kernel
theorem dX9_isBlank_3 : decode cX9_isBlank 3 = .ok (.if_icmp .eq 21, 3) := by decide +kernel
theorem dX9_isBlank_6 : decode cX9_isBlank 6 = .ok (.iload_n 0, 1) := by decide +kernel
theorem dX9_isBlank_7 : decode cX9_isBlank 7 = .ok (.bipush 10, 2) := by decide +kernel
theorem dX9_isBlank_9 : decode cX9_isBlank 9 = .ok (.if_icmp .eq 15, 3) := by decide +kernel
theorem dX9_isBlank_12 : decode cX9_isBlank 12 = .ok (.iload_n 0, 1) := by decide +kernel
theorem dX9_isBlank_13 : decode cX9_isBlank 13 = .ok (.bipush 13, 2) := by decide +kernel
theorem dX9_isBlank_15 : decode cX9_isBlank 15 = .ok (.if_icmp .eq 9, 3) := by decide +kernel
theorem dX9_isBlank_18 : decode cX9_isBlank 18 = .ok (.iload_n 0, 1) := by decide +kernel
theorem dX9_isBlank_19 : decode cX9_isBlank 19 = .ok (.bipush 32, 2) := by decide +kernel
theorem dX9_isBlank_21 : decode cX9_isBlank 21 = .ok (.if_icmp .ne 7, 3) := by decide +kernel
theorem dX9_isBlank_24 : decode cX9_isBlank 24 = .ok (.iconst 1, 1) := by decide +kernel
theorem dX9_isBlank_25 : decode cX9_isBlank 25 = .ok (.goto 4, 3) := by decide +kernel
theorem dX9_isBlank_28 : decode cX9_isBlank 28 = .ok (.iconst 0, 1) := by decide +kernel
theorem dX9_isBlank_29 : decode cX9_isBlank 29 = .ok (.ireturn, 1) := by decide +kernel
theorem dX9_isLetter_0 : decode cX9_isLetter 0 = .ok (.iload_n 0, 1) := by decide +kernel
theorem dX9_isLetter_1 : decode cX9_isLetter 1 = .ok (.bipush 97, 2) := by decide +kernel
theorem dX9_isLetter_3 : decode cX9_isLetter 3 = .ok (.if_icmp .lt 13, 3) := by decide +kernel
theorem dX9_isLetter_6 : decode cX9_isLetter 6 = .ok (.iload_n 0, 1) := by decide +kernel
theorem dX9_isLetter_7 : decode cX9_isLetter 7 = .ok (.bipush 122, 2) := by decide +kernel
theorem dX9_isLetter_9 : decode cX9_isLetter 9 = .ok (.if_icmp .gt 7, 3) := by decide +kernel
theorem dX9_isLetter_12 : decode cX9_isLetter 12 = .ok (.iconst 1, 1) := by decide +kernel
theorem dX9_isLetter_13 : decode cX9_isLetter 13 = .ok (.goto 4, 3) := by decide +kernel
theorem dX9_isLetter_16 : decode cX9_isLetter 16 = .ok (.iconst 0, 1) := by decide +kernel
theorem dX9_isLetter_17 : decode cX9_isLetter 17 = .ok (.ireturn, 1) := by decide +kernel
theorem dX9_isDigit_0 : decode cX9_isDigit 0 = .ok (.iload_n 0, 1) := by decide +kernel
theorem dX9_isDigit_1 : decode cX9_isDigit 1 = .ok (.bipush 48, 2) := by decide +kernel
theorem dX9_isDigit_3 : decode cX9_isDigit 3 = .ok (.if_icmp .lt 13, 3) := by decide +kernel
theorem dX9_isDigit_6 : decode cX9_isDigit 6 = .ok (.iload_n 0, 1) := by decide +kernel
theorem dX9_isDigit_7 : decode cX9_isDigit 7 = .ok (.bipush 57, 2) := by decide +kernel
theorem dX9_isDigit_9 : decode cX9_isDigit 9 = .ok (.if_icmp .gt 7, 3) := by decide +kernel
theorem dX9_isDigit_12 : decode cX9_isDigit 12 = .ok (.iconst 1, 1) := by decide +kernel
theorem dX9_isDigit_13 : decode cX9_isDigit 13 = .ok (.goto 4, 3) := by decide +kernel
theorem dX9_isDigit_16 : decode cX9_isDigit 16 = .ok (.iconst 0, 1) := by decide +kernel
theorem dX9_isDigit_17 : decode cX9_isDigit 17 = .ok (.ireturn, 1) := by decide +kernel
theorem dX9_wordAt_0 : decode cX9_wordAt 0 = .ok (.iconst 0, 1) := by decide +kernel
theorem dX9_wordAt_1 : decode cX9_wordAt 1 = .ok (.istore_n 3, 1) := by decide +kernel
theorem dX9_wordAt_2 : decode cX9_wordAt 2 = .ok (.iconst 0, 1) := by decide +kernel
theorem dX9_wordAt_3 : decode cX9_wordAt 3 = .ok (.istore 4, 2) := by decide +kernel
theorem dX9_wordAt_5 : decode cX9_wordAt 5 = .ok (.iconst 0, 1) := by decide +kernel
theorem dX9_wordAt_6 : decode cX9_wordAt 6 = .ok (.istore 5, 2) := by decide +kernel
theorem dX9_wordAt_8 : decode cX9_wordAt 8 = .ok (.iload 5, 2) := by decide +kernel
theorem dX9_wordAt_10 : decode cX9_wordAt 10 = .ok (.ldc 67, 2) := by decide +kernel
theorem dX9_wordAt_12 : decode cX9_wordAt 12 = .ok (.invokevirtual 69, 3) := by decide +kernel
theorem dX9_wordAt_15 : decode cX9_wordAt 15 = .ok (.if_icmp .ge 76, 3) := by decide +kernel
theorem dX9_wordAt_18 : decode cX9_wordAt 18 = .ok (.ldc 67, 2) := by decide +kernel
theorem dX9_wordAt_20 : decode cX9_wordAt 20 = .ok (.iload 5, 2) := by decide +kernel
theorem dX9_wordAt_22 : decode cX9_wordAt 22 = .ok (.invokevirtual 73, 3) := by decide +kernel
theorem dX9_wordAt_25 : decode cX9_wordAt 25 = .ok (.istore 6, 2) := by decide +kernel
theorem dX9_wordAt_27 : decode cX9_wordAt 27 = .ok (.iload 6, 2) := by decide +kernel
theorem dX9_wordAt_29 : decode cX9_wordAt 29 = .ok (.bipush 32, 2) := by decide +kernel
theorem dX9_wordAt_31 : decode cX9_wordAt 31 = .ok (.if_icmp .ne 20, 3) := by decide +kernel
theorem dX9_wordAt_34 : decode cX9_wordAt 34 = .ok (.iload 4, 2) := by decide +kernel
theorem dX9_wordAt_36 : decode cX9_wordAt 36 = .ok (.iload_n 2, 1) := by decide +kernel
theorem dX9_wordAt_37 : decode cX9_wordAt 37 = .ok (.if_icmp .ne 5, 3) := by decide +kernel
theorem dX9_wordAt_40 : decode cX9_wordAt 40 = .ok (.iload_n 3, 1) := by decide +kernel
theorem dX9_wordAt_41 : decode cX9_wordAt 41 = .ok (.ireturn, 1) := by decide +kernel
theorem dX9_wordAt_42 : decode cX9_wordAt 42 = .ok (.iinc 3 1, 3) := by decide +kernel
theorem dX9_wordAt_45 : decode cX9_wordAt 45 = .ok (.iconst 0, 1) := by decide +kernel
theorem dX9_wordAt_46 : decode cX9_wordAt 46 = .ok (.istore 4, 2) := by decide +kernel
theorem dX9_wordAt_48 : decode cX9_wordAt 48 = .ok (.goto 37, 3) := by decide +kernel
theorem dX9_wordAt_51 : decode cX9_wordAt 51 = .ok (.iload 4, 2) := by decide +kernel
theorem dX9_wordAt_53 : decode cX9_wordAt 53 = .ok (.ifCond .lt 29, 3) := by decide +kernel
theorem dX9_wordAt_56 : decode cX9_wordAt 56 = .ok (.iload 4, 2) := by decide +kernel
theorem dX9_wordAt_58 : decode cX9_wordAt 58 = .ok (.iload_n 2, 1) := by decide +kernel
theorem dX9_wordAt_59 : decode cX9_wordAt 59 = .ok (.if_icmp .ge 23, 3) := by decide +kernel
theorem dX9_wordAt_62 : decode cX9_wordAt 62 = .ok (.aload_n 0, 1) := by decide +kernel
theorem dX9_wordAt_63 : decode cX9_wordAt 63 = .ok (.getfield 9, 3) := by decide +kernel
theorem dX9_wordAt_66 : decode cX9_wordAt 66 = .ok (.iload_n 1, 1) := by decide +kernel
theorem dX9_wordAt_67 : decode cX9_wordAt 67 = .ok (.iload 4, 2) := by decide +kernel
theorem dX9_wordAt_69 : decode cX9_wordAt 69 = .ok (.iadd, 1) := by decide +kernel
theorem dX9_wordAt_70 : decode cX9_wordAt 70 = .ok (.iaload, 1) := by decide +kernel
theorem dX9_wordAt_71 : decode cX9_wordAt 71 = .ok (.iload 6, 2) := by decide +kernel
theorem dX9_wordAt_73 : decode cX9_wordAt 73 = .ok (.if_icmp .ne 9, 3) := by decide +kernel
theorem dX9_wordAt_76 : decode cX9_wordAt 76 = .ok (.iinc 4 1, 3) := by decide +kernel
theorem dX9_wordAt_79 : decode cX9_wordAt 79 = .ok (.goto 6, 3) := by decide +kernel
theorem dX9_wordAt_82 : decode cX9_wordAt 82 = .ok (.iconst (-1), 1) := by decide +kernel
theorem dX9_wordAt_83 : decode cX9_wordAt 83 = .ok (.istore 4, 2) := by decide +kernel
theorem dX9_wordAt_85 : decode cX9_wordAt 85 = .ok (.iinc 5 1, 3) := by decide +kernel
theorem dX9_wordAt_88 : decode cX9_wordAt 88 = .ok (.goto (-80), 3) := by decide +kernel
theorem dX9_wordAt_91 : decode cX9_wordAt 91 = .ok (.iconst (-1), 1) := by decide +kernel
theorem dX9_wordAt_92 : decode cX9_wordAt 92 = .ok (.ireturn, 1) := by decide +kernel
theorem dX9_cutInt_0 : decode cX9_cutInt 0 = .ok (.aload_n 0, 1) := by decide +kernel
theorem dX9_cutInt_1 : decode cX9_cutInt 1 = .ok (.getfield 29, 3) := by decide +kernel
theorem dX9_cutInt_4 : decode cX9_cutInt 4 = .ok (.istore_n 2, 1) := by decide +kernel
theorem dX9_cutInt_5 : decode cX9_cutInt 5 = .ok (.lconst 0, 1) := by decide +kernel
theorem dX9_cutInt_6 : decode cX9_cutInt 6 = .ok (.lstore_n 3, 1) := by decide +kernel
theorem dX9_cutInt_7 : decode cX9_cutInt 7 = .ok (.aload_n 0, 1) := by decide +kernel
theorem dX9_cutInt_8 : decode cX9_cutInt 8 = .ok (.getfield 29, 3) := by decide +kernel
theorem dX9_cutInt_11 : decode cX9_cutInt 11 = .ok (.aload_n 0, 1) := by decide +kernel
theorem dX9_cutInt_12 : decode cX9_cutInt 12 = .ok (.getfield 25, 3) := by decide +kernel
theorem dX9_cutInt_15 : decode cX9_cutInt 15 = .ok (.if_icmp .ge 51, 3) := by decide +kernel
theorem dX9_cutInt_18 : decode cX9_cutInt 18 = .ok (.aload_n 0, 1) := by decide +kernel
theorem dX9_cutInt_19 : decode cX9_cutInt 19 = .ok (.getfield 9, 3) := by decide +kernel
theorem dX9_cutInt_22 : decode cX9_cutInt 22 = .ok (.aload_n 0, 1) := by decide +kernel
theorem dX9_cutInt_23 : decode cX9_cutInt 23 = .ok (.getfield 29, 3) := by decide +kernel
theorem dX9_cutInt_26 : decode cX9_cutInt 26 = .ok (.iaload, 1) := by decide +kernel
theorem dX9_cutInt_27 : decode cX9_cutInt 27 = .ok (.invokestatic 46, 3) := by decide +kernel
theorem dX9_cutInt_30 : decode cX9_cutInt 30 = .ok (.ifCond .eq 36, 3) := by decide +kernel
theorem dX9_cutInt_33 : decode cX9_cutInt 33 = .ok (.lload_n 3, 1) := by decide +kernel
theorem dX9_cutInt_34 : decode cX9_cutInt 34 = .ok (.ldc2_w 65, 3) := by decide +kernel
theorem dX9_cutInt_37 : decode cX9_cutInt 37 = .ok (.lmul, 1) := by decide +kernel
theorem dX9_cutInt_38 : decode cX9_cutInt 38 = .ok (.aload_n 0, 1) := by decide +kernel
theorem dX9_cutInt_39 : decode cX9_cutInt 39 = .ok (.getfield 9, 3) := by decide +kernel
theorem dX9_cutInt_42 : decode cX9_cutInt 42 = .ok (.aload_n 0, 1) := by decide +kernel
theorem dX9_cutInt_43 : decode cX9_cutInt 43 = .ok (.getfield 29, 3) := by decide +kernel
theorem dX9_cutInt_46 : decode cX9_cutInt 46 = .ok (.iaload, 1) := by decide +kernel
theorem dX9_cutInt_47 : decode cX9_cutInt 47 = .ok (.bipush 48, 2) := by decide +kernel
theorem dX9_cutInt_49 : decode cX9_cutInt 49 = .ok (.isub, 1) := by decide +kernel
theorem dX9_cutInt_50 : decode cX9_cutInt 50 = .ok (.i2l, 1) := by decide +kernel
theorem dX9_cutInt_51 : decode cX9_cutInt 51 = .ok (.ladd, 1) := by decide +kernel
theorem dX9_cutInt_52 : decode cX9_cutInt 52 = .ok (.lstore_n 3, 1) := by decide +kernel
theorem dX9_cutInt_53 : decode cX9_cutInt 53 = .ok (.aload_n 0, 1) := by decide +kernel
theorem dX9_cutInt_54 : decode cX9_cutInt 54 = .ok (.dup, 1) := by decide +kernel
theorem dX9_cutInt_55 : decode cX9_cutInt 55 = .ok (.getfield 29, 3) := by decide +kernel
theorem dX9_cutInt_58 : decode cX9_cutInt 58 = .ok (.iconst 1, 1) := by decide +kernel
theorem dX9_cutInt_59 : decode cX9_cutInt 59 = .ok (.iadd, 1) := by decide +kernel
theorem dX9_cutInt_60 : decode cX9_cutInt 60 = .ok (.putfield 29, 3) := by decide +kernel
theorem dX9_cutInt_63 : decode cX9_cutInt 63 = .ok (.goto (-56), 3) := by decide +kernel
theorem dX9_cutInt_66 : decode cX9_cutInt 66 = .ok (.aload_n 0, 1) := by decide +kernel
theorem dX9_cutInt_67 : decode cX9_cutInt 67 = .ok (.getfield 21, 3) := by decide +kernel
theorem dX9_cutInt_70 : decode cX9_cutInt 70 = .ok (.iload_n 1, 1) := by decide +kernel
theorem dX9_cutInt_71 : decode cX9_cutInt 71 = .ok (.lload_n 3, 1) := by decide +kernel
theorem dX9_cutInt_72 : decode cX9_cutInt 72 = .ok (.lastore, 1) := by decide +kernel
theorem dX9_cutInt_73 : decode cX9_cutInt 73 = .ok (.aload_n 0, 1) := by decide +kernel
theorem dX9_cutInt_74 : decode cX9_cutInt 74 = .ok (.getfield 29, 3) := by decide +kernel
theorem dX9_cutInt_77 : decode cX9_cutInt 77 = .ok (.iload_n 2, 1) := by decide +kernel
theorem dX9_cutInt_78 : decode cX9_cutInt 78 = .ok (.isub, 1) := by decide +kernel
theorem dX9_cutInt_79 : decode cX9_cutInt 79 = .ok (.iconst 4, 1) := by decide +kernel
theorem dX9_cutInt_80 : decode cX9_cutInt 80 = .ok (.if_icmp .gt 8, 3) := by decide +kernel
theorem dX9_cutInt_83 : decode cX9_cutInt 83 = .ok (.bipush 21, 2) := by decide +kernel
theorem dX9_cutInt_85 : decode cX9_cutInt 85 = .ok (.goto 5, 3) := by decide +kernel
theorem dX9_cutInt_88 : decode cX9_cutInt 88 = .ok (.bipush 23, 2) := by decide +kernel
theorem dX9_cutInt_90 : decode cX9_cutInt 90 = .ok (.ireturn, 1) := by decide +kernel
theorem dX9_cutWord_0 : decode cX9_cutWord 0 = .ok (.aload_n 0, 1) := by decide +kernel
theorem dX9_cutWord_1 : decode cX9_cutWord 1 = .ok (.getfield 29, 3) := by decide +kernel
theorem dX9_cutWord_4 : decode cX9_cutWord 4 = .ok (.istore_n 2, 1) := by decide +kernel
theorem dX9_cutWord_5 : decode cX9_cutWord 5 = .ok (.lconst 0, 1) := by decide +kernel
theorem dX9_cutWord_6 : decode cX9_cutWord 6 = .ok (.lstore_n 3, 1) := by decide +kernel
theorem dX9_cutWord_7 : decode cX9_cutWord 7 = .ok (.aload_n 0, 1) := by decide +kernel
theorem dX9_cutWord_8 : decode cX9_cutWord 8 = .ok (.getfield 29, 3) := by decide +kernel
theorem dX9_cutWord_11 : decode cX9_cutWord 11 = .ok (.aload_n 0, 1) := by decide +kernel
theorem dX9_cutWord_12 : decode cX9_cutWord 12 = .ok (.getfield 25, 3) := by decide +kernel
theorem dX9_cutWord_15 : decode cX9_cutWord 15 = .ok (.if_icmp .ge 53, 3) := by decide +kernel
theorem dX9_cutWord_18 : decode cX9_cutWord 18 = .ok (.aload_n 0, 1) := by decide +kernel
theorem dX9_cutWord_19 : decode cX9_cutWord 19 = .ok (.getfield 9, 3) := by decide +kernel
theorem dX9_cutWord_22 : decode cX9_cutWord 22 = .ok (.aload_n 0, 1) := by decide +kernel
theorem dX9_cutWord_23 : decode cX9_cutWord 23 = .ok (.getfield 29, 3) := by decide +kernel
theorem dX9_cutWord_26 : decode cX9_cutWord 26 = .ok (.iaload, 1) := by decide +kernel
theorem dX9_cutWord_27 : decode cX9_cutWord 27 = .ok (.invokestatic 40, 3) := by decide +kernel
theorem dX9_cutWord_30 : decode cX9_cutWord 30 = .ok (.ifCond .eq 38, 3) := by decide +kernel
theorem dX9_cutWord_33 : decode cX9_cutWord 33 = .ok (.lload_n 3, 1) := by decide +kernel
theorem dX9_cutWord_34 : decode cX9_cutWord 34 = .ok (.ldc2_w 59, 3) := by decide +kernel
theorem dX9_cutWord_37 : decode cX9_cutWord 37 = .ok (.lmul, 1) := by decide +kernel
theorem dX9_cutWord_38 : decode cX9_cutWord 38 = .ok (.aload_n 0, 1) := by decide +kernel
theorem dX9_cutWord_39 : decode cX9_cutWord 39 = .ok (.getfield 9, 3) := by decide +kernel
theorem dX9_cutWord_42 : decode cX9_cutWord 42 = .ok (.aload_n 0, 1) := by decide +kernel
theorem dX9_cutWord_43 : decode cX9_cutWord 43 = .ok (.getfield 29, 3) := by decide +kernel
theorem dX9_cutWord_46 : decode cX9_cutWord 46 = .ok (.iaload, 1) := by decide +kernel
theorem dX9_cutWord_47 : decode cX9_cutWord 47 = .ok (.bipush 97, 2) := by decide +kernel
theorem dX9_cutWord_49 : decode cX9_cutWord 49 = .ok (.isub, 1) := by decide +kernel
theorem dX9_cutWord_50 : decode cX9_cutWord 50 = .ok (.iconst 1, 1) := by decide +kernel
theorem dX9_cutWord_51 : decode cX9_cutWord 51 = .ok (.iadd, 1) := by decide +kernel
theorem dX9_cutWord_52 : decode cX9_cutWord 52 = .ok (.i2l, 1) := by decide +kernel
theorem dX9_cutWord_53 : decode cX9_cutWord 53 = .ok (.ladd, 1) := by decide +kernel
theorem dX9_cutWord_54 : decode cX9_cutWord 54 = .ok (.lstore_n 3, 1) := by decide +kernel
theorem dX9_cutWord_55 : decode cX9_cutWord 55 = .ok (.aload_n 0, 1) := by decide +kernel
theorem dX9_cutWord_56 : decode cX9_cutWord 56 = .ok (.dup, 1) := by decide +kernel
theorem dX9_cutWord_57 : decode cX9_cutWord 57 = .ok (.getfield 29, 3) := by decide +kernel
theorem dX9_cutWord_60 : decode cX9_cutWord 60 = .ok (.iconst 1, 1) := by decide +kernel
theorem dX9_cutWord_61 : decode cX9_cutWord 61 = .ok (.iadd, 1) := by decide +kernel
theorem dX9_cutWord_62 : decode cX9_cutWord 62 = .ok (.putfield 29, 3) := by decide +kernel
theorem dX9_cutWord_65 : decode cX9_cutWord 65 = .ok (.goto (-58), 3) := by decide +kernel
theorem dX9_cutWord_68 : decode cX9_cutWord 68 = .ok (.aload_n 0, 1) := by decide +kernel
theorem dX9_cutWord_69 : decode cX9_cutWord 69 = .ok (.getfield 21, 3) := by decide +kernel
theorem dX9_cutWord_72 : decode cX9_cutWord 72 = .ok (.iload_n 1, 1) := by decide +kernel
theorem dX9_cutWord_73 : decode cX9_cutWord 73 = .ok (.lload_n 3, 1) := by decide +kernel
theorem dX9_cutWord_74 : decode cX9_cutWord 74 = .ok (.lastore, 1) := by decide +kernel
theorem dX9_cutWord_75 : decode cX9_cutWord 75 = .ok (.aload_n 0, 1) := by decide +kernel
theorem dX9_cutWord_76 : decode cX9_cutWord 76 = .ok (.iload_n 2, 1) := by decide +kernel
theorem dX9_cutWord_77 : decode cX9_cutWord 77 = .ok (.aload_n 0, 1) := by decide +kernel
theorem dX9_cutWord_78 : decode cX9_cutWord 78 = .ok (.getfield 29, 3) := by decide +kernel
theorem dX9_cutWord_81 : decode cX9_cutWord 81 = .ok (.iload_n 2, 1) := by decide +kernel
theorem dX9_cutWord_82 : decode cX9_cutWord 82 = .ok (.isub, 1) := by decide +kernel
theorem dX9_cutWord_83 : decode cX9_cutWord 83 = .ok (.invokevirtual 61, 3) := by decide +kernel
theorem dX9_cutWord_86 : decode cX9_cutWord 86 = .ok (.istore 5, 2) := by decide +kernel
theorem dX9_cutWord_88 : decode cX9_cutWord 88 = .ok (.iload 5, 2) := by decide +kernel
theorem dX9_cutWord_90 : decode cX9_cutWord 90 = .ok (.iconst (-1), 1) := by decide +kernel
theorem dX9_cutWord_91 : decode cX9_cutWord 91 = .ok (.if_icmp .eq 6, 3) := by decide +kernel
theorem dX9_cutWord_94 : decode cX9_cutWord 94 = .ok (.iload 5, 2) := by decide +kernel
theorem dX9_cutWord_96 : decode cX9_cutWord 96 = .ok (.ireturn, 1) := by decide +kernel
theorem dX9_cutWord_97 : decode cX9_cutWord 97 = .ok (.aload_n 0, 1) := by decide +kernel
theorem dX9_cutWord_98 : decode cX9_cutWord 98 = .ok (.getfield 29, 3) := by decide +kernel
theorem dX9_cutWord_101 : decode cX9_cutWord 101 = .ok (.iload_n 2, 1) := by decide +kernel
theorem dX9_cutWord_102 : decode cX9_cutWord 102 = .ok (.isub, 1) := by decide +kernel
theorem dX9_cutWord_103 : decode cX9_cutWord 103 = .ok (.bipush 8, 2) := by decide +kernel
theorem dX9_cutWord_105 : decode cX9_cutWord 105 = .ok (.if_icmp .gt 8, 3) := by decide +kernel
theorem dX9_cutWord_108 : decode cX9_cutWord 108 = .ok (.bipush 20, 2) := by decide +kernel
theorem dX9_cutWord_110 : decode cX9_cutWord 110 = .ok (.goto 5, 3) := by decide +kernel
theorem dX9_cutWord_113 : decode cX9_cutWord 113 = .ok (.bipush 23, 2) := by decide +kernel
theorem dX9_cutWord_115 : decode cX9_cutWord 115 = .ok (.ireturn, 1) := by decide +kernel
theorem dX9_cutOne_14 : decode cX9_cutOne 14 = .ok (.aload_n 0, 1) := by decide +kernel
theorem dX9_cutOne_15 : decode cX9_cutOne 15 = .ok (.getfield 9, 3) := by decide +kernel
theorem dX9_cutOne_18 : decode cX9_cutOne 18 = .ok (.aload_n 0, 1) := by decide +kernel
theorem dX9_cutOne_19 : decode cX9_cutOne 19 = .ok (.getfield 29, 3) := by decide +kernel
theorem dX9_cutOne_22 : decode cX9_cutOne 22 = .ok (.iaload, 1) := by decide +kernel
theorem dX9_cutOne_23 : decode cX9_cutOne 23 = .ok (.invokestatic 40, 3) := by decide +kernel
theorem dX9_cutOne_26 : decode cX9_cutOne 26 = .ok (.ifCond .eq 9, 3) := by decide +kernel
theorem dX9_cutOne_29 : decode cX9_cutOne 29 = .ok (.aload_n 0, 1) := by decide +kernel
theorem dX9_cutOne_30 : decode cX9_cutOne 30 = .ok (.iload_n 1, 1) := by decide +kernel
theorem dX9_cutOne_31 : decode cX9_cutOne 31 = .ok (.invokevirtual 43, 3) := by decide +kernel
theorem dX9_cutOne_34 : decode cX9_cutOne 34 = .ok (.ireturn, 1) := by decide +kernel
theorem dX9_cutOne_35 : decode cX9_cutOne 35 = .ok (.aload_n 0, 1) := by decide +kernel
theorem dX9_cutOne_36 : decode cX9_cutOne 36 = .ok (.getfield 9, 3) := by decide +kernel
theorem dX9_cutOne_39 : decode cX9_cutOne 39 = .ok (.aload_n 0, 1) := by decide +kernel
theorem dX9_cutOne_40 : decode cX9_cutOne 40 = .ok (.getfield 29, 3) := by decide +kernel
theorem dX9_cutOne_43 : decode cX9_cutOne 43 = .ok (.iaload, 1) := by decide +kernel
theorem dX9_cutOne_44 : decode cX9_cutOne 44 = .ok (.invokestatic 46, 3) := by decide +kernel
theorem dX9_cutOne_47 : decode cX9_cutOne 47 = .ok (.ifCond .eq 9, 3) := by decide +kernel
theorem dX9_cutOne_50 : decode cX9_cutOne 50 = .ok (.aload_n 0, 1) := by decide +kernel
theorem dX9_cutOne_51 : decode cX9_cutOne 51 = .ok (.iload_n 1, 1) := by decide +kernel
theorem dX9_cutOne_52 : decode cX9_cutOne 52 = .ok (.invokevirtual 49, 3) := by decide +kernel
theorem dX9_cutOne_55 : decode cX9_cutOne 55 = .ok (.ireturn, 1) := by decide +kernel
theorem dX9_cutOne_56 : decode cX9_cutOne 56 = .ok (.aload_n 0, 1) := by decide +kernel
theorem dX9_cutOne_57 : decode cX9_cutOne 57 = .ok (.getfield 9, 3) := by decide +kernel
theorem dX9_cutOne_60 : decode cX9_cutOne 60 = .ok (.aload_n 0, 1) := by decide +kernel
theorem dX9_cutOne_61 : decode cX9_cutOne 61 = .ok (.getfield 29, 3) := by decide +kernel
theorem dX9_cutOne_64 : decode cX9_cutOne 64 = .ok (.iaload, 1) := by decide +kernel
theorem dX9_cutOne_65 : decode cX9_cutOne 65 = .ok (.istore_n 2, 1) := by decide +kernel
theorem dX9_cutOne_66 : decode cX9_cutOne 66 = .ok (.aload_n 0, 1) := by decide +kernel
theorem dX9_cutOne_67 : decode cX9_cutOne 67 = .ok (.dup, 1) := by decide +kernel
theorem dX9_cutOne_68 : decode cX9_cutOne 68 = .ok (.getfield 29, 3) := by decide +kernel
theorem dX9_cutOne_71 : decode cX9_cutOne 71 = .ok (.iconst 1, 1) := by decide +kernel
theorem dX9_cutOne_72 : decode cX9_cutOne 72 = .ok (.iadd, 1) := by decide +kernel
theorem dX9_cutOne_73 : decode cX9_cutOne 73 = .ok (.putfield 29, 3) := by decide +kernel
theorem dX9_cutOne_76 : decode cX9_cutOne 76 = .ok (.ldc 52, 2) := by decide +kernel
theorem dX9_cutOne_78 : decode cX9_cutOne 78 = .ok (.iload_n 2, 1) := by decide +kernel
theorem dX9_cutOne_79 : decode cX9_cutOne 79 = .ok (.i2c, 1) := by decide +kernel
theorem dX9_cutOne_80 : decode cX9_cutOne 80 = .ok (.invokevirtual 54, 3) := by decide +kernel
theorem dX9_cutOne_83 : decode cX9_cutOne 83 = .ok (.ifCond .lt 7, 3) := by decide +kernel
theorem dX9_cutOne_86 : decode cX9_cutOne 86 = .ok (.iload_n 2, 1) := by decide +kernel
theorem dX9_cutOne_87 : decode cX9_cutOne 87 = .ok (.goto 5, 3) := by decide +kernel
theorem dX9_cutOne_90 : decode cX9_cutOne 90 = .ok (.bipush 23, 2) := by decide +kernel
theorem dX9_cutOne_92 : decode cX9_cutOne 92 = .ok (.ireturn, 1) := by decide +kernel
theorem dX9_cut_39 : decode cX9_cut 39 = .ok (.aload_n 0, 1) := by decide +kernel
theorem dX9_cut_40 : decode cX9_cut 40 = .ok (.getfield 9, 3) := by decide +kernel
theorem dX9_cut_43 : decode cX9_cut 43 = .ok (.aload_n 0, 1) := by decide +kernel
theorem dX9_cut_44 : decode cX9_cut 44 = .ok (.getfield 29, 3) := by decide +kernel
theorem dX9_cut_47 : decode cX9_cut 47 = .ok (.iaload, 1) := by decide +kernel
theorem dX9_cut_48 : decode cX9_cut 48 = .ok (.invokestatic 32, 3) := by decide +kernel
theorem dX9_cut_51 : decode cX9_cut 51 = .ok (.ifCond .eq 16, 3) := by decide +kernel
theorem dX9_cut_54 : decode cX9_cut 54 = .ok (.aload_n 0, 1) := by decide +kernel
theorem dX9_cut_55 : decode cX9_cut 55 = .ok (.dup, 1) := by decide +kernel
theorem dX9_cut_56 : decode cX9_cut 56 = .ok (.getfield 29, 3) := by decide +kernel
theorem dX9_cut_59 : decode cX9_cut 59 = .ok (.iconst 1, 1) := by decide +kernel
theorem dX9_cut_60 : decode cX9_cut 60 = .ok (.iadd, 1) := by decide +kernel
theorem dX9_cut_61 : decode cX9_cut 61 = .ok (.putfield 29, 3) := by decide +kernel
theorem dX9_cut_64 : decode cX9_cut 64 = .ok (.goto (-36), 3) := by decide +kernel
theorem S_X9_isLetter {l : Launch} {D : va_G} {ids : List Nat} {ad : Nat → Nat} {ca : Nat → ClassId} {σ : HS} {x1 : Int32} : Ki l D ids ad ca yX9_isLetter cX9_isLetter 1 .boolean 0 0 [.int x1] σ (fun r σ' => (r = 0 ∨ r = 1 ∧ 97 ≤ x1.toInt ∧ x1.toInt ≤ 122) ∧ σ' = σ) := by
  refine Ki.of (by decide) (Nat.le_of_ble_eq_true rfl) 0 (fun Γ C Rt => ?_)
  show AW ids ad ca Γ 0 [some (.int x1)] [] σ
  have j16 : AW ids ad ca Γ 16 [some (.int x1)] [] σ := a_iconst C dX9_isLetter_16 rfl (a_iret Rt dX9_isLetter_17 rfl ⟨Or.inl rfl, rfl⟩)
  refine a_iload_n C dX9_isLetter_0 rfl rfl ?_
  refine s_bipush C dX9_isLetter_1 97 (by decide) (fun z hz => ?_)
  refine s_ic_lt C dX9_isLetter_3 rfl (fun _ => j16) (fun h0 => ?_)
  refine a_iload_n C dX9_isLetter_6 rfl rfl ?_
  refine s_bipush C dX9_isLetter_7 122 (by decide) (fun z1 hz1 => ?_)
  refine s_ic_gt C dX9_isLetter_9 rfl (fun _ => j16) (fun h1 => ?_)
  refine a_iconst C dX9_isLetter_12 rfl ?_
  refine a_goto C dX9_isLetter_13 rfl ?_
  exact a_iret Rt dX9_isLetter_17 rfl ⟨Or.inr ⟨rfl, by omega, by omega⟩, rfl⟩
theorem S_X9_isDigit {l : Launch} {D : va_G} {ids : List Nat} {ad : Nat → Nat} {ca : Nat → ClassId} {σ : HS} {x1 : Int32} : Ki l D ids ad ca yX9_isDigit cX9_isDigit 1 .boolean 0 0 [.int x1] σ (fun r σ' => (r = 0 ∨ r = 1 ∧ 48 ≤ x1.toInt ∧ x1.toInt ≤ 57) ∧ σ' = σ) := by
  refine Ki.of (by decide) (Nat.le_of_ble_eq_true rfl) 0 (fun Γ C Rt => ?_)
  show AW ids ad ca Γ 0 [some (.int x1)] [] σ
  have j16 : AW ids ad ca Γ 16 [some (.int x1)] [] σ := a_iconst C dX9_isDigit_16 rfl (a_iret Rt dX9_isDigit_17 rfl ⟨Or.inl rfl, rfl⟩)
  refine a_iload_n C dX9_isDigit_0 rfl rfl ?_
  refine s_bipush C dX9_isDigit_1 48 (by decide) (fun z hz => ?_)
  refine s_ic_lt C dX9_isDigit_3 rfl (fun _ => j16) (fun h0 => ?_)
  refine a_iload_n C dX9_isDigit_6 rfl rfl ?_
  refine s_bipush C dX9_isDigit_7 57 (by decide) (fun z1 hz1 => ?_)
  refine s_ic_gt C dX9_isDigit_9 rfl (fun _ => j16) (fun h1 => ?_)
  refine a_iconst C dX9_isDigit_12 rfl ?_
  refine a_goto C dX9_isDigit_13 rfl ?_
  exact a_iret Rt dX9_isDigit_17 rfl ⟨Or.inr ⟨rfl, by omega, by omega⟩, rfl⟩
theorem S_X9_isBlank {l : Launch} {D : va_G} {ids : List Nat} {ad : Nat → Nat} {ca : Nat → ClassId} {σ : HS} {x1 : Int32} : Ki l D ids ad ca yX9_isBlank cX9_isBlank 1 .boolean 0 0 [.int x1] σ (fun _ σ' => σ' = σ) := by
  refine Ki.of (by decide) (Nat.le_of_ble_eq_true rfl) 0 (fun Γ C Rt => ?_)
  show AW ids ad ca Γ 0 [some (.int x1)] [] σ
  have j24 : AW ids ad ca Γ 24 [some (.int x1)] [] σ := a_iconst C dX9_isBlank_24 rfl (a_goto C dX9_isBlank_25 (tgt := 29) rfl (a_iret Rt dX9_isBlank_29 rfl rfl))
  refine a_iload_n C dX9_isBlank_0 rfl rfl ?_
  refine s_bipush C dX9_isBlank_1 9 (by decide) (fun z1 _ => ?_)
  refine a_ic_eq C dX9_isBlank_3 rfl (fun _ => j24) (fun _ => ?_)
  refine a_iload_n C dX9_isBlank_6 rfl rfl ?_
  refine s_bipush C dX9_isBlank_7 10 (by decide) (fun z2 _ => ?_)
  refine a_ic_eq C dX9_isBlank_9 rfl (fun _ => j24) (fun _ => ?_)
  refine a_iload_n C dX9_isBlank_12 rfl rfl ?_
  refine s_bipush C dX9_isBlank_13 13 (by decide) (fun z3 _ => ?_)
  refine a_ic_eq C dX9_isBlank_15 rfl (fun _ => j24) (fun _ => ?_)
  refine a_iload_n C dX9_isBlank_18 rfl rfl ?_
  refine s_bipush C dX9_isBlank_19 32 (by decide) (fun z4 _ => ?_)
  refine a_ic_ne C dX9_isBlank_21 (tgt := 28) rfl (fun _ => a_iconst C dX9_isBlank_28 rfl (a_iret Rt dX9_isBlank_29 rfl rfl)) (fun _ => j24)
/-- what cutting one token changes: the tape's place, and the value at n -/
def TT (n : Nat) (σ σ' : HS) : Prop := ony [2, 6] σ σ' ∧ σ'.1 2 1 = σ.1 2 1 ∧ ∀ j, j ≠ n → σ'.2.1 6 j = σ.2.1 6 j
theorem TT.rf {n : Nat} {σ : HS} : TT n σ σ := ⟨ony.rf, rfl, fun _ _ => rfl⟩
theorem TT.tr {n : Nat} {σ σ1 σ2 : HS} (h : TT n σ σ1) (h2 : TT n σ1 σ2) : TT n σ σ2 := ⟨h.1.tr h2.1, h2.2.1.trans h.2.1, fun j hj => (h2.2.2 j hj).trans (h.2.2 j hj)⟩
theorem TT.at {n : Nat} {σ σ1 : HS} {v : Int32} (h : TT n σ σ1) : TT n σ (hI σ1 2 5 v) := ⟨h.1.I (by decide), (hI_n (by decide)).trans h.2.1, h.2.2⟩
theorem TT.val {n : Nat} {σ σ1 : HS} {v : Int64} (h : TT n σ σ1) : TT n σ (hL σ1 6 n v) := ⟨h.1.L (by decide), h.2.1, fun j hj => by
  have e : (hL σ1 6 n v).2.1 6 = vp_updL (σ1.2.1 6) n v := va_up_self σ1.2.1 6 _
  rw [e, pk_uLn hj]
  exact h.2.2 j hj⟩
theorem hL_s {n : Nat} {σ : HS} {v : Int64} : (hL σ 6 n v).2.1 6 n = v := by
  have e : (hL σ 6 n v).2.1 6 = vp_updL (σ.2.1 6) n v := va_up_self σ.2.1 6 _
  rw [e, pk_uLs]
theorem TT.gi {n : Nat} {σ σ1 : HS} {r : Int32} (h : GIc σ) (t : TT n σ σ1) (ha : 0 ≤ (σ1.1 2 5).toInt ∧ (σ1.1 2 5).toInt ≤ 2000) (hr : r.toInt = 21 → 0 ≤ (σ1.2.1 6 n).toInt ∧ (σ1.2.1 6 n).toInt ≤ 9999) : GIc (hI σ1 4 n r) := by
  have k1 : ∀ q ∈ bdF, (q.1 = 2 ∧ q.2.1 = 5 ∧ q.2.2.1 = 0 ∧ q.2.2.2 = 2000) ∨ (q.1 = 2 ∧ q.2.1 = 1) ∨ (q.1 ≠ 2 ∧ q.1 ≠ 6) := by decide
  have k4 : ∀ q ∈ bdF, q.1 ≠ 4 := by decide
  have k2 : ∀ q ∈ bdA, q.1 ≠ 2 ∧ q.1 ≠ 6 ∧ q.1 ≠ 4 := by decide
  have nm : ∀ a : Nat, a ≠ 2 → a ≠ 6 → a ∉ [2, 6] := fun a h1 h2 e => by
    simp only [List.mem_cons, List.not_mem_nil, or_false] at e
    exact e.elim h1 h2
  refine ⟨fun q hq => ?_, fun q hq j => ?_, fun a ha2 => ?_, fun j hj h21 => ?_⟩
  · rw [hI_o (k4 q hq)]
    rcases k1 q hq with ⟨e1, e2, e3, e4⟩ | ⟨e1, e2⟩ | ⟨e1, e2⟩
    · rw [e1, e2, e3, e4]; exact ha
    · have g := h.1 q hq
      rw [e1, e2] at g ⊢
      rw [t.2.1]
      exact g
    · rw [(t.1.1 q.1 (nm _ e1 e2)).1]; exact h.1 q hq
  · obtain ⟨e1, e2, e3⟩ := k2 q hq
    rw [hI_o e3, (t.1.1 q.1 (nm _ e1 e2)).1]
    exact h.2.1 q hq j
  · rw [hI_o (show 56 + 4 * a ≠ 4 by omega), (t.1.1 (56 + 4 * a) (nm _ (by omega) (by omega))).1]
    exact h.2.2.1 a ha2
  · show 0 ≤ (σ1.2.1 6 j).toInt ∧ (σ1.2.1 6 j).toInt ≤ 9999
    by_cases e : j = n
    · subst e
      rw [hI_s] at h21
      exact hr h21
    · rw [hI_n e, (t.1.1 4 (nm _ (by decide) (by decide))).1] at h21
      rw [t.2.2 j e]
      exact h.2.2.2 j hj h21
def VB (e : Int) (w : Int64) : Prop := 0 ≤ e ∧ (e = 0 → w.toInt = 0) ∧ (e = 1 → 0 ≤ w.toInt ∧ w.toInt ≤ 9) ∧ (e = 2 → 0 ≤ w.toInt ∧ w.toInt ≤ 99) ∧ (e = 3 → 0 ≤ w.toInt ∧ w.toInt ≤ 999) ∧ (e = 4 → 0 ≤ w.toInt ∧ w.toInt ≤ 9999)
theorem i64_step {w : Int64} {z : Int32} (h : 0 ≤ w.toInt ∧ w.toInt ≤ 999) (hz : 0 ≤ z.toInt ∧ z.toInt ≤ 9) : (w * 10 + z.toInt64).toInt = w.toInt * 10 + z.toInt := by
  have e10 : (10 : Int64).toInt = 10 := by decide
  have e1 : (w * 10).toInt = w.toInt * 10 := by
    rw [Int64.toInt_mul, e10]
    rw [Int.bmod_eq_of_le] <;> omega
  rw [Int64.toInt_add, e1, Int32.toInt_toInt64]
  rw [Int.bmod_eq_of_le] <;> omega
theorem VB.step {e : Int} {w : Int64} {z : Int32} (h : VB e w) (hz : 0 ≤ z.toInt ∧ z.toInt ≤ 9) : VB (e + 1) (w * 10 + z.toInt64) := by
  obtain ⟨h0, h1, h2, h3, h4, h5⟩ := h
  refine ⟨by omega, fun q => by omega, fun q => ?_, fun q => ?_, fun q => ?_, fun q => ?_⟩
  · have a := h1 (by omega)
    rw [i64_step (by omega) hz]; omega
  · have a := h2 (by omega)
    rw [i64_step (by omega) hz]; omega
  · have a := h3 (by omega)
    rw [i64_step (by omega) hz]; omega
  · have a := h4 (by omega)
    rw [i64_step (by omega) hz]; omega
def cntS (n : Nat) : Nat := ((bytS.getD 0 []).take n).countP (fun b => b == 32)
theorem cntS_step : ∀ j, j < 112 → ((chS 0 j).toInt = 32 → cntS (j + 1) = cntS j + 1) ∧ ((chS 0 j).toInt ≠ 32 → cntS (j + 1) = cntS j) ∧ cntS j ≤ 19 := by decide +kernel
set_option maxRecDepth 10000 in
theorem S_X9_wordAt {l : Launch} {D : va_G} {ids : List Nat} {ad : Nat → Nat} {ca : Nat → ClassId} {K : (Nat → Nat) × (Nat → Nat)} {σ : HS} {x1 x2 : Int32} (hid : ∀ i, i < 277 → i ∈ ids) (h1 : 0 ≤ x1.toInt) (h2 : 0 ≤ x2.toInt) (h3 : x1.toInt + x2.toInt ≤ 2000) : KiS l D ids ad ca K yX9_wordAt cX9_wordAt 7 .int 4 100 [.ref (ad 2), .int x1, .int x2] σ (fun r σ' => r.toInt ≠ 21 ∧ σ' = σ) := by
  refine KiS.of (by decide) (Nat.le_of_ble_eq_true rfl) 4 (fun Γ C E Rt => ?_)
  show AW ids ad ca Γ 0 [some (.ref (ad 2)), some (.int x1), some (.int x2), none, none, none, none] [] σ
  have hN : ((lenS.getD 0 0 : Nat) : Int) = 112 := rfl
  have J : ∀ (d : Nat) (w m i : Int32) (n : Nat), 112 - n < (d : Int) → n ≤ 112 → i.toInt = n → w.toInt = cntS n → -1 ≤ m.toInt ∧ m.toInt ≤ x2.toInt → AW ids ad ca Γ 8 [some (.ref (ad 2)), some (.int x1), some (.int x2), some (.int w), some (.int m), some (.int i), none] [] σ := by
    intro d
    induction d with
    | zero => intro w m i n hd hn; exfalso; omega
    | succ d ih =>
      intro w m i n hd hn hi hw hm
      refine a_iload C dX9_wordAt_8 rfl ?_
      refine a_ldcW C E rfl dX9_wordAt_10 ?_
      refine a_cTiS C E (As := []) (i := 0) (by decide) rfl (J_length (by decide)) mi_J0_length_8abf5 ml_RX9_69 rfl rfl (Nat.le_of_ble_eq_true rfl) (Nat.le_of_ble_eq_true rfl) (Nat.le_of_ble_eq_true rfl) dX9_wordAt_12 (fun r σ1 q => ?_)
      obtain ⟨hr, rfl⟩ := q
      refine s_ic_ge C dX9_wordAt_15 (tgt := 91) rfl (fun _ => ?_) (fun c1 => ?_)
      · refine a_iconst C dX9_wordAt_91 rfl ?_
        exact a_iret Rt dX9_wordAt_92 rfl ⟨by decide, rfl⟩
      · refine a_ldcW C E rfl dX9_wordAt_18 ?_
        refine a_iload C dX9_wordAt_20 rfl ?_
        refine a_cTiS C E (As := [.int i]) (i := 0) (by decide) rfl (J_charAt (by decide) (by omega) (by omega)) mi_J0_charAt_5068e ml_RX9_73 rfl rfl (Nat.le_of_ble_eq_true rfl) (Nat.le_of_ble_eq_true rfl) (Nat.le_of_ble_eq_true rfl) dX9_wordAt_22 (fun r1 σ1 q => ?_)
        obtain ⟨⟨j, hj, hr1⟩, rfl⟩ := q
        have hjn : j = n := by omega
        subst hjn
        have hc := cntS_step j (by omega)
        rw [← hr1] at hc
        refine a_istore C dX9_wordAt_25 (by decide) rfl (vs1 := [some (.ref (ad 2)), some (.int x1), some (.int x2), some (.int w), some (.int m), some (.int i), some (.int r1)]) rfl ?_
        have j85 : ∀ (w1 m1 : Int32), w1.toInt = cntS (j + 1) → -1 ≤ m1.toInt ∧ m1.toInt ≤ x2.toInt → AW ids ad ca Γ 85 [some (.ref (ad 2)), some (.int x1), some (.int x2), some (.int w1), some (.int m1), some (.int i), some (.int r1)] [] σ1 := by
          intro w1 m1 hw1 hm1
          refine s_iinc C dX9_wordAt_85 rfl 1 (by decide) (by omega) (by decide) rfl (fun i1 hi1 => ?_)
          show AW ids ad ca Γ 88 [some (.ref (ad 2)), some (.int x1), some (.int x2), some (.int w1), some (.int m1), some (.int i1), some (.int r1)] _ _
          refine a_goto C dX9_wordAt_88 (tgt := 8) rfl ?_
          refine AW.sub (vs' := [some (.ref (ad 2)), some (.int x1), some (.int x2), some (.int w1), some (.int m1), some (.int i1), none]) (lsub_of (by simp [lsubB])) ?_
          exact ih w1 m1 i1 (j + 1) (by omega) (by omega) (by omega) hw1 hm1
        have j82 : r1.toInt ≠ 32 → AW ids ad ca Γ 82 [some (.ref (ad 2)), some (.int x1), some (.int x2), some (.int w), some (.int m), some (.int i), some (.int r1)] [] σ1 := by
          intro h32
          refine s_iconst C dX9_wordAt_82 (-1) (by decide) (fun m1 hm1 => ?_)
          refine a_istore C dX9_wordAt_83 (by decide) rfl (vs1 := [some (.ref (ad 2)), some (.int x1), some (.int x2), some (.int w), some (.int m1), some (.int i), some (.int r1)]) rfl ?_
          exact j85 w m1 (by have := hc.2.1 h32; omega) (by omega)
        refine a_iload C dX9_wordAt_27 rfl ?_
        refine s_bipush C dX9_wordAt_29 32 (by decide) (fun z hz => ?_)
        refine s_ic_ne C dX9_wordAt_31 (tgt := 51) rfl (fun c2 => ?_) (fun c2 => ?_)
        · have h32 : r1.toInt ≠ 32 := by omega
          refine a_iload C dX9_wordAt_51 rfl ?_
          refine s_if_lt C dX9_wordAt_53 (tgt := 82) rfl (fun _ => j82 h32) (fun c3 => ?_)
          refine a_iload C dX9_wordAt_56 rfl ?_
          refine a_iload_n C dX9_wordAt_58 (i := 2) rfl rfl ?_
          refine s_ic_ge C dX9_wordAt_59 (tgt := 82) rfl (fun _ => j82 h32) (fun c4 => ?_)
          refine a_aload_n C dX9_wordAt_62 (i := 0) rfl rfl ?_
          refine a_get C fl_RX9_9 (i := 2) kd_2 (hid 2 (by decide)) (v := .ref (ad 3)) rfl dX9_wordAt_63 ?_
          refine a_iload_n C dX9_wordAt_66 (i := 1) rfl rfl ?_
          refine a_iload C dX9_wordAt_67 rfl ?_
          refine s_iadd C dX9_wordAt_69 (by omega) (fun z1 hz1 => ?_)
          refine s_iald C (i := 3) kd_3 (hid 3 (by decide)) al_3 (by omega) (by omega) dX9_wordAt_70 (fun jn hjn => ?_)
          refine a_iload C dX9_wordAt_71 rfl ?_
          refine a_ic_ne C dX9_wordAt_73 (tgt := 82) rfl (fun _ => j82 h32) (fun _ => ?_)
          refine s_iinc C dX9_wordAt_76 rfl 1 (by decide) (by omega) (by decide) rfl (fun m1 hm1 => ?_)
          show AW ids ad ca Γ 79 [some (.ref (ad 2)), some (.int x1), some (.int x2), some (.int w), some (.int m1), some (.int i), some (.int r1)] _ _
          refine a_goto C dX9_wordAt_79 (tgt := 85) rfl ?_
          exact j85 w m1 (by have := hc.2.1 h32; omega) (by omega)
        · have h32 : r1.toInt = 32 := by omega
          refine a_iload C dX9_wordAt_34 rfl ?_
          refine a_iload_n C dX9_wordAt_36 (i := 2) rfl rfl ?_
          refine a_ic_ne C dX9_wordAt_37 (tgt := 42) rfl (fun _ => ?_) (fun _ => ?_)
          · refine s_iinc C dX9_wordAt_42 rfl 1 (by decide) (by have := hc.2.2; omega) (by decide) rfl (fun w1 hw1 => ?_)
            show AW ids ad ca Γ 45 [some (.ref (ad 2)), some (.int x1), some (.int x2), some (.int w1), some (.int m), some (.int i), some (.int r1)] _ _
            refine s_iconst C dX9_wordAt_45 0 (by decide) (fun m1 hm1 => ?_)
            refine a_istore C dX9_wordAt_46 (by decide) rfl (vs1 := [some (.ref (ad 2)), some (.int x1), some (.int x2), some (.int w1), some (.int m1), some (.int i), some (.int r1)]) rfl ?_
            refine a_goto C dX9_wordAt_48 (tgt := 85) rfl ?_
            exact j85 w1 m1 (by have := hc.1 h32; omega) (by omega)
          · refine a_iload_n C dX9_wordAt_40 (i := 3) rfl rfl ?_
            exact a_iret Rt dX9_wordAt_41 rfl ⟨by have := hc.2.2; omega, rfl⟩
  refine s_iconst C dX9_wordAt_0 0 (by decide) (fun w hw => ?_)
  refine a_istore_n C dX9_wordAt_1 (i := 3) rfl (by decide) rfl (vs1 := [some (.ref (ad 2)), some (.int x1), some (.int x2), some (.int w), none, none, none]) rfl ?_
  refine s_iconst C dX9_wordAt_2 0 (by decide) (fun m hm => ?_)
  refine a_istore C dX9_wordAt_3 (by decide) rfl (vs1 := [some (.ref (ad 2)), some (.int x1), some (.int x2), some (.int w), some (.int m), none, none]) rfl ?_
  refine s_iconst C dX9_wordAt_5 0 (by decide) (fun i hi => ?_)
  refine a_istore C dX9_wordAt_6 (by decide) rfl (vs1 := [some (.ref (ad 2)), some (.int x1), some (.int x2), some (.int w), some (.int m), some (.int i), none]) rfl ?_
  exact J (112 + 1) w m i 0 (by omega) (by omega) hi (by rw [hw]; rfl) (by omega)
set_option maxRecDepth 10000 in
theorem S_X9_cutInt {l : Launch} {D : va_G} {ids : List Nat} {ad : Nat → Nat} {ca : Nat → ClassId} {σ : HS} {x1 : Int32} (hid : ∀ i, i < 277 → i ∈ ids) (h0 : 0 ≤ (σ.1 2 5).toInt) (h1 : (σ.1 2 5).toInt ≤ (σ.1 2 1).toInt) (h2 : (σ.1 2 1).toInt ≤ 2000) {n : Nat} (hn : (n : Int) = x1.toInt) (hx : x1.toInt ≤ 400) : Ki l D ids ad ca yX9_cutInt cX9_cutInt 5 .int 1 20 [.ref (ad 2), .int x1] σ (fun r σ' => TT n σ σ' ∧ ((σ.1 2 5).toInt ≤ (σ'.1 2 5).toInt ∧ (σ'.1 2 5).toInt ≤ (σ.1 2 1).toInt) ∧ (r.toInt = 21 → 0 ≤ (σ'.2.1 6 n).toInt ∧ (σ'.2.1 6 n).toInt ≤ 9999)) := by
  refine Ki.of (by decide) (Nat.le_of_ble_eq_true rfl) 3 (fun Γ C Rt => ?_)
  show AW ids ad ca Γ 0 [some (.ref (ad 2)), some (.int x1), none, none, none] [] σ
  have JE : ∀ (σq : HS) (w : Int64), TT n σ σq → (σ.1 2 5).toInt ≤ (σq.1 2 5).toInt ∧ (σq.1 2 5).toInt ≤ (σ.1 2 1).toInt → VB ((σq.1 2 5).toInt - (σ.1 2 5).toInt) w → AW ids ad ca Γ 66 [some (.ref (ad 2)), some (.int x1), some (.int (σ.1 2 5)), some (.long w), none] [] σq := by
    intro σq w ht hb hv
    refine a_aload_n C dX9_cutInt_66 (i := 0) rfl rfl ?_
    refine a_get C fl_RX9_21 (i := 2) kd_2 (hid 2 (by decide)) (v := .ref (ad 6)) rfl dX9_cutInt_67 ?_
    refine a_iload_n C dX9_cutInt_70 (i := 1) rfl rfl ?_
    refine a_lload_n C dX9_cutInt_71 (i := 3) rfl rfl ?_
    refine s_last C (i := 6) kd_6 (hid 6 (by decide)) al_6 (by omega) (by omega) dX9_cutInt_72 (fun jn hjn => ?_)
    have ej : jn = n := by omega
    subst ej
    have e5 : (hL σq 6 jn w).1 2 5 = σq.1 2 5 := rfl
    refine a_aload_n C dX9_cutInt_73 (i := 0) rfl rfl ?_
    refine a_get C fl_RX9_29 (i := 2) kd_2 (hid 2 (by decide)) (v := .int (σq.1 2 5)) rfl dX9_cutInt_74 ?_
    refine a_iload_n C dX9_cutInt_77 (i := 2) rfl rfl ?_
    refine s_isub C dX9_cutInt_78 (by omega) (fun z hz => ?_)
    refine s_iconst C dX9_cutInt_79 4 (by decide) (fun z4 hz4 => ?_)
    refine s_ic_gt C dX9_cutInt_80 (tgt := 88) rfl (fun _ => ?_) (fun c => ?_)
    · refine s_bipush C dX9_cutInt_88 23 (by decide) (fun v hv2 => ?_)
      exact a_iret Rt dX9_cutInt_90 rfl ⟨ht.val, by rw [e5]; exact hb, fun e => by omega⟩
    · refine s_bipush C dX9_cutInt_83 21 (by decide) (fun v hv2 => ?_)
      refine a_goto C dX9_cutInt_85 (tgt := 90) rfl ?_
      refine a_iret Rt dX9_cutInt_90 rfl ⟨ht.val, by rw [e5]; exact hb, fun _ => ?_⟩
      rw [hL_s]
      obtain ⟨g0, g1, g2, g3, g4, g5⟩ := hv
      omega
  have hP : ∀ σ1 : HS, TT n σ σ1 → (σ1.1 2 1).toInt = (σ.1 2 1).toInt := fun σ1 h => by rw [h.2.1]
  have J : ∀ (d : Nat) (σq : HS) (w : Int64), (σ.1 2 1).toInt - (σq.1 2 5).toInt < d → TT n σ σq → (σ.1 2 5).toInt ≤ (σq.1 2 5).toInt ∧ (σq.1 2 5).toInt ≤ (σ.1 2 1).toInt → VB ((σq.1 2 5).toInt - (σ.1 2 5).toInt) w → AW ids ad ca Γ 7 [some (.ref (ad 2)), some (.int x1), some (.int (σ.1 2 5)), some (.long w), none] [] σq := by
    intro d
    induction d with
    | zero => intro σq w hd _ hb; exfalso; omega
    | succ d ih =>
      intro σq w hd ht hb hv
      have hs := hP σq ht
      have hend := JE σq w ht hb hv
      refine a_aload_n C dX9_cutInt_7 (i := 0) rfl rfl ?_
      refine a_get C fl_RX9_29 (i := 2) kd_2 (hid 2 (by decide)) (v := .int (σq.1 2 5)) rfl dX9_cutInt_8 ?_
      refine a_aload_n C dX9_cutInt_11 (i := 0) rfl rfl ?_
      refine a_get C fl_RX9_25 (i := 2) kd_2 (hid 2 (by decide)) (v := .int (σq.1 2 1)) rfl dX9_cutInt_12 ?_
      refine s_ic_ge C dX9_cutInt_15 (tgt := 66) rfl (fun _ => hend) (fun c1 => ?_)
      refine a_aload_n C dX9_cutInt_18 (i := 0) rfl rfl ?_
      refine a_get C fl_RX9_9 (i := 2) kd_2 (hid 2 (by decide)) (v := .ref (ad 3)) rfl dX9_cutInt_19 ?_
      refine a_aload_n C dX9_cutInt_22 (i := 0) rfl rfl ?_
      refine a_get C fl_RX9_29 (i := 2) kd_2 (hid 2 (by decide)) (v := .int (σq.1 2 5)) rfl dX9_cutInt_23 ?_
      refine s_iald C (i := 3) kd_3 (hid 3 (by decide)) al_3 (by omega) (by omega) dX9_cutInt_26 (fun jn hjn => ?_)
      refine a_callSi C (As := [.int (σq.1 3 jn)]) S_X9_isDigit ms_X9_isDigit ml_RX9_46 rfl rfl (Nat.le_of_ble_eq_true rfl) (Nat.le_of_ble_eq_true rfl) (Nat.le_of_ble_eq_true rfl) dX9_cutInt_27 (fun r σ1 q => ?_)
      obtain ⟨q, rfl⟩ := q
      rcases q with rfl | ⟨rfl, hd1, hd2⟩
      · exact a_if_eq C dX9_cutInt_30 (tgt := 66) rfl (fun _ => hend) (fun h => absurd rfl h)
      refine a_if_eq C dX9_cutInt_30 (tgt := 66) rfl (fun _ => hend) (fun _ => ?_)
      refine a_lload_n C dX9_cutInt_33 (i := 3) rfl rfl ?_
      refine a_ldc2 C dX9_cutInt_34 ko_RX9_65 ?_
      refine a_lmul C dX9_cutInt_37 ?_
      refine a_aload_n C dX9_cutInt_38 (i := 0) rfl rfl ?_
      refine a_get C fl_RX9_9 (i := 2) kd_2 (hid 2 (by decide)) (v := .ref (ad 3)) rfl dX9_cutInt_39 ?_
      refine a_aload_n C dX9_cutInt_42 (i := 0) rfl rfl ?_
      refine a_get C fl_RX9_29 (i := 2) kd_2 (hid 2 (by decide)) (v := .int (σ1.1 2 5)) rfl dX9_cutInt_43 ?_
      refine s_iald C (i := 3) kd_3 (hid 3 (by decide)) al_3 (by omega) (by omega) dX9_cutInt_46 (fun jm hjm => ?_)
      have ejm : jm = jn := by omega
      subst ejm
      refine s_bipush C dX9_cutInt_47 48 (by decide) (fun z hz => ?_)
      refine s_isub C dX9_cutInt_49 (by omega) (fun z1 hz1 => ?_)
      refine a_i2l C dX9_cutInt_50 ?_
      refine a_ladd C dX9_cutInt_51 ?_
      refine a_lstore_n C dX9_cutInt_52 (i := 3) rfl (by decide) rfl (vs1 := [some (.ref (ad 2)), some (.int x1), some (.int (σ.1 2 5)), some (.long (w * 10 + z1.toInt64)), none]) rfl ?_
      refine a_aload_n C dX9_cutInt_53 (i := 0) rfl rfl ?_
      refine a_dup C dX9_cutInt_54 rfl ?_
      refine a_get C fl_RX9_29 (i := 2) kd_2 (hid 2 (by decide)) (v := .int (σ1.1 2 5)) rfl dX9_cutInt_55 ?_
      refine s_iconst C dX9_cutInt_58 1 (by decide) (fun u hu => ?_)
      refine s_iadd C dX9_cutInt_59 (by omega) (fun u1 hu1 => ?_)
      refine a_put C fp_RX9_29 (i := 2) kd_2 (hid 2 (by decide)) rfl rfl dX9_cutInt_60 ?_
      refine a_goto C dX9_cutInt_63 (tgt := 7) rfl ?_
      have e5 : ((hI σ1 2 5 u1).1 2 5) = u1 := hI_s
      refine ih _ _ (by rw [e5]; omega) ht.at (by rw [e5]; omega) (by rw [e5]; have g := hv.step (z := z1) (by omega); rw [show u1.toInt - (σ.1 2 5).toInt = (σ1.1 2 5).toInt - (σ.1 2 5).toInt + 1 by omega]; exact g)
  refine a_aload_n C dX9_cutInt_0 (i := 0) rfl rfl ?_
  refine a_get C fl_RX9_29 (i := 2) kd_2 (hid 2 (by decide)) (v := .int (σ.1 2 5)) rfl dX9_cutInt_1 ?_
  refine a_istore_n C dX9_cutInt_4 (i := 2) rfl (by decide) rfl (vs1 := [some (.ref (ad 2)), some (.int x1), some (.int (σ.1 2 5)), none, none]) rfl ?_
  refine a_lconst C dX9_cutInt_5 (v := 0) (by decide) ?_
  refine a_lstore_n C dX9_cutInt_6 (i := 3) rfl (by decide) rfl (vs1 := [some (.ref (ad 2)), some (.int x1), some (.int (σ.1 2 5)), some (.long 0), none]) rfl ?_
  exact J ((σ.1 2 1).toInt - (σ.1 2 5).toInt + 1).toNat σ 0 (by omega) TT.rf (by omega) ⟨by omega, fun _ => by decide, fun e => by omega, fun e => by omega, fun e => by omega, fun e => by omega⟩
set_option maxRecDepth 10000 in
theorem S_X9_cutWord {l : Launch} {D : va_G} {ids : List Nat} {ad : Nat → Nat} {ca : Nat → ClassId} {K : (Nat → Nat) × (Nat → Nat)} {σ : HS} {x1 : Int32} (hid : ∀ i, i < 277 → i ∈ ids) (h0 : 0 ≤ (σ.1 2 5).toInt) (h1 : (σ.1 2 5).toInt ≤ (σ.1 2 1).toInt) (h2 : (σ.1 2 1).toInt ≤ 2000) {n : Nat} (hn : (n : Int) = x1.toInt) (hx : x1.toInt ≤ 400) : KiS l D ids ad ca K yX9_cutWord cX9_cutWord 6 .int 5 140 [.ref (ad 2), .int x1] σ (fun r σ' => TT n σ σ' ∧ ((σ.1 2 5).toInt ≤ (σ'.1 2 5).toInt ∧ (σ'.1 2 5).toInt ≤ (σ.1 2 1).toInt) ∧ (r.toInt = 21 → 0 ≤ (σ'.2.1 6 n).toInt ∧ (σ'.2.1 6 n).toInt ≤ 9999)) := by
  refine KiS.of (by decide) (Nat.le_of_ble_eq_true rfl) 4 (fun Γ C E Rt => ?_)
  show AW ids ad ca Γ 0 [some (.ref (ad 2)), some (.int x1), none, none, none, none] [] σ
  have JE : ∀ (σq : HS) (w : Int64), TT n σ σq → (σ.1 2 5).toInt ≤ (σq.1 2 5).toInt ∧ (σq.1 2 5).toInt ≤ (σ.1 2 1).toInt → True → AW ids ad ca Γ 68 [some (.ref (ad 2)), some (.int x1), some (.int (σ.1 2 5)), some (.long w), none, none] [] σq := by
    intro σq w ht hb _
    refine a_aload_n C dX9_cutWord_68 (i := 0) rfl rfl ?_
    refine a_get C fl_RX9_21 (i := 2) kd_2 (hid 2 (by decide)) (v := .ref (ad 6)) rfl dX9_cutWord_69 ?_
    refine a_iload_n C dX9_cutWord_72 (i := 1) rfl rfl ?_
    refine a_lload_n C dX9_cutWord_73 (i := 3) rfl rfl ?_
    refine s_last C (i := 6) kd_6 (hid 6 (by decide)) al_6 (by omega) (by omega) dX9_cutWord_74 (fun jn hjn => ?_)
    have ej : jn = n := by omega
    subst ej
    have e5 : (hL σq 6 jn w).1 2 5 = σq.1 2 5 := rfl
    refine a_aload_n C dX9_cutWord_75 (i := 0) rfl rfl ?_
    refine a_iload_n C dX9_cutWord_76 (i := 2) rfl rfl ?_
    refine a_aload_n C dX9_cutWord_77 (i := 0) rfl rfl ?_
    refine a_get C fl_RX9_29 (i := 2) kd_2 (hid 2 (by decide)) (v := .int (σq.1 2 5)) rfl dX9_cutWord_78 ?_
    refine a_iload_n C dX9_cutWord_81 (i := 2) rfl rfl ?_
    refine s_isub C dX9_cutWord_82 (by omega) (fun z hz => ?_)
    refine a_cViS C E (As := [.int (σ.1 2 5), .int z]) (i := 2) kd_2 (hid 2 (by decide)) ⟨_, _, rfl⟩ (by decide) (S_X9_wordAt hid (by omega) (by omega) (by omega)) mi_X9_wordAt ml_RX9_61 rfl rfl (Nat.le_of_ble_eq_true rfl) (Nat.le_of_ble_eq_true rfl) (Nat.le_of_ble_eq_true rfl) dX9_cutWord_83 (fun r σ1 q => ?_)
    obtain ⟨hr, rfl⟩ := q
    refine a_istore C dX9_cutWord_86 (by decide) rfl (vs1 := [some (.ref (ad 2)), some (.int x1), some (.int (σ.1 2 5)), some (.long w), none, some (.int r)]) rfl ?_
    refine a_iload C dX9_cutWord_88 rfl ?_
    refine s_iconst C dX9_cutWord_90 (-1) (by decide) (fun z1 hz1 => ?_)
    refine a_ic_eq C dX9_cutWord_91 (tgt := 97) rfl (fun _ => ?_) (fun _ => ?_)
    · refine a_aload_n C dX9_cutWord_97 (i := 0) rfl rfl ?_
      refine a_get C fl_RX9_29 (i := 2) kd_2 (hid 2 (by decide)) (v := .int (σq.1 2 5)) rfl dX9_cutWord_98 ?_
      refine a_iload_n C dX9_cutWord_101 (i := 2) rfl rfl ?_
      refine s_isub C dX9_cutWord_102 (by omega) (fun z2 hz2 => ?_)
      refine s_bipush C dX9_cutWord_103 8 (by decide) (fun z4 hz4 => ?_)
      refine s_ic_gt C dX9_cutWord_105 (tgt := 113) rfl (fun _ => ?_) (fun c => ?_)
      · refine s_bipush C dX9_cutWord_113 23 (by decide) (fun v hv2 => ?_)
        exact a_iret Rt dX9_cutWord_115 rfl ⟨ht.val, by rw [e5]; exact hb, fun e => by omega⟩
      · refine s_bipush C dX9_cutWord_108 20 (by decide) (fun v hv2 => ?_)
        refine a_goto C dX9_cutWord_110 (tgt := 115) rfl ?_
        exact a_iret Rt dX9_cutWord_115 rfl ⟨ht.val, by rw [e5]; exact hb, fun e => by omega⟩
    · refine a_iload C dX9_cutWord_94 rfl ?_
      exact a_iret Rt dX9_cutWord_96 rfl ⟨ht.val, by rw [e5]; exact hb, fun e => absurd e hr⟩
  have hP : ∀ σ1 : HS, TT n σ σ1 → (σ1.1 2 1).toInt = (σ.1 2 1).toInt := fun σ1 h => by rw [h.2.1]
  have J : ∀ (d : Nat) (σq : HS) (w : Int64), (σ.1 2 1).toInt - (σq.1 2 5).toInt < d → TT n σ σq → (σ.1 2 5).toInt ≤ (σq.1 2 5).toInt ∧ (σq.1 2 5).toInt ≤ (σ.1 2 1).toInt → True → AW ids ad ca Γ 7 [some (.ref (ad 2)), some (.int x1), some (.int (σ.1 2 5)), some (.long w), none, none] [] σq := by
    intro d
    induction d with
    | zero => intro σq w hd _ hb; exfalso; omega
    | succ d ih =>
      intro σq w hd ht hb hv
      have hs := hP σq ht
      have hend := JE σq w ht hb hv
      refine a_aload_n C dX9_cutWord_7 (i := 0) rfl rfl ?_
      refine a_get C fl_RX9_29 (i := 2) kd_2 (hid 2 (by decide)) (v := .int (σq.1 2 5)) rfl dX9_cutWord_8 ?_
      refine a_aload_n C dX9_cutWord_11 (i := 0) rfl rfl ?_
      refine a_get C fl_RX9_25 (i := 2) kd_2 (hid 2 (by decide)) (v := .int (σq.1 2 1)) rfl dX9_cutWord_12 ?_
      refine s_ic_ge C dX9_cutWord_15 (tgt := 68) rfl (fun _ => hend) (fun c1 => ?_)
      refine a_aload_n C dX9_cutWord_18 (i := 0) rfl rfl ?_
      refine a_get C fl_RX9_9 (i := 2) kd_2 (hid 2 (by decide)) (v := .ref (ad 3)) rfl dX9_cutWord_19 ?_
      refine a_aload_n C dX9_cutWord_22 (i := 0) rfl rfl ?_
      refine a_get C fl_RX9_29 (i := 2) kd_2 (hid 2 (by decide)) (v := .int (σq.1 2 5)) rfl dX9_cutWord_23 ?_
      refine s_iald C (i := 3) kd_3 (hid 3 (by decide)) al_3 (by omega) (by omega) dX9_cutWord_26 (fun jn hjn => ?_)
      refine a_callSi C (As := [.int (σq.1 3 jn)]) S_X9_isLetter ms_X9_isLetter ml_RX9_40 rfl rfl (Nat.le_of_ble_eq_true rfl) (Nat.le_of_ble_eq_true rfl) (Nat.le_of_ble_eq_true rfl) dX9_cutWord_27 (fun r σ1 q => ?_)
      obtain ⟨q, rfl⟩ := q
      rcases q with rfl | ⟨rfl, hd1, hd2⟩
      · exact a_if_eq C dX9_cutWord_30 (tgt := 68) rfl (fun _ => hend) (fun h => absurd rfl h)
      refine a_if_eq C dX9_cutWord_30 (tgt := 68) rfl (fun _ => hend) (fun _ => ?_)
      refine a_lload_n C dX9_cutWord_33 (i := 3) rfl rfl ?_
      refine a_ldc2 C dX9_cutWord_34 ko_RX9_59 ?_
      refine a_lmul C dX9_cutWord_37 ?_
      refine a_aload_n C dX9_cutWord_38 (i := 0) rfl rfl ?_
      refine a_get C fl_RX9_9 (i := 2) kd_2 (hid 2 (by decide)) (v := .ref (ad 3)) rfl dX9_cutWord_39 ?_
      refine a_aload_n C dX9_cutWord_42 (i := 0) rfl rfl ?_
      refine a_get C fl_RX9_29 (i := 2) kd_2 (hid 2 (by decide)) (v := .int (σ1.1 2 5)) rfl dX9_cutWord_43 ?_
      refine s_iald C (i := 3) kd_3 (hid 3 (by decide)) al_3 (by omega) (by omega) dX9_cutWord_46 (fun jm hjm => ?_)
      have ejm : jm = jn := by omega
      subst ejm
      refine s_bipush C dX9_cutWord_47 97 (by decide) (fun z hz => ?_)
      refine s_isub C dX9_cutWord_49 (by omega) (fun z1 hz1 => ?_)
      refine s_iconst C dX9_cutWord_50 1 (by decide) (fun z2 hz2 => ?_)
      refine s_iadd C dX9_cutWord_51 (by omega) (fun z3 hz3 => ?_)
      refine a_i2l C dX9_cutWord_52 ?_
      refine a_ladd C dX9_cutWord_53 ?_
      refine a_lstore_n C dX9_cutWord_54 (i := 3) rfl (by decide) rfl (vs1 := [some (.ref (ad 2)), some (.int x1), some (.int (σ.1 2 5)), some (.long (w * 27 + z3.toInt64)), none, none]) rfl ?_
      refine a_aload_n C dX9_cutWord_55 (i := 0) rfl rfl ?_
      refine a_dup C dX9_cutWord_56 rfl ?_
      refine a_get C fl_RX9_29 (i := 2) kd_2 (hid 2 (by decide)) (v := .int (σ1.1 2 5)) rfl dX9_cutWord_57 ?_
      refine s_iconst C dX9_cutWord_60 1 (by decide) (fun u hu => ?_)
      refine s_iadd C dX9_cutWord_61 (by omega) (fun u1 hu1 => ?_)
      refine a_put C fp_RX9_29 (i := 2) kd_2 (hid 2 (by decide)) rfl rfl dX9_cutWord_62 ?_
      refine a_goto C dX9_cutWord_65 (tgt := 7) rfl ?_
      have e5 : ((hI σ1 2 5 u1).1 2 5) = u1 := hI_s
      refine ih _ _ (by rw [e5]; omega) ht.at (by rw [e5]; omega) trivial
  refine a_aload_n C dX9_cutWord_0 (i := 0) rfl rfl ?_
  refine a_get C fl_RX9_29 (i := 2) kd_2 (hid 2 (by decide)) (v := .int (σ.1 2 5)) rfl dX9_cutWord_1 ?_
  refine a_istore_n C dX9_cutWord_4 (i := 2) rfl (by decide) rfl (vs1 := [some (.ref (ad 2)), some (.int x1), some (.int (σ.1 2 5)), none, none, none]) rfl ?_
  refine a_lconst C dX9_cutWord_5 (v := 0) (by decide) ?_
  refine a_lstore_n C dX9_cutWord_6 (i := 3) rfl (by decide) rfl (vs1 := [some (.ref (ad 2)), some (.int x1), some (.int (σ.1 2 5)), some (.long 0), none, none]) rfl ?_
  exact J ((σ.1 2 1).toInt - (σ.1 2 5).toInt + 1).toNat σ 0 (by omega) TT.rf (by omega) trivial
set_option maxRecDepth 10000 in
theorem S_X9_cutOne {l : Launch} {D : va_G} {ids : List Nat} {ad : Nat → Nat} {ca : Nat → ClassId} {K : (Nat → Nat) × (Nat → Nat)} {σ : HS} {x1 : Int32} (hid : ∀ i, i < 277 → i ∈ ids) (h0 : 0 ≤ (σ.1 2 5).toInt) (h1 : (σ.1 2 5).toInt ≤ (σ.1 2 1).toInt) (h2 : (σ.1 2 1).toInt ≤ 2000) {n : Nat} (hn : (n : Int) = x1.toInt) (hx : x1.toInt ≤ 400) : KiS l D ids ad ca K yX9_cutOne cX9_cutOne 3 .int 6 180 [.ref (ad 2), .int x1] σ (fun r σ' => TT n σ σ' ∧ ((σ.1 2 5).toInt ≤ (σ'.1 2 5).toInt ∧ (σ'.1 2 5).toInt ≤ (σ.1 2 1).toInt) ∧ (r.toInt = 21 → 0 ≤ (σ'.2.1 6 n).toInt ∧ (σ'.2.1 6 n).toInt ≤ 9999)) := by
  refine KiS.of (by decide) (Nat.le_of_ble_eq_true rfl) 1 (fun Γ C E Rt => ?_)
  show AW ids ad ca Γ 0 [some (.ref (ad 2)), some (.int x1), none] [] σ
  refine a_aload_n C dX9_cutOne_0 (i := 0) rfl rfl ?_
  refine a_get C fl_RX9_29 (i := 2) kd_2 (hid 2 (by decide)) (v := .int (σ.1 2 5)) rfl dX9_cutOne_1 ?_
  refine a_aload_n C dX9_cutOne_4 (i := 0) rfl rfl ?_
  refine a_get C fl_RX9_25 (i := 2) kd_2 (hid 2 (by decide)) (v := .int (σ.1 2 1)) rfl dX9_cutOne_5 ?_
  refine s_ic_lt C dX9_cutOne_8 (tgt := 14) rfl (fun c1 => ?_) (fun _ => ?_)
  · refine a_aload_n C dX9_cutOne_14 (i := 0) rfl rfl ?_
    refine a_get C fl_RX9_9 (i := 2) kd_2 (hid 2 (by decide)) (v := .ref (ad 3)) rfl dX9_cutOne_15 ?_
    refine a_aload_n C dX9_cutOne_18 (i := 0) rfl rfl ?_
    refine a_get C fl_RX9_29 (i := 2) kd_2 (hid 2 (by decide)) (v := .int (σ.1 2 5)) rfl dX9_cutOne_19 ?_
    refine s_iald C (i := 3) kd_3 (hid 3 (by decide)) al_3 (by omega) (by omega) dX9_cutOne_22 (fun jn hjn => ?_)
    refine a_callSi C (As := [.int (σ.1 3 jn)]) S_X9_isLetter ms_X9_isLetter ml_RX9_40 rfl rfl (Nat.le_of_ble_eq_true rfl) (Nat.le_of_ble_eq_true rfl) (Nat.le_of_ble_eq_true rfl) dX9_cutOne_23 (fun r σ1 q => ?_)
    obtain ⟨_, rfl⟩ := q
    refine a_if_eq C dX9_cutOne_26 (tgt := 35) rfl (fun _ => ?_) (fun _ => ?_)
    · refine a_aload_n C dX9_cutOne_35 (i := 0) rfl rfl ?_
      refine a_get C fl_RX9_9 (i := 2) kd_2 (hid 2 (by decide)) (v := .ref (ad 3)) rfl dX9_cutOne_36 ?_
      refine a_aload_n C dX9_cutOne_39 (i := 0) rfl rfl ?_
      refine a_get C fl_RX9_29 (i := 2) kd_2 (hid 2 (by decide)) (v := .int (σ1.1 2 5)) rfl dX9_cutOne_40 ?_
      refine s_iald C (i := 3) kd_3 (hid 3 (by decide)) al_3 (by omega) (by omega) dX9_cutOne_43 (fun jm hjm => ?_)
      refine a_callSi C (As := [.int (σ1.1 3 jm)]) S_X9_isDigit ms_X9_isDigit ml_RX9_46 rfl rfl (Nat.le_of_ble_eq_true rfl) (Nat.le_of_ble_eq_true rfl) (Nat.le_of_ble_eq_true rfl) dX9_cutOne_44 (fun r2 σ2 q => ?_)
      obtain ⟨_, rfl⟩ := q
      refine a_if_eq C dX9_cutOne_47 (tgt := 56) rfl (fun _ => ?_) (fun _ => ?_)
      · refine a_aload_n C dX9_cutOne_56 (i := 0) rfl rfl ?_
        refine a_get C fl_RX9_9 (i := 2) kd_2 (hid 2 (by decide)) (v := .ref (ad 3)) rfl dX9_cutOne_57 ?_
        refine a_aload_n C dX9_cutOne_60 (i := 0) rfl rfl ?_
        refine a_get C fl_RX9_29 (i := 2) kd_2 (hid 2 (by decide)) (v := .int (σ2.1 2 5)) rfl dX9_cutOne_61 ?_
        refine s_iald C (i := 3) kd_3 (hid 3 (by decide)) al_3 (by omega) (by omega) dX9_cutOne_64 (fun jk hjk => ?_)
        refine a_istore_n C dX9_cutOne_65 (i := 2) rfl (by decide) rfl (vs1 := [some (.ref (ad 2)), some (.int x1), some (.int (σ2.1 3 jk))]) rfl ?_
        refine a_aload_n C dX9_cutOne_66 (i := 0) rfl rfl ?_
        refine a_dup C dX9_cutOne_67 rfl ?_
        refine a_get C fl_RX9_29 (i := 2) kd_2 (hid 2 (by decide)) (v := .int (σ2.1 2 5)) rfl dX9_cutOne_68 ?_
        refine s_iconst C dX9_cutOne_71 1 (by decide) (fun u hu => ?_)
        refine s_iadd C dX9_cutOne_72 (by omega) (fun u1 hu1 => ?_)
        refine a_put C fp_RX9_29 (i := 2) kd_2 (hid 2 (by decide)) rfl rfl dX9_cutOne_73 ?_
        have e5 : ((hI σ2 2 5 u1).1 2 5) = u1 := hI_s
        refine a_ldcG C E rfl dX9_cutOne_76 ?_
        refine a_iload_n C dX9_cutOne_78 (i := 2) rfl rfl ?_
        refine a_i2c C dX9_cutOne_79 ?_
        refine a_cTiS C E (As := [.int (((σ2.1 3 jk).toUInt32 % 65536).toInt32)]) (i := 1) (by decide) rfl J_io1 mi_J0_indexOf_0f7a4 ml_RX9_54 rfl rfl (Nat.le_of_ble_eq_true rfl) (Nat.le_of_ble_eq_true rfl) (Nat.le_of_ble_eq_true rfl) dX9_cutOne_80 (fun r3 σ3 q => ?_)
        obtain ⟨hq, rfl⟩ := q
        refine s_if_lt C dX9_cutOne_83 (tgt := 90) rfl (fun _ => ?_) (fun c3 => ?_)
        · refine s_bipush C dX9_cutOne_90 23 (by decide) (fun v hv => ?_)
          exact a_iret Rt dX9_cutOne_92 rfl ⟨TT.rf.at, by rw [e5]; omega, fun e => by omega⟩
        · refine a_iload_n C dX9_cutOne_86 (i := 2) rfl rfl ?_
          refine a_goto C dX9_cutOne_87 (tgt := 92) rfl ?_
          refine a_iret Rt dX9_cutOne_92 rfl ⟨TT.rf.at, by rw [e5]; omega, fun e => ?_⟩
          have g := hq c3
          have e' : σ2.1 3 jk = 21 := Int32.toInt_inj.mp e
          rw [e'] at g
          exact absurd g.1 (by decide)
      · refine a_aload_n C dX9_cutOne_50 (i := 0) rfl rfl ?_
        refine a_iload_n C dX9_cutOne_51 (i := 1) rfl rfl ?_
        refine a_callVi C (As := [.int x1]) (i := 2) kd_2 (hid 2 (by decide)) ⟨_, _, rfl⟩ (by decide) (S_X9_cutInt hid h0 h1 h2 hn hx) mi_X9_cutInt ml_RX9_49 rfl rfl (Nat.le_of_ble_eq_true rfl) (Nat.le_of_ble_eq_true rfl) (Nat.le_of_ble_eq_true rfl) dX9_cutOne_52 (fun r3 σ3 q => ?_)
        exact a_iret Rt dX9_cutOne_55 rfl q
    · refine a_aload_n C dX9_cutOne_29 (i := 0) rfl rfl ?_
      refine a_iload_n C dX9_cutOne_30 (i := 1) rfl rfl ?_
      refine a_cViS C E (As := [.int x1]) (i := 2) kd_2 (hid 2 (by decide)) ⟨_, _, rfl⟩ (by decide) (S_X9_cutWord hid h0 h1 h2 hn hx) mi_X9_cutWord ml_RX9_43 rfl rfl (Nat.le_of_ble_eq_true rfl) (Nat.le_of_ble_eq_true rfl) (Nat.le_of_ble_eq_true rfl) dX9_cutOne_31 (fun r3 σ3 q => ?_)
      exact a_iret Rt dX9_cutOne_34 rfl q
  · refine s_bipush C dX9_cutOne_11 22 (by decide) (fun v hv => ?_)
    exact a_iret Rt dX9_cutOne_13 rfl ⟨TT.rf, by omega, fun e => by omega⟩
theorem wF_2_5 {σ : HS} {v : Int32} (h : GIc σ) (h1 : 0 ≤ v.toInt) (h2 : v.toInt ≤ 2000) : GIc (hI σ 2 5 v) := GIc.I h (hF_of (L := [(2, 5, 0, 2000)]) (by decide) (fun q hq => by simp only [List.mem_cons, List.not_mem_nil, or_false] at hq; subst hq; exact ⟨h1, h2⟩)) (fun q hq e => absurd e ((by decide : ∀ q ∈ bdA, q.1 ≠ 2) q hq)) (fun a ha e hk => absurd e (by omega)) (by decide)
theorem wA_5 {σ : HS} {v : Int32} {j : Nat} (h : GIc σ) : GIc (hI σ 5 j v) := GIc.I h (fun q hq e1 _ => absurd e1 ((by decide : ∀ q ∈ bdF, q.1 ≠ 5) q hq)) (fun q hq e => absurd e ((by decide : ∀ q ∈ bdA, q.1 ≠ 5) q hq)) (fun a ha e hk => absurd e (by omega)) (by decide)
theorem bF_2_5 {σ : HS} (h : GIc σ) : 0 ≤ (σ.1 2 5).toInt ∧ (σ.1 2 5).toInt ≤ 2000 := h.1 (2, 5, 0, 2000) (by decide)
set_option maxRecDepth 10000 in
theorem S_X9_cut {l : Launch} {D : va_G} {ids : List Nat} {ad : Nat → Nat} {ca : Nat → ClassId} {K : (Nat → Nat) × (Nat → Nat)} {σ : HS} (hid : ∀ i, i < 277 → i ∈ ids) (hG : GIc σ) : KvS l D ids ad ca K yX9_cut cX9_cut 3 7 220 [.ref (ad 2)] σ (fun σ' => GIc σ' ∧ ony [2, 4, 5, 6] σ σ' ∧ σ'.1 2 1 = σ.1 2 1) := by
  refine KvS.of (by decide) (Nat.le_of_ble_eq_true rfl) 2 (fun Γ C E Rt => ?_)
  show AW ids ad ca Γ 0 [some (.ref (ad 2)), none, none] [] σ
  have J : ∀ (d : Nat) (σq : HS) (k i : Int32), 401 - i.toInt < d → 0 ≤ i.toInt ∧ i.toInt ≤ 401 → GIc σq → ony [2, 4, 5, 6] σ σq → σq.1 2 1 = σ.1 2 1 → (σq.1 2 5).toInt ≤ (σq.1 2 1).toInt → AW ids ad ca Γ 9 [some (.ref (ad 2)), some (.int k), some (.int i)] [] σq := by
    intro d
    induction d with
    | zero => intro σq k i hd hi; exfalso; omega
    | succ d ih =>
      intro σq k i hd hi hGq hoq hsq haq
      have hend : ∀ vs, AW ids ad ca Γ 96 vs [] σq := fun vs => a_vret Rt dX9_cut_96 ⟨hGq, hoq, hsq⟩
      refine a_iload_n C dX9_cut_9 (i := 2) rfl rfl ?_
      refine s_sipush C dX9_cut_10 400 (by decide) (fun z hz => ?_)
      refine s_ic_gt C dX9_cut_13 (tgt := 96) rfl (fun _ => hend _) (fun c1 => ?_)
      refine a_iload_n C dX9_cut_16 (i := 1) rfl rfl ?_
      refine s_bipush C dX9_cut_17 22 (by decide) (fun z1 _ => ?_)
      refine a_ic_eq C dX9_cut_19 (tgt := 96) rfl (fun _ => hend _) (fun _ => ?_)
      refine a_iload_n C dX9_cut_22 (i := 1) rfl rfl ?_
      refine s_bipush C dX9_cut_23 23 (by decide) (fun z2 _ => ?_)
      refine a_ic_eq C dX9_cut_25 (tgt := 96) rfl (fun _ => hend _) (fun _ => ?_)
      have j67 : ∀ (σp : HS), GIc σp → ony [2, 4, 5, 6] σ σp → σp.1 2 1 = σ.1 2 1 → (σp.1 2 5).toInt ≤ (σp.1 2 1).toInt → AW ids ad ca Γ 67 [some (.ref (ad 2)), some (.int k), some (.int i)] [] σp := by
        intro σp hGp hop hsp hap
        refine a_aload_n C dX9_cut_67 (i := 0) rfl rfl ?_
        refine a_get C fl_RX9_18 (i := 2) kd_2 (hid 2 (by decide)) (v := .ref (ad 5)) rfl dX9_cut_68 ?_
        refine a_iload_n C dX9_cut_71 (i := 2) rfl rfl ?_
        refine a_aload_n C dX9_cut_72 (i := 0) rfl rfl ?_
        refine a_get C fl_RX9_29 (i := 2) kd_2 (hid 2 (by decide)) (v := .int (σp.1 2 5)) rfl dX9_cut_73 ?_
        refine s_iast C (i := 5) kd_5 (hid 5 (by decide)) al_5 (by omega) (by omega) dX9_cut_76 (fun n hn => ?_)
        have hG5 := wA_5 (v := σp.1 2 5) (j := n) hGp
        have e21 : (hI σp 5 n (σp.1 2 5)).1 2 = σp.1 2 := hI_o (by decide)
        have b1 := bF_2_1 hGp
        have b5 := bF_2_5 hGp
        refine a_aload_n C dX9_cut_77 (i := 0) rfl rfl ?_
        refine a_iload_n C dX9_cut_78 (i := 2) rfl rfl ?_
        refine a_cViS C E (As := [.int i]) (i := 2) kd_2 (hid 2 (by decide)) ⟨_, _, rfl⟩ (by decide) (S_X9_cutOne (n := n) hid (by rw [e21]; omega) (by rw [e21]; omega) (by rw [e21]; omega) hn (by omega)) mi_X9_cutOne ml_RX9_36 rfl rfl (Nat.le_of_ble_eq_true rfl) (Nat.le_of_ble_eq_true rfl) (Nat.le_of_ble_eq_true rfl) dX9_cut_79 (fun r σ1 q => ?_)
        obtain ⟨ht, hb, hr⟩ := q
        rw [e21] at hb
        refine a_istore_n C dX9_cut_82 (i := 1) rfl (by decide) rfl (vs1 := [some (.ref (ad 2)), some (.int r), some (.int i)]) rfl ?_
        refine a_aload_n C dX9_cut_83 (i := 0) rfl rfl ?_
        refine a_get C fl_RX9_15 (i := 2) kd_2 (hid 2 (by decide)) (v := .ref (ad 4)) rfl dX9_cut_84 ?_
        refine a_iload_n C dX9_cut_87 (i := 2) rfl rfl ?_
        refine a_iload_n C dX9_cut_88 (i := 1) rfl rfl ?_
        refine s_iast C (i := 4) kd_4 (hid 4 (by decide)) al_4 (by omega) (by omega) dX9_cut_89 (fun n2 hn2 => ?_)
        have en : n2 = n := by omega
        subst en
        have hG1 := TT.gi (r := r) hG5 ht (by omega) hr
        have ho1 : ony [2, 4, 5, 6] σ (hI σ1 4 n2 r) := ((hop.I (by decide)).tr (ht.1.mono (by decide))).I (by decide)
        have e2 : (hI σ1 4 n2 r).1 2 = σ1.1 2 := hI_o (by decide)
        have es : σ1.1 2 1 = σp.1 2 1 := by rw [ht.2.1, e21]
        refine s_iinc C dX9_cut_90 rfl 1 (by decide) (by omega) (by decide) rfl (fun i1 hi1 => ?_)
        show AW ids ad ca Γ 93 [some (.ref (ad 2)), some (.int r), some (.int i1)] _ _
        refine a_goto C dX9_cut_93 (tgt := 9) rfl ?_
        exact ih _ r i1 (by omega) (by omega) hG1 ho1 (by rw [e2, es, hsp]) (by rw [e2, es]; omega)
      have J2 : ∀ (d2 : Nat) (σp : HS), (σp.1 2 1).toInt - (σp.1 2 5).toInt < d2 → GIc σp → ony [2, 4, 5, 6] σ σp → σp.1 2 1 = σ.1 2 1 → (σp.1 2 5).toInt ≤ (σp.1 2 1).toInt → AW ids ad ca Γ 28 [some (.ref (ad 2)), some (.int k), some (.int i)] [] σp := by
        intro d2
        induction d2 with
        | zero => intro σp hd2 _ _ _ hap; exfalso; omega
        | succ d2 ih2 =>
          intro σp hd2 hGp hop hsp hap
          have b1 := bF_2_1 hGp
          have b5 := bF_2_5 hGp
          refine a_aload_n C dX9_cut_28 (i := 0) rfl rfl ?_
          refine a_get C fl_RX9_29 (i := 2) kd_2 (hid 2 (by decide)) (v := .int (σp.1 2 5)) rfl dX9_cut_29 ?_
          refine a_aload_n C dX9_cut_32 (i := 0) rfl rfl ?_
          refine a_get C fl_RX9_25 (i := 2) kd_2 (hid 2 (by decide)) (v := .int (σp.1 2 1)) rfl dX9_cut_33 ?_
          refine s_ic_ge C dX9_cut_36 (tgt := 67) rfl (fun _ => j67 σp hGp hop hsp hap) (fun c3 => ?_)
          refine a_aload_n C dX9_cut_39 (i := 0) rfl rfl ?_
          refine a_get C fl_RX9_9 (i := 2) kd_2 (hid 2 (by decide)) (v := .ref (ad 3)) rfl dX9_cut_40 ?_
          refine a_aload_n C dX9_cut_43 (i := 0) rfl rfl ?_
          refine a_get C fl_RX9_29 (i := 2) kd_2 (hid 2 (by decide)) (v := .int (σp.1 2 5)) rfl dX9_cut_44 ?_
          refine s_iald C (i := 3) kd_3 (hid 3 (by decide)) al_3 (by omega) (by omega) dX9_cut_47 (fun jn hjn => ?_)
          refine a_callSi C (As := [.int (σp.1 3 jn)]) S_X9_isBlank ms_X9_isBlank ml_RX9_32 rfl rfl (Nat.le_of_ble_eq_true rfl) (Nat.le_of_ble_eq_true rfl) (Nat.le_of_ble_eq_true rfl) dX9_cut_48 (fun r σ1 q => ?_)
          subst q
          refine a_if_eq C dX9_cut_51 (tgt := 67) rfl (fun _ => j67 σ1 hGp hop hsp hap) (fun _ => ?_)
          refine a_aload_n C dX9_cut_54 (i := 0) rfl rfl ?_
          refine a_dup C dX9_cut_55 rfl ?_
          refine a_get C fl_RX9_29 (i := 2) kd_2 (hid 2 (by decide)) (v := .int (σ1.1 2 5)) rfl dX9_cut_56 ?_
          refine s_iconst C dX9_cut_59 1 (by decide) (fun u hu => ?_)
          refine s_iadd C dX9_cut_60 (by omega) (fun u1 hu1 => ?_)
          refine a_put C fp_RX9_29 (i := 2) kd_2 (hid 2 (by decide)) rfl rfl dX9_cut_61 ?_
          refine a_goto C dX9_cut_64 (tgt := 28) rfl ?_
          have e5 : ((hI σ1 2 5 u1).1 2 5) = u1 := hI_s
          have e1 : ((hI σ1 2 5 u1).1 2 1) = σ1.1 2 1 := hI_n (by decide)
          exact ih2 _ (by rw [e5, e1]; omega) (wF_2_5 hGp (by omega) (by omega)) (hop.I (by decide)) (by rw [e1, hsp]) (by rw [e5, e1]; omega)
      exact J2 ((σq.1 2 1).toInt - (σq.1 2 5).toInt + 1).toNat σq (by omega) hGq hoq hsq haq
  refine a_aload_n C dX9_cut_0 (i := 0) rfl rfl ?_
  refine s_iconst C dX9_cut_1 0 (by decide) (fun z hz => ?_)
  refine a_put C fp_RX9_29 (i := 2) kd_2 (hid 2 (by decide)) rfl rfl dX9_cut_2 ?_
  refine s_iconst C dX9_cut_5 (-1) (by decide) (fun k hk => ?_)
  refine a_istore_n C dX9_cut_6 (i := 1) rfl (by decide) rfl (vs1 := [some (.ref (ad 2)), some (.int k), none]) rfl ?_
  refine s_iconst C dX9_cut_7 0 (by decide) (fun i hi => ?_)
  refine a_istore_n C dX9_cut_8 (i := 2) rfl (by decide) rfl (vs1 := [some (.ref (ad 2)), some (.int k), some (.int i)]) rfl ?_
  have e5 : ((hI σ 2 5 z).1 2 5) = z := hI_s
  have e1 : ((hI σ 2 5 z).1 2 1) = σ.1 2 1 := hI_n (by decide)
  have b1 := bF_2_1 hG
  exact J 402 _ k i (by omega) (by omega) (wF_2_5 hG (by omega) (by omega)) (ony.rf.I (by decide)) e1 (by rw [e5, e1]; omega)
