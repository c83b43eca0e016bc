/-! the tape cut into tokens -/
theorem dX9_isBlank_0 : decode cX9_isBlank 0 = .ok (.iload_n 0, 1) := by decide +kernel
theorem dX9_isBlank_1 : decode cX9_isBlank 1 = .ok (.bipush 9, 2) := by decide +kernel
theorem dX9_isBlank_3 : decode cX9_isBlank 3 = .ok (.if_icmp .eq 21, 3) := by decide +kernel
theorem dX9_isBlank_6 : decode cX9_isBlank 6 = .ok (.iload_n 0, 1) := by decide +kernel
theorem dX9_isBlank_7 : decode cX9_isBlank 7 = .ok (.bipush 10, 2) := by decide +kernel
theorem dX9_isBlank_9 : decode cX9_isBlank 9 = .ok (.if_icmp .eq 15, 3) := by decide +kernel
theorem dX9_isBlank_12 : decode cX9_isBlank 12 = .ok (.iload_n 0, 1) := by decide +kernel
theorem dX9_isBlank_13 : decode cX9_isBlank 13 = .ok (.bipush 13, 2) := by decide +kernel
theorem dX9_isBlank_15 : decode cX9_isBlank 15 = .ok (.if_icmp .eq 9, 3) := by decide +kernel
theorem dX9_isBlank_18 : decode cX9_isBlank 18 = .ok (.iload_n 0, 1) := by decide +kernel
theorem dX9_isBlank_19 : decode cX9_isBlank 19 = .ok (.bipush 32, 2) := by decide +kernel
theorem dX9_isBlank_21 : decode cX9_isBlank 21 = .ok (.if_icmp .ne 7, 3) := by decide +kernel
theorem dX9_isBlank_24 : decode cX9_isBlank 24 = .ok (.iconst 1, 1) := by decide +kernel
theorem dX9_isBlank_25 : decode cX9_isBlank 25 = .ok (.goto 4, 3) := by decide +kernel
theorem dX9_isBlank_28 : decode cX9_isBlank 28 = .ok (.iconst 0, 1) := by decide +kernel
theorem dX9_isBlank_29 : decode cX9_isBlank 29 = .ok (.ireturn, 1) := by decide +kernel
theorem dX9_isLetter_0 : decode cX9_isLetter 0 = .ok (.iload_n 0, 1) := by decide +kernel
theorem dX9_isLetter_1 : decode cX9_isLetter 1 = .ok (.bipush 97, 2) := by decide +kernel
theorem dX9_isLetter_3 : decode cX9_isLetter 3 = .ok (.if_icmp .lt 13, 3) := by decide +kernel
theorem dX9_isLetter_6 : decode cX9_isLetter 6 = .ok (.iload_n 0, 1) := by decide +kernel
theorem dX9_isLetter_7 : decode cX9_isLetter 7 = .ok (.bipush 122, 2) := by decide +kernel
theorem dX9_isLetter_9 : decode cX9_isLetter 9 = .ok (.if_icmp .gt 7, 3) := by decide +kernel
theorem dX9_isLetter_12 : decode cX9_isLetter 12 = .ok (.iconst 1, 1) := by decide +kernel
theorem dX9_isLetter_13 : decode cX9_isLetter 13 = .ok (.goto 4, 3) := by decide +kernel
theorem dX9_isLetter_16 : decode cX9_isLetter 16 = .ok (.iconst 0, 1) := by decide +kernel
theorem dX9_isLetter_17 : decode cX9_isLetter 17 = .ok (.ireturn, 1) := by decide +kernel
theorem dX9_isDigit_0 : decode cX9_isDigit 0 = .ok (.iload_n 0, 1) := by decide +kernel
theorem dX9_isDigit_1 : decode cX9_isDigit 1 = .ok (.bipush 48, 2) := by decide +kernel
theorem dX9_isDigit_3 : decode cX9_isDigit 3 = .ok (.if_icmp .lt 13, 3) := by decide +kernel
theorem dX9_isDigit_6 : decode cX9_isDigit 6 = .ok (.iload_n 0, 1) := by decide +kernel
theorem dX9_isDigit_7 : decode cX9_isDigit 7 = .ok (.bipush 57, 2) := by decide +kernel
theorem dX9_isDigit_9 : decode cX9_isDigit 9 = .ok (.if_icmp .gt 7, 3) := by decide +kernel
theorem dX9_isDigit_12 : decode cX9_isDigit 12 = .ok (.iconst 1, 1) := by decide +kernel
theorem dX9_isDigit_13 : decode cX9_isDigit 13 = .ok (.goto 4, 3) := by decide +kernel
theorem dX9_isDigit_16 : decode cX9_isDigit 16 = .ok (.iconst 0, 1) := by decide +kernel
theorem dX9_isDigit_17 : decode cX9_isDigit 17 = .ok (.ireturn, 1) := by decide +kernel
theorem dX9_wordAt_0 : decode cX9_wordAt 0 = .ok (.iconst 0, 1) := by decide +kernel
theorem dX9_wordAt_1 : decode cX9_wordAt 1 = .ok (.istore_n 3, 1) := by decide +kernel
theorem dX9_wordAt_2 : decode cX9_wordAt 2 = .ok (.iconst 0, 1) := by decide +kernel
theorem dX9_wordAt_3 : decode cX9_wordAt 3 = .ok (.istore 4, 2) := by decide +kernel
theorem dX9_wordAt_5 : decode cX9_wordAt 5 = .ok (.iconst 0, 1) := by decide +kernel
theorem dX9_wordAt_6 : decode cX9_wordAt 6 = .ok (.istore 5, 2) := by decide +kernel
theorem dX9_wordAt_8 : decode cX9_wordAt 8 = .ok (.iload 5, 2) := by decide +kernel
theorem dX9_wordAt_10 : decode cX9_wordAt 10 = .ok (.ldc 67, 2) := by decide +kernel
theorem dX9_wordAt_12 : decode cX9_wordAt 12 = .ok (.invokevirtual 69, 3) := by decide +kernel
theorem dX9_wordAt_15 : decode cX9_wordAt 15 = .ok (.if_icmp .ge 76, 3) := by decide +kernel
theorem dX9_wordAt_18 : decode cX9_wordAt 18 = .ok (.ldc 67, 2) := by decide +kernel
theorem dX9_wordAt_20 : decode cX9_wordAt 20 = .ok (.iload 5, 2) := by decide +kernel
theorem dX9_wordAt_22 : decode cX9_wordAt 22 = .ok (.invokevirtual 73, 3) := by decide +kernel
theorem dX9_wordAt_25 : decode cX9_wordAt 25 = .ok (.istore 6, 2) := by decide +kernel
theorem dX9_wordAt_27 : decode cX9_wordAt 27 = .ok (.iload 6, 2) := by decide +kernel
theorem dX9_wordAt_29 : decode cX9_wordAt 29 = .ok (.bipush 32, 2) := by decide +kernel
theorem dX9_wordAt_31 : decode cX9_wordAt 31 = .ok (.if_icmp .ne 20, 3) := by decide +kernel
theorem dX9_wordAt_34 : decode cX9_wordAt 34 = .ok (.iload 4, 2) := by decide +kernel
theorem dX9_wordAt_36 : decode cX9_wordAt 36 = .ok (.iload_n 2, 1) := by decide +kernel
theorem dX9_wordAt_37 : decode cX9_wordAt 37 = .ok (.if_icmp .ne 5, 3) := by decide +kernel
theorem dX9_wordAt_40 : decode cX9_wordAt 40 = .ok (.iload_n 3, 1) := by decide +kernel
theorem dX9_wordAt_41 : decode cX9_wordAt 41 = .ok (.ireturn, 1) := by decide +kernel
theorem dX9_wordAt_42 : decode cX9_wordAt 42 = .ok (.iinc 3 1, 3) := by decide +kernel
theorem dX9_wordAt_45 : decode cX9_wordAt 45 = .ok (.iconst 0, 1) := by decide +kernel
theorem dX9_wordAt_46 : decode cX9_wordAt 46 = .ok (.istore 4, 2) := by decide +kernel
theorem dX9_wordAt_48 : decode cX9_wordAt 48 = .ok (.goto 37, 3) := by decide +kernel
theorem dX9_wordAt_51 : decode cX9_wordAt 51 = .ok (.iload 4, 2) := by decide +kernel
theorem dX9_wordAt_53 : decode cX9_wordAt 53 = .ok (.ifCond .lt 29, 3) := by decide +kernel
theorem dX9_wordAt_56 : decode cX9_wordAt 56 = .ok (.iload 4, 2) := by decide +kernel
theorem dX9_wordAt_58 : decode cX9_wordAt 58 = .ok (.iload_n 2, 1) := by decide +kernel
theorem dX9_wordAt_59 : decode cX9_wordAt 59 = .ok (.if_icmp .ge 23, 3) := by decide +kernel
theorem dX9_wordAt_62 : decode cX9_wordAt 62 = .ok (.aload_n 0, 1) := by decide +kernel
theorem dX9_wordAt_63 : decode cX9_wordAt 63 = .ok (.getfield 9, 3) := by decide +kernel
theorem dX9_wordAt_66 : decode cX9_wordAt 66 = .ok (.iload_n 1, 1) := by decide +kernel
theorem dX9_wordAt_67 : decode cX9_wordAt 67 = .ok (.iload 4, 2) := by decide +kernel
theorem dX9_wordAt_69 : decode cX9_wordAt 69 = .ok (.iadd, 1) := by decide +kernel
theorem dX9_wordAt_70 : decode cX9_wordAt 70 = .ok (.iaload, 1) := by decide +kernel
theorem dX9_wordAt_71 : decode cX9_wordAt 71 = .ok (.iload 6, 2) := by decide +kernel
theorem dX9_wordAt_73 : decode cX9_wordAt 73 = .ok (.if_icmp .ne 9, 3) := by decide +kernel
theorem dX9_wordAt_76 : decode cX9_wordAt 76 = .ok (.iinc 4 1, 3) := by decide +kernel
theorem dX9_wordAt_79 : decode cX9_wordAt 79 = .ok (.goto 6, 3) := by decide +kernel
theorem dX9_wordAt_82 : decode cX9_wordAt 82 = .ok (.iconst (-1), 1) := by decide +kernel
theorem dX9_wordAt_83 : decode cX9_wordAt 83 = .ok (.istore 4, 2) := by decide +kernel
theorem dX9_wordAt_85 : decode cX9_wordAt 85 = .ok (.iinc 5 1, 3) := by decide +kernel
theorem dX9_wordAt_88 : decode cX9_wordAt 88 = .ok (.goto (-80), 3) := by decide +kernel
theorem dX9_wordAt_91 : decode cX9_wordAt 91 = .ok (.iconst (-1), 1) := by decide +kernel
theorem dX9_wordAt_92 : decode cX9_wordAt 92 = .ok (.ireturn, 1) := by decide +kernel
theorem dX9_cutInt_0 : decode cX9_cutInt 0 = .ok (.aload_n 0, 1) := by decide +kernel
theorem dX9_cutInt_1 : decode cX9_cutInt 1 = .ok (.getfield 29, 3) := by decide +kernel
theorem dX9_cutInt_4 : decode cX9_cutInt 4 = .ok (.istore_n 2, 1) := by decide +kernel
theorem dX9_cutInt_5 : decode cX9_cutInt 5 = .ok (.lconst 0, 1) := by decide +kernel
theorem dX9_cutInt_6 : decode cX9_cutInt 6 = .ok (.lstore_n 3, 1) := by decide +kernel
theorem dX9_cutInt_7 : decode cX9_cutInt 7 = .ok (.aload_n 0, 1) := by decide +kernel
theorem dX9_cutInt_8 : decode cX9_cutInt 8 = .ok (.getfield 29, 3) := by decide +kernel
theorem dX9_cutInt_11 : decode cX9_cutInt 11 = .ok (.aload_n 0, 1) := by decide +kernel
theorem dX9_cutInt_12 : decode cX9_cutInt 12 = .ok (.getfield 25, 3) := by decide +kernel
theorem dX9_cutInt_15 : decode cX9_cutInt 15 = .ok (.if_icmp .ge 51, 3) := by decide +kernel
theorem dX9_cutInt_18 : decode cX9_cutInt 18 = .ok (.aload_n 0, 1) := by decide +kernel
theorem dX9_cutInt_19 : decode cX9_cutInt 19 = .ok (.getfield 9, 3) := by decide +kernel
theorem dX9_cutInt_22 : decode cX9_cutInt 22 = .ok (.aload_n 0, 1) := by decide +kernel
theorem dX9_cutInt_23 : decode cX9_cutInt 23 = .ok (.getfield 29, 3) := by decide +kernel
theorem dX9_cutInt_26 : decode cX9_cutInt 26 = .ok (.iaload, 1) := by decide +kernel
theorem dX9_cutInt_27 : decode cX9_cutInt 27 = .ok (.invokestatic 46, 3) := by decide +kernel
theorem dX9_cutInt_30 : decode cX9_cutInt 30 = .ok (.ifCond .eq 36, 3) := by decide +kernel
theorem dX9_cutInt_33 : decode cX9_cutInt 33 = .ok (.lload_n 3, 1) := by decide +kernel
theorem dX9_cutInt_34 : decode cX9_cutInt 34 = .ok (.ldc2_w 65, 3) := by decide +kernel
theorem dX9_cutInt_37 : decode cX9_cutInt 37 = .ok (.lmul, 1) := by decide +kernel
theorem dX9_cutInt_38 : decode cX9_cutInt 38 = .ok (.aload_n 0, 1) := by decide +kernel
theorem dX9_cutInt_39 : decode cX9_cutInt 39 = .ok (.getfield 9, 3) := by decide +kernel
theorem dX9_cutInt_42 : decode cX9_cutInt 42 = .ok (.aload_n 0, 1) := by decide +kernel
theorem dX9_cutInt_43 : decode cX9_cutInt 43 = .ok (.getfield 29, 3) := by decide +kernel
theorem dX9_cutInt_46 : decode cX9_cutInt 46 = .ok (.iaload, 1) := by decide +kernel
theorem dX9_cutInt_47 : decode cX9_cutInt 47 = .ok (.bipush 48, 2) := by decide +kernel
theorem dX9_cutInt_49 : decode cX9_cutInt 49 = .ok (.isub, 1) := by decide +kernel
theorem dX9_cutInt_50 : decode cX9_cutInt 50 = .ok (.i2l, 1) := by decide +kernel
theorem dX9_cutInt_51 : decode cX9_cutInt 51 = .ok (.ladd, 1) := by decide +kernel
theorem dX9_cutInt_52 : decode cX9_cutInt 52 = .ok (.lstore_n 3, 1) := by decide +kernel
theorem dX9_cutInt_53 : decode cX9_cutInt 53 = .ok (.aload_n 0, 1) := by decide +kernel
theorem dX9_cutInt_54 : decode cX9_cutInt 54 = .ok (.dup, 1) := by decide +kernel
theorem dX9_cutInt_55 : decode cX9_cutInt 55 = .ok (.getfield 29, 3) := by decide +kernel
theorem dX9_cutInt_58 : decode cX9_cutInt 58 = .ok (.iconst 1, 1) := by decide +kernel
theorem dX9_cutInt_59 : decode cX9_cutInt 59 = .ok (.iadd, 1) := by decide +kernel
theorem dX9_cutInt_60 : decode cX9_cutInt 60 = .ok (.putfield 29, 3) := by decide +kernel
theorem dX9_cutInt_63 : decode cX9_cutInt 63 = .ok (.goto (-56), 3) := by decide +kernel
theorem dX9_cutInt_66 : decode cX9_cutInt 66 = .ok (.aload_n 0, 1) := by decide +kernel
theorem dX9_cutInt_67 : decode cX9_cutInt 67 = .ok (.getfield 21, 3) := by decide +kernel
theorem dX9_cutInt_70 : decode cX9_cutInt 70 = .ok (.iload_n 1, 1) := by decide +kernel
theorem dX9_cutInt_71 : decode cX9_cutInt 71 = .ok (.lload_n 3, 1) := by decide +kernel
theorem dX9_cutInt_72 : decode cX9_cutInt 72 = .ok (.lastore, 1) := by decide +kernel
theorem dX9_cutInt_73 : decode cX9_cutInt 73 = .ok (.aload_n 0, 1) := by decide +kernel
theorem dX9_cutInt_74 : decode cX9_cutInt 74 = .ok (.getfield 29, 3) := by decide +kernel
theorem dX9_cutInt_77 : decode cX9_cutInt 77 = .ok (.iload_n 2, 1) := by decide +kernel
theorem dX9_cutInt_78 : decode cX9_cutInt 78 = .ok (.isub, 1) := by decide +kernel
theorem dX9_cutInt_79 : decode cX9_cutInt 79 = .ok (.iconst 4, 1) := by decide +kernel
theorem dX9_cutInt_80 : decode cX9_cutInt 80 = .ok (.if_icmp .gt 8, 3) := by decide +kernel
theorem dX9_cutInt_83 : decode cX9_cutInt 83 = .ok (.bipush 21, 2) := by decide +kernel
theorem dX9_cutInt_85 : decode cX9_cutInt 85 = .ok (.goto 5, 3) := by decide +kernel
theorem dX9_cutInt_88 : decode cX9_cutInt 88 = .ok (.bipush 23, 2) := by decide +kernel
theorem dX9_cutInt_90 : decode cX9_cutInt 90 = .ok (.ireturn, 1) := by decide +kernel
theorem dX9_cutWord_0 : decode cX9_cutWord 0 = .ok (.aload_n 0, 1) := by decide +kernel
theorem dX9_cutWord_1 : decode cX9_cutWord 1 = .ok (.getfield 29, 3) := by decide +kernel
theorem dX9_cutWord_4 : decode cX9_cutWord 4 = .ok (.istore_n 2, 1) := by decide +kernel
theorem dX9_cutWord_5 : decode cX9_cutWord 5 = .ok (.lconst 0, 1) := by decide +kernel
theorem dX9_cutWord_6 : decode cX9_cutWord 6 = .ok (.lstore_n 3, 1) := by decide +kernel
theorem dX9_cutWord_7 : decode cX9_cutWord 7 = .ok (.aload_n 0, 1) := by decide +kernel
theorem dX9_cutWord_8 : decode cX9_cutWord 8 = .ok (.getfield 29, 3) := by decide +kernel
theorem dX9_cutWord_11 : decode cX9_cutWord 11 = .ok (.aload_n 0, 1) := by decide +kernel
theorem dX9_cutWord_12 : decode cX9_cutWord 12 = .ok (.getfield 25, 3) := by decide +kernel
theorem dX9_cutWord_15 : decode cX9_cutWord 15 = .ok (.if_icmp .ge 53, 3) := by decide +kernel
theorem dX9_cutWord_18 : decode cX9_cutWord 18 = .ok (.aload_n 0, 1) := by decide +kernel
theorem dX9_cutWord_19 : decode cX9_cutWord 19 = .ok (.getfield 9, 3) := by decide +kernel
theorem dX9_cutWord_22 : decode cX9_cutWord 22 = .ok (.aload_n 0, 1) := by decide +kernel
theorem dX9_cutWord_23 : decode cX9_cutWord 23 = .ok (.getfield 29, 3) := by decide +kernel
theorem dX9_cutWord_26 : decode cX9_cutWord 26 = .ok (.iaload, 1) := by decide +kernel
theorem dX9_cutWord_27 : decode cX9_cutWord 27 = .ok (.invokestatic 40, 3) := by decide +kernel
theorem dX9_cutWord_30 : decode cX9_cutWord 30 = .ok (.ifCond .eq 38, 3) := by decide +kernel
theorem dX9_cutWord_33 : decode cX9_cutWord 33 = .ok (.lload_n 3, 1) := by decide +kernel
theorem dX9_cutWord_34 : decode cX9_cutWord 34 = .ok (.ldc2_w 59, 3) := by decide +kernel
theorem dX9_cutWord_37 : decode cX9_cutWord 37 = .ok (.lmul, 1) := by decide +kernel
theorem dX9_cutWord_38 : decode cX9_cutWord 38 = .ok (.aload_n 0, 1) := by decide +kernel
theorem dX9_cutWord_39 : decode cX9_cutWord 39 = .ok (.getfield 9, 3) := by decide +kernel
theorem dX9_cutWord_42 : decode cX9_cutWord 42 = .ok (.aload_n 0, 1) := by decide +kernel
theorem dX9_cutWord_43 : decode cX9_cutWord 43 = .ok (.getfield 29, 3) := by decide +kernel
theorem dX9_cutWord_46 : decode cX9_cutWord 46 = .ok (.iaload, 1) := by decide +kernel
theorem dX9_cutWord_47 : decode cX9_cutWord 47 = .ok (.bipush 97, 2) := by decide +kernel
theorem dX9_cutWord_49 : decode cX9_cutWord 49 = .ok (.isub, 1) := by decide +kernel
theorem dX9_cutWord_50 : decode cX9_cutWord 50 = .ok (.iconst 1, 1) := by decide +kernel
theorem dX9_cutWord_51 : decode cX9_cutWord 51 = .ok (.iadd, 1) := by decide +kernel
theorem dX9_cutWord_52 : decode cX9_cutWord 52 = .ok (.i2l, 1) := by decide +kernel
theorem dX9_cutWord_53 : decode cX9_cutWord 53 = .ok (.ladd, 1) := by decide +kernel
theorem dX9_cutWord_54 : decode cX9_cutWord 54 = .ok (.lstore_n 3, 1) := by decide +kernel
theorem dX9_cutWord_55 : decode cX9_cutWord 55 = .ok (.aload_n 0, 1) := by decide +kernel
theorem dX9_cutWord_56 : decode cX9_cutWord 56 = .ok (.dup, 1) := by decide +kernel
theorem dX9_cutWord_57 : decode cX9_cutWord 57 = .ok (.getfield 29, 3) := by decide +kernel
theorem dX9_cutWord_60 : decode cX9_cutWord 60 = .ok (.iconst 1, 1) := by decide +kernel
theorem dX9_cutWord_61 : decode cX9_cutWord 61 = .ok (.iadd, 1) := by decide +kernel
theorem dX9_cutWord_62 : decode cX9_cutWord 62 = .ok (.putfield 29, 3) := by decide +kernel
theorem dX9_cutWord_65 : decode cX9_cutWord 65 = .ok (.goto (-58), 3) := by decide +kernel
theorem dX9_cutWord_68 : decode cX9_cutWord 68 = .ok (.aload_n 0, 1) := by decide +kernel
theorem dX9_cutWord_69 : decode cX9_cutWord 69 = .ok (.getfield 21, 3) := by decide +kernel
theorem dX9_cutWord_72 : decode cX9_cutWord 72 = .ok (.iload_n 1, 1) := by decide +kernel
theorem dX9_cutWord_73 : decode cX9_cutWord 73 = .ok (.lload_n 3, 1) := by decide +kernel
theorem dX9_cutWord_74 : decode cX9_cutWord 74 = .ok (.lastore, 1) := by decide +kernel
theorem dX9_cutWord_75 : decode cX9_cutWord 75 = .ok (.aload_n 0, 1) := by decide +kernel
theorem dX9_cutWord_76 : decode cX9_cutWord 76 = .ok (.iload_n 2, 1) := by decide +kernel
theorem dX9_cutWord_77 : decode cX9_cutWord 77 = .ok (.aload_n 0, 1) := by decide +kernel
theorem dX9_cutWord_78 : decode cX9_cutWord 78 = .ok (.getfield 29, 3) := by decide +kernel
theorem dX9_cutWord_81 : decode cX9_cutWord 81 = .ok (.iload_n 2, 1) := by decide +kernel
theorem dX9_cutWord_82 : decode cX9_cutWord 82 = .ok (.isub, 1) := by decide +kernel
theorem dX9_cutWord_83 : decode cX9_cutWord 83 = .ok (.invokevirtual 61, 3) := by decide +kernel
theorem dX9_cutWord_86 : decode cX9_cutWord 86 = .ok (.istore 5, 2) := by decide +kernel
theorem dX9_cutWord_88 : decode cX9_cutWord 88 = .ok (.iload 5, 2) := by decide +kernel
theorem dX9_cutWord_90 : decode cX9_cutWord 90 = .ok (.iconst (-1), 1) := by decide +kernel
theorem dX9_cutWord_91 : decode cX9_cutWord 91 = .ok (.if_icmp .eq 6, 3) := by decide +kernel
theorem dX9_cutWord_94 : decode cX9_cutWord 94 = .ok (.iload 5, 2) := by decide +kernel
theorem dX9_cutWord_96 : decode cX9_cutWord 96 = .ok (.ireturn, 1) := by decide +kernel
theorem dX9_cutWord_97 : decode cX9_cutWord 97 = .ok (.aload_n 0, 1) := by decide +kernel
theorem dX9_cutWord_98 : decode cX9_cutWord 98 = .ok (.getfield 29, 3) := by decide +kernel
theorem dX9_cutWord_101 : decode cX9_cutWord 101 = .ok (.iload_n 2, 1) := by decide +kernel
theorem dX9_cutWord_102 : decode cX9_cutWord 102 = .ok (.isub, 1) := by decide +kernel
theorem dX9_cutWord_103 : decode cX9_cutWord 103 = .ok (.bipush 8, 2) := by decide +kernel
theorem dX9_cutWord_105 : decode cX9_cutWord 105 = .ok (.if_icmp .gt 8, 3) := by decide +kernel
theorem dX9_cutWord_108 : decode cX9_cutWord 108 = .ok (.bipush 20, 2) := by decide +kernel
theorem dX9_cutWord_110 : decode cX9_cutWord 110 = .ok (.goto 5, 3) := by decide +kernel
theorem dX9_cutWord_113 : decode cX9_cutWord 113 = .ok (.bipush 23, 2) := by decide +kernel
theorem dX9_cutWord_115 : decode cX9_cutWord 115 = .ok (.ireturn, 1) := by decide +kernel
theorem dX9_cutOne_14 : decode cX9_cutOne 14 = .ok (.aload_n 0, 1) := by decide +kernel
theorem dX9_cutOne_15 : decode cX9_cutOne 15 = .ok (.getfield 9, 3) := by decide +kernel
theorem dX9_cutOne_18 : decode cX9_cutOne 18 = .ok (.aload_n 0, 1) := by decide +kernel
theorem dX9_cutOne_19 : decode cX9_cutOne 19 = .ok (.getfield 29, 3) := by decide +kernel
theorem dX9_cutOne_22 : decode cX9_cutOne 22 = .ok (.iaload, 1) := by decide +kernel
theorem dX9_cutOne_23 : decode cX9_cutOne 23 = .ok (.invokestatic 40, 3) := by decide +kernel
theorem dX9_cutOne_26 : decode cX9_cutOne 26 = .ok (.ifCond .eq 9, 3) := by decide +kernel
theorem dX9_cutOne_29 : decode cX9_cutOne 29 = .ok (.aload_n 0, 1) := by decide +kernel
theorem dX9_cutOne_30 : decode cX9_cutOne 30 = .ok (.iload_n 1, 1) := by decide +kernel
theorem dX9_cutOne_31 : decode cX9_cutOne 31 = .ok (.invokevirtual 43, 3) := by decide +kernel
theorem dX9_cutOne_34 : decode cX9_cutOne 34 = .ok (.ireturn, 1) := by decide +kernel
theorem dX9_cutOne_35 : decode cX9_cutOne 35 = .ok (.aload_n 0, 1) := by decide +kernel
theorem dX9_cutOne_36 : decode cX9_cutOne 36 = .ok (.getfield 9, 3) := by decide +kernel
theorem dX9_cutOne_39 : decode cX9_cutOne 39 = .ok (.aload_n 0, 1) := by decide +kernel
theorem dX9_cutOne_40 : decode cX9_cutOne 40 = .ok (.getfield 29, 3) := by decide +kernel
theorem dX9_cutOne_43 : decode cX9_cutOne 43 = .ok (.iaload, 1) := by decide +kernel
theorem dX9_cutOne_44 : decode cX9_cutOne 44 = .ok (.invokestatic 46, 3) := by decide +kernel
theorem dX9_cutOne_47 : decode cX9_cutOne 47 = .ok (.ifCond .eq 9, 3) := by decide +kernel
theorem dX9_cutOne_50 : decode cX9_cutOne 50 = .ok (.aload_n 0, 1) := by decide +kernel
theorem dX9_cutOne_51 : decode cX9_cutOne 51 = .ok (.iload_n 1, 1) := by decide +kernel
theorem dX9_cutOne_52 : decode cX9_cutOne 52 = .ok (.invokevirtual 49, 3) := by decide +kernel
theorem dX9_cutOne_55 : decode cX9_cutOne 55 = .ok (.ireturn, 1) := by decide +kernel
theorem dX9_cutOne_56 : decode cX9_cutOne 56 = .ok (.aload_n 0, 1) := by decide +kernel
theorem dX9_cutOne_57 : decode cX9_cutOne 57 = .ok (.getfield 9, 3) := by decide +kernel
theorem dX9_cutOne_60 : decode cX9_cutOne 60 = .ok (.aload_n 0, 1) := by decide +kernel
theorem dX9_cutOne_61 : decode cX9_cutOne 61 = .ok (.getfield 29, 3) := by decide +kernel
theorem dX9_cutOne_64 : decode cX9_cutOne 64 = .ok (.iaload, 1) := by decide +kernel
theorem dX9_cutOne_65 : decode cX9_cutOne 65 = .ok (.istore_n 2, 1) := by decide +kernel
theorem dX9_cutOne_66 : decode cX9_cutOne 66 = .ok (.aload_n 0, 1) := by decide +kernel
theorem dX9_cutOne_67 : decode cX9_cutOne 67 = .ok (.dup, 1) := by decide +kernel
theorem dX9_cutOne_68 : decode cX9_cutOne 68 = .ok (.getfield 29, 3) := by decide +kernel
theorem dX9_cutOne_71 : decode cX9_cutOne 71 = .ok (.iconst 1, 1) := by decide +kernel
theorem dX9_cutOne_72 : decode cX9_cutOne 72 = .ok (.iadd, 1) := by decide +kernel
theorem dX9_cutOne_73 : decode cX9_cutOne 73 = .ok (.putfield 29, 3) := by decide +kernel
theorem dX9_cutOne_76 : decode cX9_cutOne 76 = .ok (.ldc 52, 2) := by decide +kernel
theorem dX9_cutOne_78 : decode cX9_cutOne 78 = .ok (.iload_n 2, 1) := by decide +kernel
theorem dX9_cutOne_79 : decode cX9_cutOne 79 = .ok (.i2c, 1) := by decide +kernel
theorem dX9_cutOne_80 : decode cX9_cutOne 80 = .ok (.invokevirtual 54, 3) := by decide +kernel
theorem dX9_cutOne_83 : decode cX9_cutOne 83 = .ok (.ifCond .lt 7, 3) := by decide +kernel
theorem dX9_cutOne_86 : decode cX9_cutOne 86 = .ok (.iload_n 2, 1) := by decide +kernel
theorem dX9_cutOne_87 : decode cX9_cutOne 87 = .ok (.goto 5, 3) := by decide +kernel
theorem dX9_cutOne_90 : decode cX9_cutOne 90 = .ok (.bipush 23, 2) := by decide +kernel
theorem dX9_cutOne_92 : decode cX9_cutOne 92 = .ok (.ireturn, 1) := by decide +kernel
theorem dX9_cut_39 : decode cX9_cut 39 = .ok (.aload_n 0, 1) := by decide +kernel
theorem dX9_cut_40 : decode cX9_cut 40 = .ok (.getfield 9, 3) := by decide +kernel
theorem dX9_cut_43 : decode cX9_cut 43 = .ok (.aload_n 0, 1) := by decide +kernel
theorem dX9_cut_44 : decode cX9_cut 44 = .ok (.getfield 29, 3) := by decide +kernel
theorem dX9_cut_47 : decode cX9_cut 47 = .ok (.iaload, 1) := by decide +kernel
theorem dX9_cut_48 : decode cX9_cut 48 = .ok (.invokestatic 32, 3) := by decide +kernel
theorem dX9_cut_51 : decode cX9_cut 51 = .ok (.ifCond .eq 16, 3) := by decide +kernel
theorem dX9_cut_54 : decode cX9_cut 54 = .ok (.aload_n 0, 1) := by decide +kernel
theorem dX9_cut_55 : decode cX9_cut 55 = .ok (.dup, 1) := by decide +kernel
theorem dX9_cut_56 : decode cX9_cut 56 = .ok (.getfield 29, 3) := by decide +kernel
theorem dX9_cut_59 : decode cX9_cut 59 = .ok (.iconst 1, 1) := by decide +kernel
theorem dX9_cut_60 : decode cX9_cut 60 = .ok (.iadd, 1) := by decide +kernel
theorem dX9_cut_61 : decode cX9_cut 61 = .ok (.putfield 29, 3) := by decide +kernel
theorem dX9_cut_64 : decode cX9_cut 64 = .ok (.goto (-36), 3) := by decide +kernel
/-- what cutting one token changes: the tape's place, and the value at n -/
def TT (n : Nat) (σ σ' : HS) : Prop := ony [2, 6] σ σ' ∧ σ'.1 2 1 = σ.1 2 1 ∧ ∀ j, j ≠ n → σ'.2.1 6 j = σ.2.1 6 j
theorem TT.rf {n : Nat} {σ : HS} : TT n σ σ := ⟨ony.rf, rfl, fun _ _ => rfl⟩
theorem TT.tr {n : Nat} {σ σ1 σ2 : HS} (h : TT n σ σ1) (h2 : TT n σ1 σ2) : TT n σ σ2 := ⟨h.1.tr h2.1, h2.2.1.trans h.2.1, fun j hj => (h2.2.2 j hj).trans (h.2.2 j hj)⟩
theorem TT.at {n : Nat} {σ σ1 : HS} {v : Int32} (h : TT n σ σ1) : TT n σ (hI σ1 2 5 v) := ⟨h.1.I (by decide), (hI_n (by decide)).trans h.2.1, h.2.2⟩
theorem TT.val {n : Nat} {σ σ1 : HS} {v : Int64} (h : TT n σ σ1) : TT n σ (hL σ1 6 n v) := ⟨h.1.L (by decide), h.2.1, fun j hj => by
  have e : (hL σ1 6 n v).2.1 6 = vp_updL (σ1.2.1 6) n v := va_up_self σ1.2.1 6 _
  rw [e, pk_uLn hj]
  exact h.2.2 j hj⟩
def VB (e : Int) (w : Int64) : Prop := 0 ≤ e ∧ (e = 0 → w.toInt = 0) ∧ (e = 1 → 0 ≤ w.toInt ∧ w.toInt ≤ 9) ∧ (e = 2 → 0 ≤ w.toInt ∧ w.toInt ≤ 99) ∧ (e = 3 → 0 ≤ w.toInt ∧ w.toInt ≤ 999) ∧ (e = 4 → 0 ≤ w.toInt ∧ w.toInt ≤ 9999)
theorem i64_step {w : Int64} {z : Int32} (h : 0 ≤ w.toInt ∧ w.toInt ≤ 999) (hz : 0 ≤ z.toInt ∧ z.toInt ≤ 9) : (w * 10 + z.toInt64).toInt = w.toInt * 10 + z.toInt := by
  have e10 : (10 : Int64).toInt = 10 := by decide
  have e1 : (w * 10).toInt = w.toInt * 10 := by
    rw [Int64.toInt_mul, e10]
    rw [Int.bmod_eq_of_le] <;> omega
  rw [Int64.toInt_add, e1, Int32.toInt_toInt64]
  rw [Int.bmod_eq_of_le] <;> omega
theorem VB.step {e : Int} {w : Int64} {z : Int32} (h : VB e w) (hz : 0 ≤ z.toInt ∧ z.toInt ≤ 9) : VB (e + 1) (w * 10 + z.toInt64) := by
  obtain ⟨h0, h1, h2, h3, h4, h5⟩ := h
  refine ⟨by omega, fun q => by omega, fun q => ?_, fun q => ?_, fun q => ?_, fun q => ?_⟩
  · have a := h1 (by omega)
    rw [i64_step (by omega) hz]; omega
  · have a := h2 (by omega)
    rw [i64_step (by omega) hz]; omega
  · have a := h3 (by omega)
    rw [i64_step (by omega) hz]; omega
  · have a := h4 (by omega)
    rw [i64_step (by omega) hz]; omega
