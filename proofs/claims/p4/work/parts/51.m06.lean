theorem dX12_glitterBits_45 : decode cX12_glitterBits 45 = .ok (.iconst 0, 1) := by decide +kernel
theorem dX12_glitterBits_46 : decode cX12_glitterBits 46 = .ok (.istore 4, 2) := by decide +kernel
theorem dX12_glitterBits_48 : decode cX12_glitterBits 48 = .ok (.iload 4, 2) := by decide +kernel
theorem dX12_glitterBits_50 : decode cX12_glitterBits 50 = .ok (.bipush 7, 2) := by decide +kernel
theorem dX12_glitterBits_52 : decode cX12_glitterBits 52 = .ok (.if_icmp .ge 48, 3) := by decide +kernel
theorem dX12_glitterBits_55 : decode cX12_glitterBits 55 = .ok (.aload_n 0, 1) := by decide +kernel
theorem dX12_glitterBits_56 : decode cX12_glitterBits 56 = .ok (.getfield 131, 3) := by decide +kernel
theorem dX12_glitterBits_59 : decode cX12_glitterBits 59 = .ok (.aload_n 0, 1) := by decide +kernel
theorem dX12_glitterBits_60 : decode cX12_glitterBits 60 = .ok (.getfield 125, 3) := by decide +kernel
theorem dX12_glitterBits_63 : decode cX12_glitterBits 63 = .ok (.iload_n 3, 1) := by decide +kernel
theorem dX12_glitterBits_64 : decode cX12_glitterBits 64 = .ok (.iaload, 1) := by decide +kernel
theorem dX12_glitterBits_65 : decode cX12_glitterBits 65 = .ok (.iaload, 1) := by decide +kernel
theorem dX12_glitterBits_66 : decode cX12_glitterBits 66 = .ok (.iload 4, 2) := by decide +kernel
theorem dX12_glitterBits_68 : decode cX12_glitterBits 68 = .ok (.if_icmp .ne 7, 3) := by decide +kernel
theorem dX12_glitterBits_71 : decode cX12_glitterBits 71 = .ok (.iconst 1, 1) := by decide +kernel
theorem dX12_glitterBits_72 : decode cX12_glitterBits 72 = .ok (.goto 4, 3) := by decide +kernel
theorem dX12_glitterBits_75 : decode cX12_glitterBits 75 = .ok (.iconst 0, 1) := by decide +kernel
theorem dX12_glitterBits_76 : decode cX12_glitterBits 76 = .ok (.aload_n 0, 1) := by decide +kernel
theorem dX12_glitterBits_77 : decode cX12_glitterBits 77 = .ok (.getfield 128, 3) := by decide +kernel
theorem dX12_glitterBits_80 : decode cX12_glitterBits 80 = .ok (.iload_n 3, 1) := by decide +kernel
theorem dX12_glitterBits_81 : decode cX12_glitterBits 81 = .ok (.baload, 1) := by decide +kernel
theorem dX12_glitterBits_82 : decode cX12_glitterBits 82 = .ok (.if_icmp .eq 12, 3) := by decide +kernel
theorem dX12_glitterBits_85 : decode cX12_glitterBits 85 = .ok (.iload_n 2, 1) := by decide +kernel
theorem dX12_glitterBits_86 : decode cX12_glitterBits 86 = .ok (.iconst 1, 1) := by decide +kernel
theorem dX12_glitterBits_87 : decode cX12_glitterBits 87 = .ok (.iload 4, 2) := by decide +kernel
theorem dX12_glitterBits_89 : decode cX12_glitterBits 89 = .ok (.ishl, 1) := by decide +kernel
theorem dX12_glitterBits_90 : decode cX12_glitterBits 90 = .ok (.iconst (-1), 1) := by decide +kernel
theorem dX12_glitterBits_91 : decode cX12_glitterBits 91 = .ok (.ixor, 1) := by decide +kernel
theorem dX12_glitterBits_92 : decode cX12_glitterBits 92 = .ok (.iand, 1) := by decide +kernel
theorem dX12_glitterBits_93 : decode cX12_glitterBits 93 = .ok (.istore_n 2, 1) := by decide +kernel
theorem dX12_glitterBits_94 : decode cX12_glitterBits 94 = .ok (.iinc 4 1, 3) := by decide +kernel
theorem dX12_glitterBits_97 : decode cX12_glitterBits 97 = .ok (.goto (-49), 3) := by decide +kernel
theorem dX12_glitterBits_100 : decode cX12_glitterBits 100 = .ok (.iinc 3 1, 3) := by decide +kernel
theorem dX12_glitterBits_103 : decode cX12_glitterBits 103 = .ok (.goto (-63), 3) := by decide +kernel
theorem dX12_watch_46 : decode cX12_watch 46 = .ok (.aload_n 0, 1) := by decide +kernel
theorem dX12_watch_47 : decode cX12_watch 47 = .ok (.getfield 131, 3) := by decide +kernel
theorem dX12_watch_50 : decode cX12_watch 50 = .ok (.iload 6, 2) := by decide +kernel
theorem dX12_watch_52 : decode cX12_watch 52 = .ok (.iaload, 1) := by decide +kernel
theorem dX12_watch_53 : decode cX12_watch 53 = .ok (.ifCond .lt 22, 3) := by decide +kernel
theorem dX12_watch_56 : decode cX12_watch 56 = .ok (.iload_n 2, 1) := by decide +kernel
theorem dX12_watch_57 : decode cX12_watch 57 = .ok (.aload_n 0, 1) := by decide +kernel
theorem dX12_watch_58 : decode cX12_watch 58 = .ok (.getfield 131, 3) := by decide +kernel
theorem dX12_watch_61 : decode cX12_watch 61 = .ok (.iload 6, 2) := by decide +kernel
theorem dX12_watch_63 : decode cX12_watch 63 = .ok (.iaload, 1) := by decide +kernel
theorem dX12_watch_64 : decode cX12_watch 64 = .ok (.ishr, 1) := by decide +kernel
theorem dX12_watch_65 : decode cX12_watch 65 = .ok (.iconst 1, 1) := by decide +kernel
theorem dX12_watch_66 : decode cX12_watch 66 = .ok (.iand, 1) := by decide +kernel
theorem dX12_watch_67 : decode cX12_watch 67 = .ok (.iconst 1, 1) := by decide +kernel
theorem dX12_watch_68 : decode cX12_watch 68 = .ok (.if_icmp .ne 7, 3) := by decide +kernel
theorem dX12_watch_71 : decode cX12_watch 71 = .ok (.iconst 1, 1) := by decide +kernel
theorem dX12_watch_72 : decode cX12_watch 72 = .ok (.goto 4, 3) := by decide +kernel
theorem dX12_watch_75 : decode cX12_watch 75 = .ok (.iconst 0, 1) := by decide +kernel
theorem dX12_watch_76 : decode cX12_watch 76 = .ok (.istore 7, 2) := by decide +kernel
theorem dX12_watch_78 : decode cX12_watch 78 = .ok (.iload 7, 2) := by decide +kernel
theorem dX12_watch_80 : decode cX12_watch 80 = .ok (.iload_n 3, 1) := by decide +kernel
theorem dX12_watch_81 : decode cX12_watch 81 = .ok (.iload 7, 2) := by decide +kernel
theorem dX12_watch_83 : decode cX12_watch 83 = .ok (.isub, 1) := by decide +kernel
theorem dX12_watch_84 : decode cX12_watch 84 = .ok (.if_icmp .le 8, 3) := by decide +kernel
theorem dX12_watch_87 : decode cX12_watch 87 = .ok (.iload 7, 2) := by decide +kernel
theorem dX12_watch_89 : decode cX12_watch 89 = .ok (.goto 7, 3) := by decide +kernel
theorem dX12_watch_92 : decode cX12_watch 92 = .ok (.iload_n 3, 1) := by decide +kernel
theorem dX12_watch_93 : decode cX12_watch 93 = .ok (.iload 7, 2) := by decide +kernel
theorem dX12_watch_95 : decode cX12_watch 95 = .ok (.isub, 1) := by decide +kernel
theorem dX12_watch_96 : decode cX12_watch 96 = .ok (.istore 8, 2) := by decide +kernel
theorem dX12_watch_98 : decode cX12_watch 98 = .ok (.iload 4, 2) := by decide +kernel
theorem dX12_watch_100 : decode cX12_watch 100 = .ok (.ifCond .lt 13, 3) := by decide +kernel
theorem dX12_watch_103 : decode cX12_watch 103 = .ok (.iload 8, 2) := by decide +kernel
theorem dX12_watch_105 : decode cX12_watch 105 = .ok (.iload 5, 2) := by decide +kernel
theorem dX12_watch_107 : decode cX12_watch 107 = .ok (.if_icmp .lt 6, 3) := by decide +kernel
theorem dX12_watch_110 : decode cX12_watch 110 = .ok (.goto 11, 3) := by decide +kernel
theorem dX12_watch_113 : decode cX12_watch 113 = .ok (.iload 6, 2) := by decide +kernel
theorem dX12_watch_115 : decode cX12_watch 115 = .ok (.istore 4, 2) := by decide +kernel
theorem dX12_watch_117 : decode cX12_watch 117 = .ok (.iload 8, 2) := by decide +kernel
theorem dX12_watch_119 : decode cX12_watch 119 = .ok (.istore 5, 2) := by decide +kernel
theorem dX12_watch_121 : decode cX12_watch 121 = .ok (.iinc 6 1, 3) := by decide +kernel
theorem dX12_watch_124 : decode cX12_watch 124 = .ok (.goto (-89), 3) := by decide +kernel
theorem dX12_count_187 : decode cX12_count 187 = .ok (.iconst 1, 1) := by decide +kernel
theorem dX12_count_188 : decode cX12_count 188 = .ok (.goto 4, 3) := by decide +kernel
theorem dX12_count_201 : decode cX12_count 201 = .ok (.iconst 1, 1) := by decide +kernel
theorem dX12_count_202 : decode cX12_count 202 = .ok (.goto 4, 3) := by decide +kernel
theorem dX12_count_216 : decode cX12_count 216 = .ok (.iconst 1, 1) := by decide +kernel
theorem dX12_count_217 : decode cX12_count 217 = .ok (.goto 4, 3) := by decide +kernel
theorem dX12_thing_10 : decode cX12_thing 10 = .ok (.iload_n 2, 1) := by decide +kernel
theorem dX12_thing_11 : decode cX12_thing 11 = .ok (.tableswitch 104 0 4 #[33, 48, 63, 70, 94], 33) := by decide +kernel
theorem dX12_thing_44 : decode cX12_thing 44 = .ok (.aload_n 0, 1) := by decide +kernel
theorem dX12_thing_45 : decode cX12_thing 45 = .ok (.getfield 46, 3) := by decide +kernel
theorem dX12_thing_48 : decode cX12_thing 48 = .ok (.bipush 7, 2) := by decide +kernel
theorem dX12_thing_50 : decode cX12_thing 50 = .ok (.aload_n 0, 1) := by decide +kernel
theorem dX12_thing_51 : decode cX12_thing 51 = .ok (.getfield 221, 3) := by decide +kernel
theorem dX12_thing_54 : decode cX12_thing 54 = .ok (.imul, 1) := by decide +kernel
theorem dX12_thing_55 : decode cX12_thing 55 = .ok (.iload_n 1, 1) := by decide +kernel
theorem dX12_thing_56 : decode cX12_thing 56 = .ok (.iadd, 1) := by decide +kernel
theorem dX12_thing_57 : decode cX12_thing 57 = .ok (.iaload, 1) := by decide +kernel
theorem dX12_thing_58 : decode cX12_thing 58 = .ok (.ireturn, 1) := by decide +kernel
theorem dX12_thing_59 : decode cX12_thing 59 = .ok (.aload_n 0, 1) := by decide +kernel
theorem dX12_thing_60 : decode cX12_thing 60 = .ok (.getfield 49, 3) := by decide +kernel
theorem dX12_thing_63 : decode cX12_thing 63 = .ok (.bipush 7, 2) := by decide +kernel
theorem dX12_thing_65 : decode cX12_thing 65 = .ok (.aload_n 0, 1) := by decide +kernel
theorem dX12_thing_66 : decode cX12_thing 66 = .ok (.getfield 221, 3) := by decide +kernel
theorem dX12_thing_69 : decode cX12_thing 69 = .ok (.imul, 1) := by decide +kernel
theorem dX12_thing_70 : decode cX12_thing 70 = .ok (.iload_n 1, 1) := by decide +kernel
theorem dX12_thing_71 : decode cX12_thing 71 = .ok (.iadd, 1) := by decide +kernel
theorem dX12_thing_72 : decode cX12_thing 72 = .ok (.iaload, 1) := by decide +kernel
theorem dX12_thing_73 : decode cX12_thing 73 = .ok (.ireturn, 1) := by decide +kernel
theorem dX12_thing_74 : decode cX12_thing 74 = .ok (.aload_n 0, 1) := by decide +kernel
theorem dX12_thing_75 : decode cX12_thing 75 = .ok (.getfield 107, 3) := by decide +kernel
theorem dX12_thing_78 : decode cX12_thing 78 = .ok (.iload_n 1, 1) := by decide +kernel
theorem dX12_thing_79 : decode cX12_thing 79 = .ok (.iaload, 1) := by decide +kernel
theorem dX12_thing_80 : decode cX12_thing 80 = .ok (.ireturn, 1) := by decide +kernel
theorem dX12_thing_81 : decode cX12_thing 81 = .ok (.aload_n 0, 1) := by decide +kernel
theorem dX12_thing_82 : decode cX12_thing 82 = .ok (.getfield 107, 3) := by decide +kernel
theorem dX12_thing_85 : decode cX12_thing 85 = .ok (.iload_n 1, 1) := by decide +kernel
theorem dX12_thing_86 : decode cX12_thing 86 = .ok (.iaload, 1) := by decide +kernel
theorem dX12_thing_87 : decode cX12_thing 87 = .ok (.ifCond .ne 15, 3) := by decide +kernel
theorem dX12_thing_90 : decode cX12_thing 90 = .ok (.aload_n 0, 1) := by decide +kernel
theorem dX12_thing_91 : decode cX12_thing 91 = .ok (.getfield 107, 3) := by decide +kernel
theorem dX12_thing_94 : decode cX12_thing 94 = .ok (.bipush 7, 2) := by decide +kernel
theorem dX12_thing_96 : decode cX12_thing 96 = .ok (.iload_n 1, 1) := by decide +kernel
theorem dX12_thing_97 : decode cX12_thing 97 = .ok (.iadd, 1) := by decide +kernel
theorem dX12_thing_98 : decode cX12_thing 98 = .ok (.iaload, 1) := by decide +kernel
theorem dX12_thing_99 : decode cX12_thing 99 = .ok (.goto 5, 3) := by decide +kernel
theorem dX12_thing_102 : decode cX12_thing 102 = .ok (.bipush (-2), 2) := by decide +kernel
theorem dX12_thing_104 : decode cX12_thing 104 = .ok (.ireturn, 1) := by decide +kernel
theorem dX12_thing_105 : decode cX12_thing 105 = .ok (.aload_n 0, 1) := by decide +kernel
theorem dX12_thing_106 : decode cX12_thing 106 = .ok (.getfield 107, 3) := by decide +kernel
theorem dX12_thing_109 : decode cX12_thing 109 = .ok (.bipush 14, 2) := by decide +kernel
theorem dX12_thing_111 : decode cX12_thing 111 = .ok (.iload_n 1, 1) := by decide +kernel
theorem dX12_thing_112 : decode cX12_thing 112 = .ok (.iadd, 1) := by decide +kernel
theorem dX12_thing_113 : decode cX12_thing 113 = .ok (.iaload, 1) := by decide +kernel
theorem dX12_thing_114 : decode cX12_thing 114 = .ok (.ireturn, 1) := by decide +kernel
theorem dX12_thing_115 : decode cX12_thing 115 = .ok (.iconst (-1), 1) := by decide +kernel
theorem dX12_thing_116 : decode cX12_thing 116 = .ok (.ireturn, 1) := by decide +kernel
