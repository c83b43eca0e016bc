theorem dX11_busiest_54 : decode cX11_busiest 54 = .ok (.aload_n 0, 1) := by decide +kernel
theorem dX11_busiest_55 : decode cX11_busiest 55 = .ok (.getfield 73, 3) := by decide +kernel
theorem dX11_busiest_58 : decode cX11_busiest 58 = .ok (.aload_n 0, 1) := by decide +kernel
theorem dX11_busiest_59 : decode cX11_busiest 59 = .ok (.getfield 69, 3) := by decide +kernel
theorem dX11_busiest_62 : decode cX11_busiest 62 = .ok (.iload_n 3, 1) := by decide +kernel
theorem dX11_busiest_63 : decode cX11_busiest 63 = .ok (.iaload, 1) := by decide +kernel
theorem dX11_busiest_64 : decode cX11_busiest 64 = .ok (.dup2, 1) := by decide +kernel
theorem dX11_busiest_65 : decode cX11_busiest 65 = .ok (.iaload, 1) := by decide +kernel
theorem dX11_busiest_66 : decode cX11_busiest 66 = .ok (.iconst 1, 1) := by decide +kernel
theorem dX11_busiest_67 : decode cX11_busiest 67 = .ok (.iadd, 1) := by decide +kernel
theorem dX11_busiest_68 : decode cX11_busiest 68 = .ok (.iastore, 1) := by decide +kernel
theorem dX11_busiest_103 : decode cX11_busiest 103 = .ok (.iload 4, 2) := by decide +kernel
theorem dX11_busiest_105 : decode cX11_busiest 105 = .ok (.istore_n 3, 1) := by decide +kernel
theorem dX11_busiest_124 : decode cX11_busiest 124 = .ok (.iload_n 2, 1) := by decide +kernel
theorem dX11_busiest_125 : decode cX11_busiest 125 = .ok (.ifCond .ne 7, 3) := by decide +kernel
theorem dX11_busiest_128 : decode cX11_busiest 128 = .ok (.iload_n 3, 1) := by decide +kernel
theorem dX11_busiest_129 : decode cX11_busiest 129 = .ok (.goto 9, 3) := by decide +kernel
theorem dX11_busiest_132 : decode cX11_busiest 132 = .ok (.aload_n 0, 1) := by decide +kernel
theorem dX11_busiest_133 : decode cX11_busiest 133 = .ok (.getfield 73, 3) := by decide +kernel
theorem dX11_busiest_136 : decode cX11_busiest 136 = .ok (.iload_n 3, 1) := by decide +kernel
theorem dX11_busiest_137 : decode cX11_busiest 137 = .ok (.iaload, 1) := by decide +kernel
theorem dX11_busiest_138 : decode cX11_busiest 138 = .ok (.ireturn, 1) := by decide +kernel
theorem dX11_load_39 : decode cX11_load 39 = .ok (.iload_n 2, 1) := by decide +kernel
theorem dX11_load_40 : decode cX11_load 40 = .ok (.aload_n 0, 1) := by decide +kernel
theorem dX11_load_41 : decode cX11_load 41 = .ok (.getfield 82, 3) := by decide +kernel
theorem dX11_load_44 : decode cX11_load 44 = .ok (.getfield 125, 3) := by decide +kernel
theorem dX11_load_47 : decode cX11_load 47 = .ok (.aload_n 0, 1) := by decide +kernel
theorem dX11_load_48 : decode cX11_load 48 = .ok (.getfield 69, 3) := by decide +kernel
theorem dX11_load_51 : decode cX11_load 51 = .ok (.iload_n 3, 1) := by decide +kernel
theorem dX11_load_52 : decode cX11_load 52 = .ok (.iaload, 1) := by decide +kernel
theorem dX11_load_53 : decode cX11_load 53 = .ok (.iaload, 1) := by decide +kernel
theorem dX11_load_54 : decode cX11_load 54 = .ok (.iadd, 1) := by decide +kernel
theorem dX11_load_55 : decode cX11_load 55 = .ok (.istore_n 2, 1) := by decide +kernel
theorem dX11_order_37 : decode cX11_order 37 = .ok (.aload_n 0, 1) := by decide +kernel
theorem dX11_order_38 : decode cX11_order 38 = .ok (.getfield 54, 3) := by decide +kernel
theorem dX11_order_41 : decode cX11_order 41 = .ok (.iload 4, 2) := by decide +kernel
theorem dX11_order_43 : decode cX11_order 43 = .ok (.invokevirtual 134, 3) := by decide +kernel
theorem dX11_order_46 : decode cX11_order 46 = .ok (.ifCond .eq 28, 3) := by decide +kernel
theorem dX11_order_49 : decode cX11_order 49 = .ok (.aload_n 0, 1) := by decide +kernel
theorem dX11_order_50 : decode cX11_order 50 = .ok (.getfield 54, 3) := by decide +kernel
theorem dX11_order_53 : decode cX11_order 53 = .ok (.getfield 137, 3) := by decide +kernel
theorem dX11_order_56 : decode cX11_order 56 = .ok (.iload 4, 2) := by decide +kernel
theorem dX11_order_58 : decode cX11_order 58 = .ok (.iaload, 1) := by decide +kernel
theorem dX11_order_59 : decode cX11_order 59 = .ok (.iload_n 3, 1) := by decide +kernel
theorem dX11_order_60 : decode cX11_order 60 = .ok (.if_icmp .ne 14, 3) := by decide +kernel
theorem dX11_order_63 : decode cX11_order 63 = .ok (.iload_n 2, 1) := by decide +kernel
theorem dX11_order_64 : decode cX11_order 64 = .ok (.iload_n 1, 1) := by decide +kernel
theorem dX11_order_65 : decode cX11_order 65 = .ok (.if_icmp .ne 6, 3) := by decide +kernel
theorem dX11_order_68 : decode cX11_order 68 = .ok (.iload 4, 2) := by decide +kernel
theorem dX11_order_70 : decode cX11_order 70 = .ok (.ireturn, 1) := by decide +kernel
theorem dX11_order_71 : decode cX11_order 71 = .ok (.iinc 2 1, 3) := by decide +kernel
theorem dX11_order_74 : decode cX11_order 74 = .ok (.iinc 4 1, 3) := by decide +kernel
theorem dX11_order_77 : decode cX11_order 77 = .ok (.goto (-52), 3) := by decide +kernel
theorem dX11_handover_34 : decode cX11_handover 34 = .ok (.aload_n 0, 1) := by decide +kernel
theorem dX11_handover_35 : decode cX11_handover 35 = .ok (.getfield 58, 3) := by decide +kernel
theorem dX11_handover_38 : decode cX11_handover 38 = .ok (.invokevirtual 282, 3) := by decide +kernel
theorem dX11_handover_41 : decode cX11_handover 41 = .ok (.istore_n 3, 1) := by decide +kernel
theorem dX11_handover_42 : decode cX11_handover 42 = .ok (.iload_n 3, 1) := by decide +kernel
theorem dX11_handover_43 : decode cX11_handover 43 = .ok (.iconst (-1), 1) := by decide +kernel
theorem dX11_handover_44 : decode cX11_handover 44 = .ok (.if_icmp .eq 11, 3) := by decide +kernel
theorem dX11_handover_47 : decode cX11_handover 47 = .ok (.iload_n 1, 1) := by decide +kernel
theorem dX11_handover_48 : decode cX11_handover 48 = .ok (.iconst 1, 1) := by decide +kernel
theorem dX11_handover_49 : decode cX11_handover 49 = .ok (.iload_n 3, 1) := by decide +kernel
theorem dX11_handover_50 : decode cX11_handover 50 = .ok (.ishl, 1) := by decide +kernel
theorem dX11_handover_51 : decode cX11_handover 51 = .ok (.iconst (-1), 1) := by decide +kernel
theorem dX11_handover_52 : decode cX11_handover 52 = .ok (.ixor, 1) := by decide +kernel
theorem dX11_handover_53 : decode cX11_handover 53 = .ok (.iand, 1) := by decide +kernel
theorem dX11_handover_54 : decode cX11_handover 54 = .ok (.istore_n 1, 1) := by decide +kernel
theorem dX11_handover_55 : decode cX11_handover 55 = .ok (.aload_n 0, 1) := by decide +kernel
theorem dX11_handover_56 : decode cX11_handover 56 = .ok (.getfield 19, 3) := by decide +kernel
theorem dX11_handover_59 : decode cX11_handover 59 = .ok (.aload_n 0, 1) := by decide +kernel
theorem dX11_handover_60 : decode cX11_handover 60 = .ok (.getfield 82, 3) := by decide +kernel
theorem dX11_handover_63 : decode cX11_handover 63 = .ok (.aload_n 0, 1) := by decide +kernel
theorem dX11_handover_64 : decode cX11_handover 64 = .ok (.getfield 58, 3) := by decide +kernel
theorem dX11_handover_67 : decode cX11_handover 67 = .ok (.iconst 1, 1) := by decide +kernel
theorem dX11_handover_68 : decode cX11_handover 68 = .ok (.aload_n 0, 1) := by decide +kernel
theorem dX11_handover_69 : decode cX11_handover 69 = .ok (.getfield 82, 3) := by decide +kernel
theorem dX11_handover_72 : decode cX11_handover 72 = .ok (.getfield 220, 3) := by decide +kernel
theorem dX11_handover_75 : decode cX11_handover 75 = .ok (.invokevirtual 223, 3) := by decide +kernel
theorem dX11_handover_78 : decode cX11_handover 78 = .ok (.iinc 2 1, 3) := by decide +kernel
theorem dX11_handover_81 : decode cX11_handover 81 = .ok (.goto (-59), 3) := by decide +kernel
theorem dX11_handover_84 : decode cX11_handover 84 = .ok (.bipush (-2), 2) := by decide +kernel
theorem dX11_handover_86 : decode cX11_handover 86 = .ok (.ireturn, 1) := by decide +kernel
theorem dX11_down_32 : decode cX11_down 32 = .ok (.aload_n 0, 1) := by decide +kernel
theorem dX11_down_33 : decode cX11_down 33 = .ok (.getfield 19, 3) := by decide +kernel
theorem dX11_down_36 : decode cX11_down 36 = .ok (.aload_n 0, 1) := by decide +kernel
theorem dX11_down_37 : decode cX11_down 37 = .ok (.getfield 82, 3) := by decide +kernel
theorem dX11_down_40 : decode cX11_down 40 = .ok (.aload_n 0, 1) := by decide +kernel
theorem dX11_down_41 : decode cX11_down 41 = .ok (.getfield 58, 3) := by decide +kernel
theorem dX11_down_44 : decode cX11_down 44 = .ok (.iconst 1, 1) := by decide +kernel
theorem dX11_down_45 : decode cX11_down 45 = .ok (.aload_n 0, 1) := by decide +kernel
theorem dX11_down_46 : decode cX11_down 46 = .ok (.getfield 82, 3) := by decide +kernel
theorem dX11_down_49 : decode cX11_down 49 = .ok (.getfield 220, 3) := by decide +kernel
theorem dX11_down_52 : decode cX11_down 52 = .ok (.invokevirtual 223, 3) := by decide +kernel
theorem dX11_down_55 : decode cX11_down 55 = .ok (.iinc 1 1, 3) := by decide +kernel
theorem dX11_down_58 : decode cX11_down 58 = .ok (.goto (-45), 3) := by decide +kernel
theorem dX11_down_61 : decode cX11_down 61 = .ok (.bipush (-2), 2) := by decide +kernel
theorem dX11_down_63 : decode cX11_down 63 = .ok (.ireturn, 1) := by decide +kernel
theorem dX11_light_40 : decode cX11_light 40 = .ok (.aload_n 0, 1) := by decide +kernel
theorem dX11_light_41 : decode cX11_light 41 = .ok (.getfield 82, 3) := by decide +kernel
theorem dX11_light_44 : decode cX11_light 44 = .ok (.getfield 149, 3) := by decide +kernel
theorem dX11_light_47 : decode cX11_light 47 = .ok (.iload 5, 2) := by decide +kernel
theorem dX11_light_49 : decode cX11_light 49 = .ok (.aaload, 1) := by decide +kernel
theorem dX11_light_50 : decode cX11_light 50 = .ok (.aload_n 0, 1) := by decide +kernel
theorem dX11_light_51 : decode cX11_light 51 = .ok (.getfield 82, 3) := by decide +kernel
theorem dX11_light_54 : decode cX11_light 54 = .ok (.getfield 146, 3) := by decide +kernel
theorem dX11_light_57 : decode cX11_light 57 = .ok (.iload 5, 2) := by decide +kernel
theorem dX11_light_59 : decode cX11_light 59 = .ok (.iaload, 1) := by decide +kernel
theorem dX11_light_60 : decode cX11_light 60 = .ok (.iconst 1, 1) := by decide +kernel
theorem dX11_light_61 : decode cX11_light 61 = .ok (.invokestatic 233, 3) := by decide +kernel
theorem dX11_light_64 : decode cX11_light 64 = .ok (.aload_n 0, 1) := by decide +kernel
theorem dX11_light_65 : decode cX11_light 65 = .ok (.getfield 54, 3) := by decide +kernel
theorem dX11_light_68 : decode cX11_light 68 = .ok (.invokevirtual 156, 3) := by decide +kernel
theorem dX11_light_71 : decode cX11_light 71 = .ok (.if_icmp .ne 76, 3) := by decide +kernel
theorem dX11_light_74 : decode cX11_light 74 = .ok (.aload_n 0, 1) := by decide +kernel
theorem dX11_light_75 : decode cX11_light 75 = .ok (.getfield 58, 3) := by decide +kernel
theorem dX11_light_78 : decode cX11_light 78 = .ok (.aload_n 0, 1) := by decide +kernel
theorem dX11_light_79 : decode cX11_light 79 = .ok (.getfield 54, 3) := by decide +kernel
theorem dX11_light_82 : decode cX11_light 82 = .ok (.invokevirtual 230, 3) := by decide +kernel
theorem dX11_light_85 : decode cX11_light 85 = .ok (.aload_n 0, 1) := by decide +kernel
theorem dX11_light_86 : decode cX11_light 86 = .ok (.getfield 58, 3) := by decide +kernel
theorem dX11_light_89 : decode cX11_light 89 = .ok (.iload 5, 2) := by decide +kernel
theorem dX11_light_91 : decode cX11_light 91 = .ok (.invokevirtual 214, 3) := by decide +kernel
theorem dX11_light_94 : decode cX11_light 94 = .ok (.aload_n 0, 1) := by decide +kernel
theorem dX11_light_95 : decode cX11_light 95 = .ok (.getfield 19, 3) := by decide +kernel
theorem dX11_light_98 : decode cX11_light 98 = .ok (.aload_n 0, 1) := by decide +kernel
theorem dX11_light_99 : decode cX11_light 99 = .ok (.getfield 82, 3) := by decide +kernel
theorem dX11_light_102 : decode cX11_light 102 = .ok (.aload_n 0, 1) := by decide +kernel
theorem dX11_light_103 : decode cX11_light 103 = .ok (.getfield 58, 3) := by decide +kernel
theorem dX11_light_106 : decode cX11_light 106 = .ok (.iload_n 1, 1) := by decide +kernel
theorem dX11_light_107 : decode cX11_light 107 = .ok (.aload_n 0, 1) := by decide +kernel
theorem dX11_light_108 : decode cX11_light 108 = .ok (.getfield 82, 3) := by decide +kernel
theorem dX11_light_111 : decode cX11_light 111 = .ok (.getfield 220, 3) := by decide +kernel
theorem dX11_light_114 : decode cX11_light 114 = .ok (.invokevirtual 223, 3) := by decide +kernel
theorem dX11_light_117 : decode cX11_light 117 = .ok (.iload_n 3, 1) := by decide +kernel
theorem dX11_light_118 : decode cX11_light 118 = .ok (.bipush (-2), 2) := by decide +kernel
theorem dX11_light_120 : decode cX11_light 120 = .ok (.if_icmp .eq 15, 3) := by decide +kernel
theorem dX11_light_123 : decode cX11_light 123 = .ok (.aload_n 0, 1) := by decide +kernel
theorem dX11_light_124 : decode cX11_light 124 = .ok (.getfield 58, 3) := by decide +kernel
theorem dX11_light_127 : decode cX11_light 127 = .ok (.getfield 177, 3) := by decide +kernel
theorem dX11_light_130 : decode cX11_light 130 = .ok (.iload 4, 2) := by decide +kernel
theorem dX11_light_132 : decode cX11_light 132 = .ok (.if_icmp .ge 15, 3) := by decide +kernel
theorem dX11_light_135 : decode cX11_light 135 = .ok (.iload 5, 2) := by decide +kernel
theorem dX11_light_137 : decode cX11_light 137 = .ok (.istore_n 3, 1) := by decide +kernel
theorem dX11_light_138 : decode cX11_light 138 = .ok (.aload_n 0, 1) := by decide +kernel
theorem dX11_light_139 : decode cX11_light 139 = .ok (.getfield 58, 3) := by decide +kernel
theorem dX11_light_142 : decode cX11_light 142 = .ok (.getfield 177, 3) := by decide +kernel
theorem dX11_light_145 : decode cX11_light 145 = .ok (.istore 4, 2) := by decide +kernel
theorem dX11_light_147 : decode cX11_light 147 = .ok (.iinc 5 1, 3) := by decide +kernel
theorem dX11_light_150 : decode cX11_light 150 = .ok (.goto (-122), 3) := by decide +kernel
