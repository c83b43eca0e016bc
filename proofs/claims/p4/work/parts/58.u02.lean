theorem dX12_tellOne_0 : decode cX12_tellOne 0 = .ok (.aload_n 0, 1) := by decide +kernel
theorem dX12_tellOne_1 : decode cX12_tellOne 1 = .ok (.getfield 20, 3) := by decide +kernel
theorem dX12_tellOne_4 : decode cX12_tellOne 4 = .ok (.aload_n 0, 1) := by decide +kernel
theorem dX12_tellOne_5 : decode cX12_tellOne 5 = .ok (.getfield 194, 3) := by decide +kernel
theorem dX12_tellOne_8 : decode cX12_tellOne 8 = .ok (.iaload, 1) := by decide +kernel
theorem dX12_tellOne_9 : decode cX12_tellOne 9 = .ok (.tableswitch 143 20 27 #[47, 76, 143, 143, 143, 143, 104, 123], 47) := by decide +kernel
theorem dX12_tellOne_56 : decode cX12_tellOne 56 = .ok (.aload_n 0, 1) := by decide +kernel
theorem dX12_tellOne_57 : decode cX12_tellOne 57 = .ok (.aload_n 0, 1) := by decide +kernel
theorem dX12_tellOne_58 : decode cX12_tellOne 58 = .ok (.getfield 43, 3) := by decide +kernel
theorem dX12_tellOne_61 : decode cX12_tellOne 61 = .ok (.aload_n 0, 1) := by decide +kernel
theorem dX12_tellOne_62 : decode cX12_tellOne 62 = .ok (.getfield 224, 3) := by decide +kernel
theorem dX12_tellOne_65 : decode cX12_tellOne 65 = .ok (.iaload, 1) := by decide +kernel
theorem dX12_tellOne_66 : decode cX12_tellOne 66 = .ok (.bipush 7, 2) := by decide +kernel
theorem dX12_tellOne_68 : decode cX12_tellOne 68 = .ok (.invokevirtual 252, 3) := by decide +kernel
theorem dX12_tellOne_71 : decode cX12_tellOne 71 = .ok (.aload_n 0, 1) := by decide +kernel
theorem dX12_tellOne_72 : decode cX12_tellOne 72 = .ok (.getfield 191, 3) := by decide +kernel
theorem dX12_tellOne_75 : decode cX12_tellOne 75 = .ok (.ifCond .ne 130, 3) := by decide +kernel
theorem dX12_tellOne_78 : decode cX12_tellOne 78 = .ok (.aload_n 0, 1) := by decide +kernel
theorem dX12_tellOne_79 : decode cX12_tellOne 79 = .ok (.invokevirtual 256, 3) := by decide +kernel
theorem dX12_tellOne_82 : decode cX12_tellOne 82 = .ok (.goto 123, 3) := by decide +kernel
theorem dX12_tellOne_85 : decode cX12_tellOne 85 = .ok (.aload_n 0, 1) := by decide +kernel
theorem dX12_tellOne_86 : decode cX12_tellOne 86 = .ok (.aload_n 0, 1) := by decide +kernel
theorem dX12_tellOne_87 : decode cX12_tellOne 87 = .ok (.getfield 55, 3) := by decide +kernel
theorem dX12_tellOne_90 : decode cX12_tellOne 90 = .ok (.aload_n 0, 1) := by decide +kernel
theorem dX12_tellOne_91 : decode cX12_tellOne 91 = .ok (.getfield 224, 3) := by decide +kernel
theorem dX12_tellOne_94 : decode cX12_tellOne 94 = .ok (.iaload, 1) := by decide +kernel
theorem dX12_tellOne_95 : decode cX12_tellOne 95 = .ok (.iconst 5, 1) := by decide +kernel
theorem dX12_tellOne_96 : decode cX12_tellOne 96 = .ok (.invokevirtual 252, 3) := by decide +kernel
theorem dX12_tellOne_99 : decode cX12_tellOne 99 = .ok (.aload_n 0, 1) := by decide +kernel
theorem dX12_tellOne_100 : decode cX12_tellOne 100 = .ok (.getfield 191, 3) := by decide +kernel
theorem dX12_tellOne_103 : decode cX12_tellOne 103 = .ok (.ifCond .ne 102, 3) := by decide +kernel
theorem dX12_tellOne_106 : decode cX12_tellOne 106 = .ok (.aload_n 0, 1) := by decide +kernel
theorem dX12_tellOne_107 : decode cX12_tellOne 107 = .ok (.invokevirtual 259, 3) := by decide +kernel
theorem dX12_tellOne_110 : decode cX12_tellOne 110 = .ok (.goto 95, 3) := by decide +kernel
theorem dX12_tellOne_113 : decode cX12_tellOne 113 = .ok (.aload_n 0, 1) := by decide +kernel
theorem dX12_tellOne_114 : decode cX12_tellOne 114 = .ok (.getfield 64, 3) := by decide +kernel
theorem dX12_tellOne_117 : decode cX12_tellOne 117 = .ok (.aload_n 0, 1) := by decide +kernel
theorem dX12_tellOne_118 : decode cX12_tellOne 118 = .ok (.getfield 224, 3) := by decide +kernel
theorem dX12_tellOne_121 : decode cX12_tellOne 121 = .ok (.aload_n 0, 1) := by decide +kernel
theorem dX12_tellOne_122 : decode cX12_tellOne 122 = .ok (.iconst 0, 1) := by decide +kernel
theorem dX12_tellOne_123 : decode cX12_tellOne 123 = .ok (.bipush 99, 2) := by decide +kernel
theorem dX12_tellOne_125 : decode cX12_tellOne 125 = .ok (.invokevirtual 262, 3) := by decide +kernel
theorem dX12_tellOne_128 : decode cX12_tellOne 128 = .ok (.iastore, 1) := by decide +kernel
theorem dX12_tellOne_129 : decode cX12_tellOne 129 = .ok (.goto 76, 3) := by decide +kernel
theorem dX12_tellOne_132 : decode cX12_tellOne 132 = .ok (.aload_n 0, 1) := by decide +kernel
theorem dX12_tellOne_133 : decode cX12_tellOne 133 = .ok (.getfield 67, 3) := by decide +kernel
theorem dX12_tellOne_136 : decode cX12_tellOne 136 = .ok (.aload_n 0, 1) := by decide +kernel
theorem dX12_tellOne_137 : decode cX12_tellOne 137 = .ok (.getfield 224, 3) := by decide +kernel
theorem dX12_tellOne_140 : decode cX12_tellOne 140 = .ok (.aload_n 0, 1) := by decide +kernel
theorem dX12_tellOne_141 : decode cX12_tellOne 141 = .ok (.iconst 0, 1) := by decide +kernel
theorem dX12_tellOne_142 : decode cX12_tellOne 142 = .ok (.sipush 9999, 3) := by decide +kernel
theorem dX12_tellOne_145 : decode cX12_tellOne 145 = .ok (.invokevirtual 262, 3) := by decide +kernel
theorem dX12_tellOne_148 : decode cX12_tellOne 148 = .ok (.iastore, 1) := by decide +kernel
theorem dX12_tellOne_149 : decode cX12_tellOne 149 = .ok (.goto 56, 3) := by decide +kernel
theorem dX12_tellOne_152 : decode cX12_tellOne 152 = .ok (.aload_n 0, 1) := by decide +kernel
theorem dX12_tellOne_153 : decode cX12_tellOne 153 = .ok (.getfield 20, 3) := by decide +kernel
theorem dX12_tellOne_156 : decode cX12_tellOne 156 = .ok (.aload_n 0, 1) := by decide +kernel
theorem dX12_tellOne_157 : decode cX12_tellOne 157 = .ok (.getfield 194, 3) := by decide +kernel
theorem dX12_tellOne_160 : decode cX12_tellOne 160 = .ok (.iaload, 1) := by decide +kernel
theorem dX12_tellOne_161 : decode cX12_tellOne 161 = .ok (.bipush 22, 2) := by decide +kernel
theorem dX12_tellOne_163 : decode cX12_tellOne 163 = .ok (.isub, 1) := by decide +kernel
theorem dX12_tellOne_164 : decode cX12_tellOne 164 = .ok (.istore_n 1, 1) := by decide +kernel
theorem dX12_tellOne_165 : decode cX12_tellOne 165 = .ok (.iload_n 1, 1) := by decide +kernel
theorem dX12_tellOne_166 : decode cX12_tellOne 166 = .ok (.ifCond .lt 17, 3) := by decide +kernel
theorem dX12_tellOne_169 : decode cX12_tellOne 169 = .ok (.aload_n 0, 1) := by decide +kernel
theorem dX12_tellOne_170 : decode cX12_tellOne 170 = .ok (.getfield 20, 3) := by decide +kernel
theorem dX12_tellOne_173 : decode cX12_tellOne 173 = .ok (.aload_n 0, 1) := by decide +kernel
theorem dX12_tellOne_174 : decode cX12_tellOne 174 = .ok (.getfield 194, 3) := by decide +kernel
theorem dX12_tellOne_177 : decode cX12_tellOne 177 = .ok (.iaload, 1) := by decide +kernel
theorem dX12_tellOne_178 : decode cX12_tellOne 178 = .ok (.bipush 25, 2) := by decide +kernel
theorem dX12_tellOne_180 : decode cX12_tellOne 180 = .ok (.if_icmp .le 8, 3) := by decide +kernel
theorem dX12_tellOne_183 : decode cX12_tellOne 183 = .ok (.aload_n 0, 1) := by decide +kernel
theorem dX12_tellOne_184 : decode cX12_tellOne 184 = .ok (.iconst 1, 1) := by decide +kernel
theorem dX12_tellOne_185 : decode cX12_tellOne 185 = .ok (.invokevirtual 206, 3) := by decide +kernel
theorem dX12_tellOne_188 : decode cX12_tellOne 188 = .ok (.aload_n 0, 1) := by decide +kernel
theorem dX12_tellOne_189 : decode cX12_tellOne 189 = .ok (.getfield 191, 3) := by decide +kernel
theorem dX12_tellOne_192 : decode cX12_tellOne 192 = .ok (.ifCond .le 4, 3) := by decide +kernel
theorem dX12_tellOne_195 : decode cX12_tellOne 195 = .ok (.return_, 1) := by decide +kernel
theorem dX12_tellOne_196 : decode cX12_tellOne 196 = .ok (.aload_n 0, 1) := by decide +kernel
theorem dX12_tellOne_197 : decode cX12_tellOne 197 = .ok (.invokevirtual 212, 3) := by decide +kernel
theorem dX12_tellOne_200 : decode cX12_tellOne 200 = .ok (.aload_n 0, 1) := by decide +kernel
theorem dX12_tellOne_201 : decode cX12_tellOne 201 = .ok (.iload_n 1, 1) := by decide +kernel
theorem dX12_tellOne_202 : decode cX12_tellOne 202 = .ok (.invokevirtual 265, 3) := by decide +kernel
theorem dX12_tellOne_205 : decode cX12_tellOne 205 = .ok (.return_, 1) := by decide +kernel
