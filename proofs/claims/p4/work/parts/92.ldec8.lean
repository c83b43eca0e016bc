theorem dL_law_1094 : decode code 1094 = .ok (.iadd, 1) := by decide +kernel
theorem dL_law_1095 : decode code 1095 = .ok (.iaload, 1) := by decide +kernel
theorem dL_law_1096 : decode code 1096 = .ok (.invokevirtual 154, 3) := by decide +kernel
theorem dL_law_1099 : decode code 1099 = .ok (.pop, 1) := by decide +kernel
theorem dL_law_1100 : decode code 1100 = .ok (.aload_n 2, 1) := by decide +kernel
theorem dL_law_1101 : decode code 1101 = .ok (.aload_n 0, 1) := by decide +kernel
theorem dL_law_1102 : decode code 1102 = .ok (.iload_n 3, 1) := by decide +kernel
theorem dL_law_1103 : decode code 1103 = .ok (.iconst 1, 1) := by decide +kernel
theorem dL_law_1104 : decode code 1104 = .ok (.iadd, 1) := by decide +kernel
theorem dL_law_1105 : decode code 1105 = .ok (.iaload, 1) := by decide +kernel
theorem dL_law_1106 : decode code 1106 = .ok (.aload_n 0, 1) := by decide +kernel
theorem dL_law_1107 : decode code 1107 = .ok (.iload_n 3, 1) := by decide +kernel
theorem dL_law_1108 : decode code 1108 = .ok (.iconst 2, 1) := by decide +kernel
theorem dL_law_1109 : decode code 1109 = .ok (.iadd, 1) := by decide +kernel
theorem dL_law_1110 : decode code 1110 = .ok (.iaload, 1) := by decide +kernel
theorem dL_law_1111 : decode code 1111 = .ok (.invokevirtual 157, 3) := by decide +kernel
theorem dL_law_1114 : decode code 1114 = .ok (.pop, 1) := by decide +kernel
theorem dL_law_1115 : decode code 1115 = .ok (.goto 223, 3) := by decide +kernel
theorem dL_law_1118 : decode code 1118 = .ok (.aload_n 1, 1) := by decide +kernel
theorem dL_law_1119 : decode code 1119 = .ok (.aload_n 0, 1) := by decide +kernel
theorem dL_law_1120 : decode code 1120 = .ok (.iload_n 3, 1) := by decide +kernel
theorem dL_law_1121 : decode code 1121 = .ok (.iconst 1, 1) := by decide +kernel
theorem dL_law_1122 : decode code 1122 = .ok (.iadd, 1) := by decide +kernel
theorem dL_law_1123 : decode code 1123 = .ok (.iaload, 1) := by decide +kernel
theorem dL_law_1124 : decode code 1124 = .ok (.aload_n 0, 1) := by decide +kernel
theorem dL_law_1125 : decode code 1125 = .ok (.iload_n 3, 1) := by decide +kernel
theorem dL_law_1126 : decode code 1126 = .ok (.iconst 2, 1) := by decide +kernel
theorem dL_law_1127 : decode code 1127 = .ok (.iadd, 1) := by decide +kernel
theorem dL_law_1128 : decode code 1128 = .ok (.iaload, 1) := by decide +kernel
theorem dL_law_1129 : decode code 1129 = .ok (.invokevirtual 158, 3) := by decide +kernel
theorem dL_law_1132 : decode code 1132 = .ok (.pop, 1) := by decide +kernel
theorem dL_law_1133 : decode code 1133 = .ok (.aload_n 2, 1) := by decide +kernel
theorem dL_law_1134 : decode code 1134 = .ok (.aload_n 0, 1) := by decide +kernel
theorem dL_law_1135 : decode code 1135 = .ok (.iload_n 3, 1) := by decide +kernel
theorem dL_law_1136 : decode code 1136 = .ok (.iconst 1, 1) := by decide +kernel
theorem dL_law_1137 : decode code 1137 = .ok (.iadd, 1) := by decide +kernel
theorem dL_law_1138 : decode code 1138 = .ok (.iaload, 1) := by decide +kernel
theorem dL_law_1139 : decode code 1139 = .ok (.aload_n 0, 1) := by decide +kernel
theorem dL_law_1140 : decode code 1140 = .ok (.iload_n 3, 1) := by decide +kernel
theorem dL_law_1141 : decode code 1141 = .ok (.iconst 2, 1) := by decide +kernel
theorem dL_law_1142 : decode code 1142 = .ok (.iadd, 1) := by decide +kernel
theorem dL_law_1143 : decode code 1143 = .ok (.iaload, 1) := by decide +kernel
theorem dL_law_1144 : decode code 1144 = .ok (.invokevirtual 161, 3) := by decide +kernel
theorem dL_law_1147 : decode code 1147 = .ok (.pop, 1) := by decide +kernel
theorem dL_law_1148 : decode code 1148 = .ok (.goto 190, 3) := by decide +kernel
theorem dL_law_1151 : decode code 1151 = .ok (.aload_n 1, 1) := by decide +kernel
theorem dL_law_1152 : decode code 1152 = .ok (.aload_n 0, 1) := by decide +kernel
theorem dL_law_1153 : decode code 1153 = .ok (.iload_n 3, 1) := by decide +kernel
theorem dL_law_1154 : decode code 1154 = .ok (.iconst 1, 1) := by decide +kernel
theorem dL_law_1155 : decode code 1155 = .ok (.iadd, 1) := by decide +kernel
theorem dL_law_1156 : decode code 1156 = .ok (.iaload, 1) := by decide +kernel
theorem dL_law_1157 : decode code 1157 = .ok (.aload_n 0, 1) := by decide +kernel
theorem dL_law_1158 : decode code 1158 = .ok (.iload_n 3, 1) := by decide +kernel
theorem dL_law_1159 : decode code 1159 = .ok (.iconst 2, 1) := by decide +kernel
theorem dL_law_1160 : decode code 1160 = .ok (.iadd, 1) := by decide +kernel
theorem dL_law_1161 : decode code 1161 = .ok (.iaload, 1) := by decide +kernel
theorem dL_law_1162 : decode code 1162 = .ok (.ifCond .eq 7, 3) := by decide +kernel
theorem dL_law_1165 : decode code 1165 = .ok (.iconst 1, 1) := by decide +kernel
theorem dL_law_1166 : decode code 1166 = .ok (.goto 4, 3) := by decide +kernel
theorem dL_law_1169 : decode code 1169 = .ok (.iconst 0, 1) := by decide +kernel
theorem dL_law_1170 : decode code 1170 = .ok (.invokevirtual 162, 3) := by decide +kernel
theorem dL_law_1173 : decode code 1173 = .ok (.pop, 1) := by decide +kernel
theorem dL_law_1174 : decode code 1174 = .ok (.aload_n 2, 1) := by decide +kernel
theorem dL_law_1175 : decode code 1175 = .ok (.aload_n 0, 1) := by decide +kernel
theorem dL_law_1176 : decode code 1176 = .ok (.iload_n 3, 1) := by decide +kernel
theorem dL_law_1177 : decode code 1177 = .ok (.iconst 1, 1) := by decide +kernel
theorem dL_law_1178 : decode code 1178 = .ok (.iadd, 1) := by decide +kernel
theorem dL_law_1179 : decode code 1179 = .ok (.iaload, 1) := by decide +kernel
theorem dL_law_1180 : decode code 1180 = .ok (.aload_n 0, 1) := by decide +kernel
theorem dL_law_1181 : decode code 1181 = .ok (.iload_n 3, 1) := by decide +kernel
theorem dL_law_1182 : decode code 1182 = .ok (.iconst 2, 1) := by decide +kernel
theorem dL_law_1183 : decode code 1183 = .ok (.iadd, 1) := by decide +kernel
theorem dL_law_1184 : decode code 1184 = .ok (.iaload, 1) := by decide +kernel
theorem dL_law_1185 : decode code 1185 = .ok (.ifCond .eq 7, 3) := by decide +kernel
theorem dL_law_1188 : decode code 1188 = .ok (.iconst 1, 1) := by decide +kernel
theorem dL_law_1189 : decode code 1189 = .ok (.goto 4, 3) := by decide +kernel
theorem dL_law_1192 : decode code 1192 = .ok (.iconst 0, 1) := by decide +kernel
theorem dL_law_1193 : decode code 1193 = .ok (.invokevirtual 166, 3) := by decide +kernel
theorem dL_law_1196 : decode code 1196 = .ok (.pop, 1) := by decide +kernel
theorem dL_law_1197 : decode code 1197 = .ok (.goto 141, 3) := by decide +kernel
theorem dL_law_1200 : decode code 1200 = .ok (.aload_n 1, 1) := by decide +kernel
theorem dL_law_1201 : decode code 1201 = .ok (.invokevirtual 167, 3) := by decide +kernel
theorem dL_law_1204 : decode code 1204 = .ok (.pop, 1) := by decide +kernel
theorem dL_law_1205 : decode code 1205 = .ok (.aload_n 2, 1) := by decide +kernel
theorem dL_law_1206 : decode code 1206 = .ok (.invokevirtual 170, 3) := by decide +kernel
theorem dL_law_1209 : decode code 1209 = .ok (.pop, 1) := by decide +kernel
theorem dL_law_1210 : decode code 1210 = .ok (.goto 128, 3) := by decide +kernel
theorem dL_law_1213 : decode code 1213 = .ok (.aload_n 1, 1) := by decide +kernel
theorem dL_law_1214 : decode code 1214 = .ok (.aload_n 0, 1) := by decide +kernel
theorem dL_law_1215 : decode code 1215 = .ok (.iload_n 3, 1) := by decide +kernel
theorem dL_law_1216 : decode code 1216 = .ok (.iconst 1, 1) := by decide +kernel
theorem dL_law_1217 : decode code 1217 = .ok (.iadd, 1) := by decide +kernel
theorem dL_law_1218 : decode code 1218 = .ok (.iaload, 1) := by decide +kernel
theorem dL_law_1219 : decode code 1219 = .ok (.aload_n 0, 1) := by decide +kernel
theorem dL_law_1220 : decode code 1220 = .ok (.iload_n 3, 1) := by decide +kernel
theorem dL_law_1221 : decode code 1221 = .ok (.iconst 2, 1) := by decide +kernel
theorem dL_law_1222 : decode code 1222 = .ok (.iadd, 1) := by decide +kernel
theorem dL_law_1223 : decode code 1223 = .ok (.iaload, 1) := by decide +kernel
theorem dL_law_1224 : decode code 1224 = .ok (.invokevirtual 171, 3) := by decide +kernel
theorem dL_law_1227 : decode code 1227 = .ok (.pop, 1) := by decide +kernel
