theorem dL_law_1180 : decode code 1180 = .ok (.iload_n 3, 1) := by decide +kernel
theorem dL_law_1181 : decode code 1181 = .ok (.iconst 2, 1) := by decide +kernel
theorem dL_law_1182 : decode code 1182 = .ok (.iadd, 1) := by decide +kernel
theorem dL_law_1183 : decode code 1183 = .ok (.iaload, 1) := by decide +kernel
theorem dL_law_1184 : decode code 1184 = .ok (.ifCond .eq 7, 3) := by decide +kernel
theorem dL_law_1187 : decode code 1187 = .ok (.iconst 1, 1) := by decide +kernel
theorem dL_law_1188 : decode code 1188 = .ok (.goto 4, 3) := by decide +kernel
theorem dL_law_1191 : decode code 1191 = .ok (.iconst 0, 1) := by decide +kernel
theorem dL_law_1192 : decode code 1192 = .ok (.invokevirtual 166, 3) := by decide +kernel
theorem dL_law_1195 : decode code 1195 = .ok (.if_icmp .eq 143, 3) := by decide +kernel
theorem dL_law_1200 : decode code 1200 = .ok (.aload_n 1, 1) := by decide +kernel
theorem dL_law_1201 : decode code 1201 = .ok (.invokevirtual 167, 3) := by decide +kernel
theorem dL_law_1204 : decode code 1204 = .ok (.aload_n 2, 1) := by decide +kernel
theorem dL_law_1205 : decode code 1205 = .ok (.invokevirtual 170, 3) := by decide +kernel
theorem dL_law_1208 : decode code 1208 = .ok (.if_icmp .eq 130, 3) := by decide +kernel
theorem dL_law_1213 : decode code 1213 = .ok (.aload_n 1, 1) := by decide +kernel
theorem dL_law_1214 : decode code 1214 = .ok (.aload_n 0, 1) := by decide +kernel
theorem dL_law_1215 : decode code 1215 = .ok (.iload_n 3, 1) := by decide +kernel
theorem dL_law_1216 : decode code 1216 = .ok (.iconst 1, 1) := by decide +kernel
theorem dL_law_1217 : decode code 1217 = .ok (.iadd, 1) := by decide +kernel
theorem dL_law_1218 : decode code 1218 = .ok (.iaload, 1) := by decide +kernel
theorem dL_law_1219 : decode code 1219 = .ok (.aload_n 0, 1) := by decide +kernel
theorem dL_law_1220 : decode code 1220 = .ok (.iload_n 3, 1) := by decide +kernel
theorem dL_law_1221 : decode code 1221 = .ok (.iconst 2, 1) := by decide +kernel
theorem dL_law_1222 : decode code 1222 = .ok (.iadd, 1) := by decide +kernel
theorem dL_law_1223 : decode code 1223 = .ok (.iaload, 1) := by decide +kernel
theorem dL_law_1224 : decode code 1224 = .ok (.invokevirtual 171, 3) := by decide +kernel
theorem dL_law_1227 : decode code 1227 = .ok (.aload_n 2, 1) := by decide +kernel
theorem dL_law_1228 : decode code 1228 = .ok (.aload_n 0, 1) := by decide +kernel
theorem dL_law_1229 : decode code 1229 = .ok (.iload_n 3, 1) := by decide +kernel
theorem dL_law_1230 : decode code 1230 = .ok (.iconst 1, 1) := by decide +kernel
theorem dL_law_1231 : decode code 1231 = .ok (.iadd, 1) := by decide +kernel
theorem dL_law_1232 : decode code 1232 = .ok (.iaload, 1) := by decide +kernel
theorem dL_law_1233 : decode code 1233 = .ok (.aload_n 0, 1) := by decide +kernel
theorem dL_law_1234 : decode code 1234 = .ok (.iload_n 3, 1) := by decide +kernel
theorem dL_law_1235 : decode code 1235 = .ok (.iconst 2, 1) := by decide +kernel
theorem dL_law_1236 : decode code 1236 = .ok (.iadd, 1) := by decide +kernel
theorem dL_law_1237 : decode code 1237 = .ok (.iaload, 1) := by decide +kernel
theorem dL_law_1238 : decode code 1238 = .ok (.invokevirtual 174, 3) := by decide +kernel
theorem dL_law_1241 : decode code 1241 = .ok (.if_icmp .eq 97, 3) := by decide +kernel
theorem dL_law_1246 : decode code 1246 = .ok (.aload_n 1, 1) := by decide +kernel
theorem dL_law_1247 : decode code 1247 = .ok (.aload_n 0, 1) := by decide +kernel
theorem dL_law_1248 : decode code 1248 = .ok (.iload_n 3, 1) := by decide +kernel
theorem dL_law_1249 : decode code 1249 = .ok (.iconst 1, 1) := by decide +kernel
theorem dL_law_1250 : decode code 1250 = .ok (.iadd, 1) := by decide +kernel
theorem dL_law_1251 : decode code 1251 = .ok (.iaload, 1) := by decide +kernel
theorem dL_law_1252 : decode code 1252 = .ok (.invokevirtual 175, 3) := by decide +kernel
theorem dL_law_1255 : decode code 1255 = .ok (.aload_n 2, 1) := by decide +kernel
theorem dL_law_1256 : decode code 1256 = .ok (.aload_n 0, 1) := by decide +kernel
theorem dL_law_1257 : decode code 1257 = .ok (.iload_n 3, 1) := by decide +kernel
theorem dL_law_1258 : decode code 1258 = .ok (.iconst 1, 1) := by decide +kernel
theorem dL_law_1259 : decode code 1259 = .ok (.iadd, 1) := by decide +kernel
theorem dL_law_1260 : decode code 1260 = .ok (.iaload, 1) := by decide +kernel
theorem dL_law_1261 : decode code 1261 = .ok (.invokevirtual 178, 3) := by decide +kernel
theorem dL_law_1264 : decode code 1264 = .ok (.if_icmp .eq 74, 3) := by decide +kernel
theorem dL_law_1269 : decode code 1269 = .ok (.aload_n 1, 1) := by decide +kernel
theorem dL_law_1270 : decode code 1270 = .ok (.aload_n 0, 1) := by decide +kernel
theorem dL_law_1271 : decode code 1271 = .ok (.iload_n 3, 1) := by decide +kernel
theorem dL_law_1272 : decode code 1272 = .ok (.iconst 1, 1) := by decide +kernel
theorem dL_law_1273 : decode code 1273 = .ok (.iadd, 1) := by decide +kernel
theorem dL_law_1274 : decode code 1274 = .ok (.iaload, 1) := by decide +kernel
theorem dL_law_1275 : decode code 1275 = .ok (.invokevirtual 179, 3) := by decide +kernel
theorem dL_law_1278 : decode code 1278 = .ok (.aload_n 2, 1) := by decide +kernel
theorem dL_law_1279 : decode code 1279 = .ok (.aload_n 0, 1) := by decide +kernel
theorem dL_law_1280 : decode code 1280 = .ok (.iload_n 3, 1) := by decide +kernel
theorem dL_law_1281 : decode code 1281 = .ok (.iconst 1, 1) := by decide +kernel
theorem dL_law_1282 : decode code 1282 = .ok (.iadd, 1) := by decide +kernel
theorem dL_law_1283 : decode code 1283 = .ok (.iaload, 1) := by decide +kernel
theorem dL_law_1284 : decode code 1284 = .ok (.invokevirtual 182, 3) := by decide +kernel
theorem dL_law_1287 : decode code 1287 = .ok (.if_icmp .eq 51, 3) := by decide +kernel
theorem dL_law_1292 : decode code 1292 = .ok (.aload_n 1, 1) := by decide +kernel
theorem dL_law_1293 : decode code 1293 = .ok (.aload_n 0, 1) := by decide +kernel
theorem dL_law_1294 : decode code 1294 = .ok (.iload_n 3, 1) := by decide +kernel
theorem dL_law_1295 : decode code 1295 = .ok (.iconst 1, 1) := by decide +kernel
theorem dL_law_1296 : decode code 1296 = .ok (.iadd, 1) := by decide +kernel
theorem dL_law_1297 : decode code 1297 = .ok (.iaload, 1) := by decide +kernel
theorem dL_law_1298 : decode code 1298 = .ok (.invokevirtual 183, 3) := by decide +kernel
theorem dL_law_1301 : decode code 1301 = .ok (.aload_n 2, 1) := by decide +kernel
theorem dL_law_1302 : decode code 1302 = .ok (.aload_n 0, 1) := by decide +kernel
theorem dL_law_1303 : decode code 1303 = .ok (.iload_n 3, 1) := by decide +kernel
theorem dL_law_1304 : decode code 1304 = .ok (.iconst 1, 1) := by decide +kernel
theorem dL_law_1305 : decode code 1305 = .ok (.iadd, 1) := by decide +kernel
theorem dL_law_1306 : decode code 1306 = .ok (.iaload, 1) := by decide +kernel
theorem dL_law_1307 : decode code 1307 = .ok (.invokevirtual 186, 3) := by decide +kernel
theorem dL_law_1310 : decode code 1310 = .ok (.if_icmp .eq 28, 3) := by decide +kernel
theorem dL_law_1315 : decode code 1315 = .ok (.aload_n 1, 1) := by decide +kernel
theorem dL_law_1316 : decode code 1316 = .ok (.aload_n 0, 1) := by decide +kernel
theorem dL_law_1317 : decode code 1317 = .ok (.iload_n 3, 1) := by decide +kernel
theorem dL_law_1318 : decode code 1318 = .ok (.iconst 1, 1) := by decide +kernel
theorem dL_law_1319 : decode code 1319 = .ok (.iadd, 1) := by decide +kernel
theorem dL_law_1320 : decode code 1320 = .ok (.iaload, 1) := by decide +kernel
theorem dL_law_1321 : decode code 1321 = .ok (.invokevirtual 187, 3) := by decide +kernel
theorem dL_law_1324 : decode code 1324 = .ok (.aload_n 2, 1) := by decide +kernel
theorem dL_law_1325 : decode code 1325 = .ok (.aload_n 0, 1) := by decide +kernel
theorem dL_law_1326 : decode code 1326 = .ok (.iload_n 3, 1) := by decide +kernel
theorem dL_law_1327 : decode code 1327 = .ok (.iconst 1, 1) := by decide +kernel
theorem dL_law_1328 : decode code 1328 = .ok (.iadd, 1) := by decide +kernel
theorem dL_law_1329 : decode code 1329 = .ok (.iaload, 1) := by decide +kernel
theorem dL_law_1330 : decode code 1330 = .ok (.invokevirtual 190, 3) := by decide +kernel
theorem dL_law_1333 : decode code 1333 = .ok (.if_icmp .eq 5, 3) := by decide +kernel
