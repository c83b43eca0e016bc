theorem dL_law_1228 : decode code 1228 = .ok (.aload_n 2, 1) := by decide +kernel
theorem dL_law_1229 : decode code 1229 = .ok (.aload_n 0, 1) := by decide +kernel
theorem dL_law_1230 : decode code 1230 = .ok (.iload_n 3, 1) := by decide +kernel
theorem dL_law_1231 : decode code 1231 = .ok (.iconst 1, 1) := by decide +kernel
theorem dL_law_1232 : decode code 1232 = .ok (.iadd, 1) := by decide +kernel
theorem dL_law_1233 : decode code 1233 = .ok (.iaload, 1) := by decide +kernel
theorem dL_law_1234 : decode code 1234 = .ok (.aload_n 0, 1) := by decide +kernel
theorem dL_law_1235 : decode code 1235 = .ok (.iload_n 3, 1) := by decide +kernel
theorem dL_law_1236 : decode code 1236 = .ok (.iconst 2, 1) := by decide +kernel
theorem dL_law_1237 : decode code 1237 = .ok (.iadd, 1) := by decide +kernel
theorem dL_law_1238 : decode code 1238 = .ok (.iaload, 1) := by decide +kernel
theorem dL_law_1239 : decode code 1239 = .ok (.invokevirtual 174, 3) := by decide +kernel
theorem dL_law_1242 : decode code 1242 = .ok (.pop, 1) := by decide +kernel
theorem dL_law_1243 : decode code 1243 = .ok (.goto 95, 3) := by decide +kernel
theorem dL_law_1246 : decode code 1246 = .ok (.aload_n 1, 1) := by decide +kernel
theorem dL_law_1247 : decode code 1247 = .ok (.aload_n 0, 1) := by decide +kernel
theorem dL_law_1248 : decode code 1248 = .ok (.iload_n 3, 1) := by decide +kernel
theorem dL_law_1249 : decode code 1249 = .ok (.iconst 1, 1) := by decide +kernel
theorem dL_law_1250 : decode code 1250 = .ok (.iadd, 1) := by decide +kernel
theorem dL_law_1251 : decode code 1251 = .ok (.iaload, 1) := by decide +kernel
theorem dL_law_1252 : decode code 1252 = .ok (.invokevirtual 175, 3) := by decide +kernel
theorem dL_law_1255 : decode code 1255 = .ok (.pop, 1) := by decide +kernel
theorem dL_law_1256 : decode code 1256 = .ok (.aload_n 2, 1) := by decide +kernel
theorem dL_law_1257 : decode code 1257 = .ok (.aload_n 0, 1) := by decide +kernel
theorem dL_law_1258 : decode code 1258 = .ok (.iload_n 3, 1) := by decide +kernel
theorem dL_law_1259 : decode code 1259 = .ok (.iconst 1, 1) := by decide +kernel
theorem dL_law_1260 : decode code 1260 = .ok (.iadd, 1) := by decide +kernel
theorem dL_law_1261 : decode code 1261 = .ok (.iaload, 1) := by decide +kernel
theorem dL_law_1262 : decode code 1262 = .ok (.invokevirtual 178, 3) := by decide +kernel
theorem dL_law_1265 : decode code 1265 = .ok (.pop, 1) := by decide +kernel
theorem dL_law_1266 : decode code 1266 = .ok (.goto 72, 3) := by decide +kernel
theorem dL_law_1269 : decode code 1269 = .ok (.aload_n 1, 1) := by decide +kernel
theorem dL_law_1270 : decode code 1270 = .ok (.aload_n 0, 1) := by decide +kernel
theorem dL_law_1271 : decode code 1271 = .ok (.iload_n 3, 1) := by decide +kernel
theorem dL_law_1272 : decode code 1272 = .ok (.iconst 1, 1) := by decide +kernel
theorem dL_law_1273 : decode code 1273 = .ok (.iadd, 1) := by decide +kernel
theorem dL_law_1274 : decode code 1274 = .ok (.iaload, 1) := by decide +kernel
theorem dL_law_1275 : decode code 1275 = .ok (.invokevirtual 179, 3) := by decide +kernel
theorem dL_law_1278 : decode code 1278 = .ok (.pop, 1) := by decide +kernel
theorem dL_law_1279 : decode code 1279 = .ok (.aload_n 2, 1) := by decide +kernel
theorem dL_law_1280 : decode code 1280 = .ok (.aload_n 0, 1) := by decide +kernel
theorem dL_law_1281 : decode code 1281 = .ok (.iload_n 3, 1) := by decide +kernel
theorem dL_law_1282 : decode code 1282 = .ok (.iconst 1, 1) := by decide +kernel
theorem dL_law_1283 : decode code 1283 = .ok (.iadd, 1) := by decide +kernel
theorem dL_law_1284 : decode code 1284 = .ok (.iaload, 1) := by decide +kernel
theorem dL_law_1285 : decode code 1285 = .ok (.invokevirtual 182, 3) := by decide +kernel
theorem dL_law_1288 : decode code 1288 = .ok (.pop, 1) := by decide +kernel
theorem dL_law_1289 : decode code 1289 = .ok (.goto 49, 3) := by decide +kernel
theorem dL_law_1292 : decode code 1292 = .ok (.aload_n 1, 1) := by decide +kernel
theorem dL_law_1293 : decode code 1293 = .ok (.aload_n 0, 1) := by decide +kernel
theorem dL_law_1294 : decode code 1294 = .ok (.iload_n 3, 1) := by decide +kernel
theorem dL_law_1295 : decode code 1295 = .ok (.iconst 1, 1) := by decide +kernel
theorem dL_law_1296 : decode code 1296 = .ok (.iadd, 1) := by decide +kernel
theorem dL_law_1297 : decode code 1297 = .ok (.iaload, 1) := by decide +kernel
theorem dL_law_1298 : decode code 1298 = .ok (.invokevirtual 183, 3) := by decide +kernel
theorem dL_law_1301 : decode code 1301 = .ok (.pop, 1) := by decide +kernel
theorem dL_law_1302 : decode code 1302 = .ok (.aload_n 2, 1) := by decide +kernel
theorem dL_law_1303 : decode code 1303 = .ok (.aload_n 0, 1) := by decide +kernel
theorem dL_law_1304 : decode code 1304 = .ok (.iload_n 3, 1) := by decide +kernel
theorem dL_law_1305 : decode code 1305 = .ok (.iconst 1, 1) := by decide +kernel
theorem dL_law_1306 : decode code 1306 = .ok (.iadd, 1) := by decide +kernel
theorem dL_law_1307 : decode code 1307 = .ok (.iaload, 1) := by decide +kernel
theorem dL_law_1308 : decode code 1308 = .ok (.invokevirtual 186, 3) := by decide +kernel
theorem dL_law_1311 : decode code 1311 = .ok (.pop, 1) := by decide +kernel
theorem dL_law_1312 : decode code 1312 = .ok (.goto 26, 3) := by decide +kernel
theorem dL_law_1315 : decode code 1315 = .ok (.aload_n 1, 1) := by decide +kernel
theorem dL_law_1316 : decode code 1316 = .ok (.aload_n 0, 1) := by decide +kernel
theorem dL_law_1317 : decode code 1317 = .ok (.iload_n 3, 1) := by decide +kernel
theorem dL_law_1318 : decode code 1318 = .ok (.iconst 1, 1) := by decide +kernel
theorem dL_law_1319 : decode code 1319 = .ok (.iadd, 1) := by decide +kernel
theorem dL_law_1320 : decode code 1320 = .ok (.iaload, 1) := by decide +kernel
theorem dL_law_1321 : decode code 1321 = .ok (.invokevirtual 187, 3) := by decide +kernel
theorem dL_law_1324 : decode code 1324 = .ok (.pop, 1) := by decide +kernel
theorem dL_law_1325 : decode code 1325 = .ok (.aload_n 2, 1) := by decide +kernel
theorem dL_law_1326 : decode code 1326 = .ok (.aload_n 0, 1) := by decide +kernel
theorem dL_law_1327 : decode code 1327 = .ok (.iload_n 3, 1) := by decide +kernel
theorem dL_law_1328 : decode code 1328 = .ok (.iconst 1, 1) := by decide +kernel
theorem dL_law_1329 : decode code 1329 = .ok (.iadd, 1) := by decide +kernel
theorem dL_law_1330 : decode code 1330 = .ok (.iaload, 1) := by decide +kernel
theorem dL_law_1331 : decode code 1331 = .ok (.invokevirtual 190, 3) := by decide +kernel
theorem dL_law_1334 : decode code 1334 = .ok (.pop, 1) := by decide +kernel
theorem dL_law_1335 : decode code 1335 = .ok (.goto 3, 3) := by decide +kernel
theorem dL_law_1338 : decode code 1338 = .ok (.iinc 3 6, 3) := by decide +kernel
theorem dL_law_1341 : decode code 1341 = .ok (.goto (-1323), 3) := by decide +kernel
theorem dL_law_1344 : decode code 1344 = .ok (.iconst 1, 1) := by decide +kernel
theorem dL_law_1345 : decode code 1345 = .ok (.ireturn, 1) := by decide +kernel
