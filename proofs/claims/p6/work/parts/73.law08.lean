theorem dL_law_1212 : decode code 1212 = .ok (.iaload, 1) := by decide +kernel
theorem dL_law_1213 : decode code 1213 = .ok (.i2l, 1) := by decide +kernel
theorem dL_law_1214 : decode code 1214 = .ok (.ldc2_w 75, 3) := by decide +kernel
theorem dL_law_1217 : decode code 1217 = .ok (.land, 1) := by decide +kernel
theorem dL_law_1218 : decode code 1218 = .ok (.lor, 1) := by decide +kernel
theorem dL_law_1219 : decode code 1219 = .ok (.aload_n 0, 1) := by decide +kernel
theorem dL_law_1220 : decode code 1220 = .ok (.iload 4, 2) := by decide +kernel
theorem dL_law_1222 : decode code 1222 = .ok (.iconst 3, 1) := by decide +kernel
theorem dL_law_1223 : decode code 1223 = .ok (.iadd, 1) := by decide +kernel
theorem dL_law_1224 : decode code 1224 = .ok (.iaload, 1) := by decide +kernel
theorem dL_law_1225 : decode code 1225 = .ok (.i2l, 1) := by decide +kernel
theorem dL_law_1226 : decode code 1226 = .ok (.bipush 32, 2) := by decide +kernel
theorem dL_law_1228 : decode code 1228 = .ok (.lshl, 1) := by decide +kernel
theorem dL_law_1229 : decode code 1229 = .ok (.aload_n 0, 1) := by decide +kernel
theorem dL_law_1230 : decode code 1230 = .ok (.iload 4, 2) := by decide +kernel
theorem dL_law_1232 : decode code 1232 = .ok (.iconst 4, 1) := by decide +kernel
theorem dL_law_1233 : decode code 1233 = .ok (.iadd, 1) := by decide +kernel
theorem dL_law_1234 : decode code 1234 = .ok (.iaload, 1) := by decide +kernel
theorem dL_law_1235 : decode code 1235 = .ok (.i2l, 1) := by decide +kernel
theorem dL_law_1236 : decode code 1236 = .ok (.ldc2_w 75, 3) := by decide +kernel
theorem dL_law_1239 : decode code 1239 = .ok (.land, 1) := by decide +kernel
theorem dL_law_1240 : decode code 1240 = .ok (.lor, 1) := by decide +kernel
theorem dL_law_1241 : decode code 1241 = .ok (.aload_n 0, 1) := by decide +kernel
theorem dL_law_1242 : decode code 1242 = .ok (.iload 4, 2) := by decide +kernel
theorem dL_law_1244 : decode code 1244 = .ok (.iconst 5, 1) := by decide +kernel
theorem dL_law_1245 : decode code 1245 = .ok (.iadd, 1) := by decide +kernel
theorem dL_law_1246 : decode code 1246 = .ok (.iaload, 1) := by decide +kernel
theorem dL_law_1247 : decode code 1247 = .ok (.i2l, 1) := by decide +kernel
theorem dL_law_1248 : decode code 1248 = .ok (.bipush 32, 2) := by decide +kernel
theorem dL_law_1250 : decode code 1250 = .ok (.lshl, 1) := by decide +kernel
theorem dL_law_1251 : decode code 1251 = .ok (.aload_n 0, 1) := by decide +kernel
theorem dL_law_1252 : decode code 1252 = .ok (.iload 4, 2) := by decide +kernel
theorem dL_law_1254 : decode code 1254 = .ok (.bipush 6, 2) := by decide +kernel
theorem dL_law_1256 : decode code 1256 = .ok (.iadd, 1) := by decide +kernel
theorem dL_law_1257 : decode code 1257 = .ok (.iaload, 1) := by decide +kernel
theorem dL_law_1258 : decode code 1258 = .ok (.i2l, 1) := by decide +kernel
theorem dL_law_1259 : decode code 1259 = .ok (.ldc2_w 75, 3) := by decide +kernel
theorem dL_law_1262 : decode code 1262 = .ok (.land, 1) := by decide +kernel
theorem dL_law_1263 : decode code 1263 = .ok (.lor, 1) := by decide +kernel
theorem dL_law_1264 : decode code 1264 = .ok (.aload_n 0, 1) := by decide +kernel
theorem dL_law_1265 : decode code 1265 = .ok (.iload 4, 2) := by decide +kernel
theorem dL_law_1267 : decode code 1267 = .ok (.bipush 7, 2) := by decide +kernel
theorem dL_law_1269 : decode code 1269 = .ok (.iadd, 1) := by decide +kernel
theorem dL_law_1270 : decode code 1270 = .ok (.iaload, 1) := by decide +kernel
theorem dL_law_1271 : decode code 1271 = .ok (.i2l, 1) := by decide +kernel
theorem dL_law_1272 : decode code 1272 = .ok (.bipush 32, 2) := by decide +kernel
theorem dL_law_1274 : decode code 1274 = .ok (.lshl, 1) := by decide +kernel
theorem dL_law_1275 : decode code 1275 = .ok (.aload_n 0, 1) := by decide +kernel
theorem dL_law_1276 : decode code 1276 = .ok (.iload 4, 2) := by decide +kernel
theorem dL_law_1278 : decode code 1278 = .ok (.bipush 8, 2) := by decide +kernel
theorem dL_law_1280 : decode code 1280 = .ok (.iadd, 1) := by decide +kernel
theorem dL_law_1281 : decode code 1281 = .ok (.iaload, 1) := by decide +kernel
theorem dL_law_1282 : decode code 1282 = .ok (.i2l, 1) := by decide +kernel
theorem dL_law_1283 : decode code 1283 = .ok (.ldc2_w 75, 3) := by decide +kernel
theorem dL_law_1286 : decode code 1286 = .ok (.land, 1) := by decide +kernel
theorem dL_law_1287 : decode code 1287 = .ok (.lor, 1) := by decide +kernel
theorem dL_law_1288 : decode code 1288 = .ok (.aload_n 0, 1) := by decide +kernel
theorem dL_law_1289 : decode code 1289 = .ok (.iload 4, 2) := by decide +kernel
theorem dL_law_1291 : decode code 1291 = .ok (.bipush 9, 2) := by decide +kernel
theorem dL_law_1293 : decode code 1293 = .ok (.iadd, 1) := by decide +kernel
theorem dL_law_1294 : decode code 1294 = .ok (.iaload, 1) := by decide +kernel
theorem dL_law_1295 : decode code 1295 = .ok (.i2l, 1) := by decide +kernel
theorem dL_law_1296 : decode code 1296 = .ok (.bipush 32, 2) := by decide +kernel
theorem dL_law_1298 : decode code 1298 = .ok (.lshl, 1) := by decide +kernel
theorem dL_law_1299 : decode code 1299 = .ok (.aload_n 0, 1) := by decide +kernel
theorem dL_law_1300 : decode code 1300 = .ok (.iload 4, 2) := by decide +kernel
theorem dL_law_1302 : decode code 1302 = .ok (.bipush 10, 2) := by decide +kernel
theorem dL_law_1304 : decode code 1304 = .ok (.iadd, 1) := by decide +kernel
theorem dL_law_1305 : decode code 1305 = .ok (.iaload, 1) := by decide +kernel
theorem dL_law_1306 : decode code 1306 = .ok (.i2l, 1) := by decide +kernel
theorem dL_law_1307 : decode code 1307 = .ok (.ldc2_w 75, 3) := by decide +kernel
theorem dL_law_1310 : decode code 1310 = .ok (.land, 1) := by decide +kernel
theorem dL_law_1311 : decode code 1311 = .ok (.lor, 1) := by decide +kernel
theorem dL_law_1312 : decode code 1312 = .ok (.invokevirtual 136, 3) := by decide +kernel
theorem dL_law_1315 : decode code 1315 = .ok (.istore 6, 2) := by decide +kernel
theorem dL_law_1317 : decode code 1317 = .ok (.goto (44), 3) := by decide +kernel
theorem dL_law_1320 : decode code 1320 = .ok (.aload_n 1, 1) := by decide +kernel
theorem dL_law_1321 : decode code 1321 = .ok (.invokevirtual 137, 3) := by decide +kernel
theorem dL_law_1324 : decode code 1324 = .ok (.pop, 1) := by decide +kernel
theorem dL_law_1325 : decode code 1325 = .ok (.aload_n 2, 1) := by decide +kernel
theorem dL_law_1326 : decode code 1326 = .ok (.invokevirtual 141, 3) := by decide +kernel
theorem dL_law_1329 : decode code 1329 = .ok (.pop, 1) := by decide +kernel
theorem dL_law_1330 : decode code 1330 = .ok (.goto (31), 3) := by decide +kernel
theorem dL_law_1333 : decode code 1333 = .ok (.aload_n 1, 1) := by decide +kernel
theorem dL_law_1334 : decode code 1334 = .ok (.aload_n 0, 1) := by decide +kernel
theorem dL_law_1335 : decode code 1335 = .ok (.iload 4, 2) := by decide +kernel
theorem dL_law_1337 : decode code 1337 = .ok (.iconst 1, 1) := by decide +kernel
theorem dL_law_1338 : decode code 1338 = .ok (.iadd, 1) := by decide +kernel
theorem dL_law_1339 : decode code 1339 = .ok (.iaload, 1) := by decide +kernel
theorem dL_law_1340 : decode code 1340 = .ok (.aload_n 3, 1) := by decide +kernel
theorem dL_law_1341 : decode code 1341 = .ok (.invokestatic 142, 3) := by decide +kernel
theorem dL_law_1344 : decode code 1344 = .ok (.istore 5, 2) := by decide +kernel
theorem dL_law_1346 : decode code 1346 = .ok (.aload_n 2, 1) := by decide +kernel
theorem dL_law_1347 : decode code 1347 = .ok (.aload_n 0, 1) := by decide +kernel
theorem dL_law_1348 : decode code 1348 = .ok (.iload 4, 2) := by decide +kernel
theorem dL_law_1350 : decode code 1350 = .ok (.iconst 1, 1) := by decide +kernel
theorem dL_law_1351 : decode code 1351 = .ok (.iadd, 1) := by decide +kernel
theorem dL_law_1352 : decode code 1352 = .ok (.iaload, 1) := by decide +kernel
theorem dL_law_1353 : decode code 1353 = .ok (.invokevirtual 145, 3) := by decide +kernel
theorem dL_law_1356 : decode code 1356 = .ok (.istore 6, 2) := by decide +kernel
