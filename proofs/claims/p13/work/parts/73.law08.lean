theorem dL_law_1210 : decode code 1210 = .ok (.land, 1) := by decide +kernel
theorem dL_law_1211 : decode code 1211 = .ok (.lor, 1) := by decide +kernel
theorem dL_law_1212 : decode code 1212 = .ok (.aload_n 0, 1) := by decide +kernel
theorem dL_law_1213 : decode code 1213 = .ok (.iload 4, 2) := by decide +kernel
theorem dL_law_1215 : decode code 1215 = .ok (.iconst 3, 1) := by decide +kernel
theorem dL_law_1216 : decode code 1216 = .ok (.iadd, 1) := by decide +kernel
theorem dL_law_1217 : decode code 1217 = .ok (.iaload, 1) := by decide +kernel
theorem dL_law_1218 : decode code 1218 = .ok (.i2l, 1) := by decide +kernel
theorem dL_law_1219 : decode code 1219 = .ok (.bipush 32, 2) := by decide +kernel
theorem dL_law_1221 : decode code 1221 = .ok (.lshl, 1) := by decide +kernel
theorem dL_law_1222 : decode code 1222 = .ok (.aload_n 0, 1) := by decide +kernel
theorem dL_law_1223 : decode code 1223 = .ok (.iload 4, 2) := by decide +kernel
theorem dL_law_1225 : decode code 1225 = .ok (.iconst 4, 1) := by decide +kernel
theorem dL_law_1226 : decode code 1226 = .ok (.iadd, 1) := by decide +kernel
theorem dL_law_1227 : decode code 1227 = .ok (.iaload, 1) := by decide +kernel
theorem dL_law_1228 : decode code 1228 = .ok (.i2l, 1) := by decide +kernel
theorem dL_law_1229 : decode code 1229 = .ok (.ldc2_w 75, 3) := by decide +kernel
theorem dL_law_1232 : decode code 1232 = .ok (.land, 1) := by decide +kernel
theorem dL_law_1233 : decode code 1233 = .ok (.lor, 1) := by decide +kernel
theorem dL_law_1234 : decode code 1234 = .ok (.aload_n 0, 1) := by decide +kernel
theorem dL_law_1235 : decode code 1235 = .ok (.iload 4, 2) := by decide +kernel
theorem dL_law_1237 : decode code 1237 = .ok (.iconst 5, 1) := by decide +kernel
theorem dL_law_1238 : decode code 1238 = .ok (.iadd, 1) := by decide +kernel
theorem dL_law_1239 : decode code 1239 = .ok (.iaload, 1) := by decide +kernel
theorem dL_law_1240 : decode code 1240 = .ok (.i2l, 1) := by decide +kernel
theorem dL_law_1241 : decode code 1241 = .ok (.bipush 32, 2) := by decide +kernel
theorem dL_law_1243 : decode code 1243 = .ok (.lshl, 1) := by decide +kernel
theorem dL_law_1244 : decode code 1244 = .ok (.aload_n 0, 1) := by decide +kernel
theorem dL_law_1245 : decode code 1245 = .ok (.iload 4, 2) := by decide +kernel
theorem dL_law_1247 : decode code 1247 = .ok (.bipush 6, 2) := by decide +kernel
theorem dL_law_1249 : decode code 1249 = .ok (.iadd, 1) := by decide +kernel
theorem dL_law_1250 : decode code 1250 = .ok (.iaload, 1) := by decide +kernel
theorem dL_law_1251 : decode code 1251 = .ok (.i2l, 1) := by decide +kernel
theorem dL_law_1252 : decode code 1252 = .ok (.ldc2_w 75, 3) := by decide +kernel
theorem dL_law_1255 : decode code 1255 = .ok (.land, 1) := by decide +kernel
theorem dL_law_1256 : decode code 1256 = .ok (.lor, 1) := by decide +kernel
theorem dL_law_1257 : decode code 1257 = .ok (.aload_n 0, 1) := by decide +kernel
theorem dL_law_1258 : decode code 1258 = .ok (.iload 4, 2) := by decide +kernel
theorem dL_law_1260 : decode code 1260 = .ok (.bipush 7, 2) := by decide +kernel
theorem dL_law_1262 : decode code 1262 = .ok (.iadd, 1) := by decide +kernel
theorem dL_law_1263 : decode code 1263 = .ok (.iaload, 1) := by decide +kernel
theorem dL_law_1264 : decode code 1264 = .ok (.i2l, 1) := by decide +kernel
theorem dL_law_1265 : decode code 1265 = .ok (.bipush 32, 2) := by decide +kernel
theorem dL_law_1267 : decode code 1267 = .ok (.lshl, 1) := by decide +kernel
theorem dL_law_1268 : decode code 1268 = .ok (.aload_n 0, 1) := by decide +kernel
theorem dL_law_1269 : decode code 1269 = .ok (.iload 4, 2) := by decide +kernel
theorem dL_law_1271 : decode code 1271 = .ok (.bipush 8, 2) := by decide +kernel
theorem dL_law_1273 : decode code 1273 = .ok (.iadd, 1) := by decide +kernel
theorem dL_law_1274 : decode code 1274 = .ok (.iaload, 1) := by decide +kernel
theorem dL_law_1275 : decode code 1275 = .ok (.i2l, 1) := by decide +kernel
theorem dL_law_1276 : decode code 1276 = .ok (.ldc2_w 75, 3) := by decide +kernel
theorem dL_law_1279 : decode code 1279 = .ok (.land, 1) := by decide +kernel
theorem dL_law_1280 : decode code 1280 = .ok (.lor, 1) := by decide +kernel
theorem dL_law_1281 : decode code 1281 = .ok (.aload_n 0, 1) := by decide +kernel
theorem dL_law_1282 : decode code 1282 = .ok (.iload 4, 2) := by decide +kernel
theorem dL_law_1284 : decode code 1284 = .ok (.bipush 9, 2) := by decide +kernel
theorem dL_law_1286 : decode code 1286 = .ok (.iadd, 1) := by decide +kernel
theorem dL_law_1287 : decode code 1287 = .ok (.iaload, 1) := by decide +kernel
theorem dL_law_1288 : decode code 1288 = .ok (.i2l, 1) := by decide +kernel
theorem dL_law_1289 : decode code 1289 = .ok (.bipush 32, 2) := by decide +kernel
theorem dL_law_1291 : decode code 1291 = .ok (.lshl, 1) := by decide +kernel
theorem dL_law_1292 : decode code 1292 = .ok (.aload_n 0, 1) := by decide +kernel
theorem dL_law_1293 : decode code 1293 = .ok (.iload 4, 2) := by decide +kernel
theorem dL_law_1295 : decode code 1295 = .ok (.bipush 10, 2) := by decide +kernel
theorem dL_law_1297 : decode code 1297 = .ok (.iadd, 1) := by decide +kernel
theorem dL_law_1298 : decode code 1298 = .ok (.iaload, 1) := by decide +kernel
theorem dL_law_1299 : decode code 1299 = .ok (.i2l, 1) := by decide +kernel
theorem dL_law_1300 : decode code 1300 = .ok (.ldc2_w 75, 3) := by decide +kernel
theorem dL_law_1303 : decode code 1303 = .ok (.land, 1) := by decide +kernel
theorem dL_law_1304 : decode code 1304 = .ok (.lor, 1) := by decide +kernel
theorem dL_law_1305 : decode code 1305 = .ok (.invokevirtual 136, 3) := by decide +kernel
theorem dL_law_1308 : decode code 1308 = .ok (.istore 6, 2) := by decide +kernel
theorem dL_law_1310 : decode code 1310 = .ok (.goto (44), 3) := by decide +kernel
theorem dL_law_1313 : decode code 1313 = .ok (.aload_n 1, 1) := by decide +kernel
theorem dL_law_1314 : decode code 1314 = .ok (.invokevirtual 137, 3) := by decide +kernel
theorem dL_law_1317 : decode code 1317 = .ok (.pop, 1) := by decide +kernel
theorem dL_law_1318 : decode code 1318 = .ok (.aload_n 2, 1) := by decide +kernel
theorem dL_law_1319 : decode code 1319 = .ok (.invokevirtual 141, 3) := by decide +kernel
theorem dL_law_1322 : decode code 1322 = .ok (.pop, 1) := by decide +kernel
theorem dL_law_1323 : decode code 1323 = .ok (.goto (31), 3) := by decide +kernel
theorem dL_law_1326 : decode code 1326 = .ok (.aload_n 1, 1) := by decide +kernel
theorem dL_law_1327 : decode code 1327 = .ok (.aload_n 0, 1) := by decide +kernel
theorem dL_law_1328 : decode code 1328 = .ok (.iload 4, 2) := by decide +kernel
theorem dL_law_1330 : decode code 1330 = .ok (.iconst 1, 1) := by decide +kernel
theorem dL_law_1331 : decode code 1331 = .ok (.iadd, 1) := by decide +kernel
theorem dL_law_1332 : decode code 1332 = .ok (.iaload, 1) := by decide +kernel
theorem dL_law_1333 : decode code 1333 = .ok (.aload_n 3, 1) := by decide +kernel
theorem dL_law_1334 : decode code 1334 = .ok (.invokestatic 142, 3) := by decide +kernel
theorem dL_law_1337 : decode code 1337 = .ok (.istore 5, 2) := by decide +kernel
theorem dL_law_1339 : decode code 1339 = .ok (.aload_n 2, 1) := by decide +kernel
theorem dL_law_1340 : decode code 1340 = .ok (.aload_n 0, 1) := by decide +kernel
theorem dL_law_1341 : decode code 1341 = .ok (.iload 4, 2) := by decide +kernel
theorem dL_law_1343 : decode code 1343 = .ok (.iconst 1, 1) := by decide +kernel
theorem dL_law_1344 : decode code 1344 = .ok (.iadd, 1) := by decide +kernel
theorem dL_law_1345 : decode code 1345 = .ok (.iaload, 1) := by decide +kernel
theorem dL_law_1346 : decode code 1346 = .ok (.invokevirtual 145, 3) := by decide +kernel
theorem dL_law_1349 : decode code 1349 = .ok (.istore 6, 2) := by decide +kernel
theorem dL_law_1351 : decode code 1351 = .ok (.goto (3), 3) := by decide +kernel
theorem dL_law_1354 : decode code 1354 = .ok (.iinc 4 11, 3) := by decide +kernel
theorem dL_law_1357 : decode code 1357 = .ok (.goto (-1298), 3) := by decide +kernel
