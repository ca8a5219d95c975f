theorem dL_law_1255 : decode code 1255 = .ok (.aload_n 0, 1) := by decide +kernel
theorem dL_law_1256 : decode code 1256 = .ok (.iload 4, 2) := by decide +kernel
theorem dL_law_1258 : decode code 1258 = .ok (.iconst 2, 1) := by decide +kernel
theorem dL_law_1259 : decode code 1259 = .ok (.iadd, 1) := by decide +kernel
theorem dL_law_1260 : decode code 1260 = .ok (.iaload, 1) := by decide +kernel
theorem dL_law_1261 : decode code 1261 = .ok (.i2l, 1) := by decide +kernel
theorem dL_law_1262 : decode code 1262 = .ok (.bipush 32, 2) := by decide +kernel
theorem dL_law_1264 : decode code 1264 = .ok (.lshl, 1) := by decide +kernel
theorem dL_law_1265 : decode code 1265 = .ok (.aload_n 0, 1) := by decide +kernel
theorem dL_law_1266 : decode code 1266 = .ok (.iload 4, 2) := by decide +kernel
theorem dL_law_1268 : decode code 1268 = .ok (.iconst 3, 1) := by decide +kernel
theorem dL_law_1269 : decode code 1269 = .ok (.iadd, 1) := by decide +kernel
theorem dL_law_1270 : decode code 1270 = .ok (.iaload, 1) := by decide +kernel
theorem dL_law_1271 : decode code 1271 = .ok (.i2l, 1) := by decide +kernel
theorem dL_law_1272 : decode code 1272 = .ok (.ldc2_w 75, 3) := by decide +kernel
theorem dL_law_1275 : decode code 1275 = .ok (.land, 1) := by decide +kernel
theorem dL_law_1276 : decode code 1276 = .ok (.lor, 1) := by decide +kernel
theorem dL_law_1277 : decode code 1277 = .ok (.aload_n 3, 1) := by decide +kernel
theorem dL_law_1278 : decode code 1278 = .ok (.invokestatic 129, 3) := by decide +kernel
theorem dL_law_1281 : decode code 1281 = .ok (.istore 5, 2) := by decide +kernel
theorem dL_law_1283 : decode code 1283 = .ok (.aload_n 2, 1) := by decide +kernel
theorem dL_law_1284 : decode code 1284 = .ok (.aload_n 0, 1) := by decide +kernel
theorem dL_law_1285 : decode code 1285 = .ok (.iload 4, 2) := by decide +kernel
theorem dL_law_1287 : decode code 1287 = .ok (.iconst 1, 1) := by decide +kernel
theorem dL_law_1288 : decode code 1288 = .ok (.iadd, 1) := by decide +kernel
theorem dL_law_1289 : decode code 1289 = .ok (.iaload, 1) := by decide +kernel
theorem dL_law_1290 : decode code 1290 = .ok (.aload_n 0, 1) := by decide +kernel
theorem dL_law_1291 : decode code 1291 = .ok (.iload 4, 2) := by decide +kernel
theorem dL_law_1293 : decode code 1293 = .ok (.iconst 2, 1) := by decide +kernel
theorem dL_law_1294 : decode code 1294 = .ok (.iadd, 1) := by decide +kernel
theorem dL_law_1295 : decode code 1295 = .ok (.iaload, 1) := by decide +kernel
theorem dL_law_1296 : decode code 1296 = .ok (.i2l, 1) := by decide +kernel
theorem dL_law_1297 : decode code 1297 = .ok (.bipush 32, 2) := by decide +kernel
theorem dL_law_1299 : decode code 1299 = .ok (.lshl, 1) := by decide +kernel
theorem dL_law_1300 : decode code 1300 = .ok (.aload_n 0, 1) := by decide +kernel
theorem dL_law_1301 : decode code 1301 = .ok (.iload 4, 2) := by decide +kernel
theorem dL_law_1303 : decode code 1303 = .ok (.iconst 3, 1) := by decide +kernel
theorem dL_law_1304 : decode code 1304 = .ok (.iadd, 1) := by decide +kernel
theorem dL_law_1305 : decode code 1305 = .ok (.iaload, 1) := by decide +kernel
theorem dL_law_1306 : decode code 1306 = .ok (.i2l, 1) := by decide +kernel
theorem dL_law_1307 : decode code 1307 = .ok (.ldc2_w 75, 3) := by decide +kernel
theorem dL_law_1310 : decode code 1310 = .ok (.land, 1) := by decide +kernel
theorem dL_law_1311 : decode code 1311 = .ok (.lor, 1) := by decide +kernel
theorem dL_law_1312 : decode code 1312 = .ok (.invokevirtual 132, 3) := by decide +kernel
theorem dL_law_1315 : decode code 1315 = .ok (.istore 6, 2) := by decide +kernel
theorem dL_law_1317 : decode code 1317 = .ok (.aload_n 2, 1) := by decide +kernel
theorem dL_law_1318 : decode code 1318 = .ok (.invokevirtual 81, 3) := by decide +kernel
theorem dL_law_1321 : decode code 1321 = .ok (.iload 5, 2) := by decide +kernel
theorem dL_law_1323 : decode code 1323 = .ok (.if_icmp .eq (5), 3) := by decide +kernel
theorem dL_law_1328 : decode code 1328 = .ok (.iload 5, 2) := by decide +kernel
theorem dL_law_1330 : decode code 1330 = .ok (.ifCond .ne (22), 3) := by decide +kernel
theorem dL_law_1352 : decode code 1352 = .ok (.goto (353), 3) := by decide +kernel
theorem dL_law_1355 : decode code 1355 = .ok (.aload_n 1, 1) := by decide +kernel
theorem dL_law_1356 : decode code 1356 = .ok (.aload_n 0, 1) := by decide +kernel
theorem dL_law_1357 : decode code 1357 = .ok (.iload 4, 2) := by decide +kernel
theorem dL_law_1359 : decode code 1359 = .ok (.iconst 1, 1) := by decide +kernel
theorem dL_law_1360 : decode code 1360 = .ok (.iadd, 1) := by decide +kernel
theorem dL_law_1361 : decode code 1361 = .ok (.iaload, 1) := by decide +kernel
theorem dL_law_1362 : decode code 1362 = .ok (.i2l, 1) := by decide +kernel
theorem dL_law_1363 : decode code 1363 = .ok (.bipush 32, 2) := by decide +kernel
theorem dL_law_1365 : decode code 1365 = .ok (.lshl, 1) := by decide +kernel
theorem dL_law_1366 : decode code 1366 = .ok (.aload_n 0, 1) := by decide +kernel
theorem dL_law_1367 : decode code 1367 = .ok (.iload 4, 2) := by decide +kernel
theorem dL_law_1369 : decode code 1369 = .ok (.iconst 2, 1) := by decide +kernel
theorem dL_law_1370 : decode code 1370 = .ok (.iadd, 1) := by decide +kernel
theorem dL_law_1371 : decode code 1371 = .ok (.iaload, 1) := by decide +kernel
theorem dL_law_1372 : decode code 1372 = .ok (.i2l, 1) := by decide +kernel
theorem dL_law_1373 : decode code 1373 = .ok (.ldc2_w 75, 3) := by decide +kernel
theorem dL_law_1376 : decode code 1376 = .ok (.land, 1) := by decide +kernel
theorem dL_law_1377 : decode code 1377 = .ok (.lor, 1) := by decide +kernel
theorem dL_law_1378 : decode code 1378 = .ok (.aload_n 0, 1) := by decide +kernel
theorem dL_law_1379 : decode code 1379 = .ok (.iload 4, 2) := by decide +kernel
theorem dL_law_1381 : decode code 1381 = .ok (.iconst 3, 1) := by decide +kernel
theorem dL_law_1382 : decode code 1382 = .ok (.iadd, 1) := by decide +kernel
theorem dL_law_1383 : decode code 1383 = .ok (.iaload, 1) := by decide +kernel
theorem dL_law_1384 : decode code 1384 = .ok (.i2l, 1) := by decide +kernel
theorem dL_law_1385 : decode code 1385 = .ok (.bipush 32, 2) := by decide +kernel
theorem dL_law_1387 : decode code 1387 = .ok (.lshl, 1) := by decide +kernel
theorem dL_law_1388 : decode code 1388 = .ok (.aload_n 0, 1) := by decide +kernel
theorem dL_law_1389 : decode code 1389 = .ok (.iload 4, 2) := by decide +kernel
theorem dL_law_1391 : decode code 1391 = .ok (.iconst 4, 1) := by decide +kernel
theorem dL_law_1392 : decode code 1392 = .ok (.iadd, 1) := by decide +kernel
theorem dL_law_1393 : decode code 1393 = .ok (.iaload, 1) := by decide +kernel
theorem dL_law_1394 : decode code 1394 = .ok (.i2l, 1) := by decide +kernel
theorem dL_law_1395 : decode code 1395 = .ok (.ldc2_w 75, 3) := by decide +kernel
theorem dL_law_1398 : decode code 1398 = .ok (.land, 1) := by decide +kernel
theorem dL_law_1399 : decode code 1399 = .ok (.lor, 1) := by decide +kernel
theorem dL_law_1400 : decode code 1400 = .ok (.aload_n 0, 1) := by decide +kernel
theorem dL_law_1401 : decode code 1401 = .ok (.iload 4, 2) := by decide +kernel
theorem dL_law_1403 : decode code 1403 = .ok (.iconst 5, 1) := by decide +kernel
theorem dL_law_1404 : decode code 1404 = .ok (.iadd, 1) := by decide +kernel
theorem dL_law_1405 : decode code 1405 = .ok (.iaload, 1) := by decide +kernel
theorem dL_law_1406 : decode code 1406 = .ok (.i2l, 1) := by decide +kernel
theorem dL_law_1407 : decode code 1407 = .ok (.bipush 32, 2) := by decide +kernel
theorem dL_law_1409 : decode code 1409 = .ok (.lshl, 1) := by decide +kernel
theorem dL_law_1410 : decode code 1410 = .ok (.aload_n 0, 1) := by decide +kernel
theorem dL_law_1411 : decode code 1411 = .ok (.iload 4, 2) := by decide +kernel
theorem dL_law_1413 : decode code 1413 = .ok (.bipush 6, 2) := by decide +kernel
theorem dL_law_1415 : decode code 1415 = .ok (.iadd, 1) := by decide +kernel
theorem dL_law_1416 : decode code 1416 = .ok (.iaload, 1) := by decide +kernel
