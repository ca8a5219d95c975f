theorem dL_law_1198 : decode code 1198 = .ok (.iadd, 1) := by decide +kernel
theorem dL_law_1199 : decode code 1199 = .ok (.iaload, 1) := by decide +kernel
theorem dL_law_1200 : decode code 1200 = .ok (.i2l, 1) := by decide +kernel
theorem dL_law_1201 : decode code 1201 = .ok (.ldc2_w 75, 3) := by decide +kernel
theorem dL_law_1204 : decode code 1204 = .ok (.land, 1) := by decide +kernel
theorem dL_law_1205 : decode code 1205 = .ok (.lor, 1) := by decide +kernel
theorem dL_law_1206 : decode code 1206 = .ok (.aload_n 0, 1) := by decide +kernel
theorem dL_law_1207 : decode code 1207 = .ok (.iload 4, 2) := by decide +kernel
theorem dL_law_1209 : decode code 1209 = .ok (.iconst 5, 1) := by decide +kernel
theorem dL_law_1210 : decode code 1210 = .ok (.iadd, 1) := by decide +kernel
theorem dL_law_1211 : decode code 1211 = .ok (.iaload, 1) := by decide +kernel
theorem dL_law_1212 : decode code 1212 = .ok (.i2l, 1) := by decide +kernel
theorem dL_law_1213 : decode code 1213 = .ok (.bipush 32, 2) := by decide +kernel
theorem dL_law_1215 : decode code 1215 = .ok (.lshl, 1) := by decide +kernel
theorem dL_law_1216 : decode code 1216 = .ok (.aload_n 0, 1) := by decide +kernel
theorem dL_law_1217 : decode code 1217 = .ok (.iload 4, 2) := by decide +kernel
theorem dL_law_1219 : decode code 1219 = .ok (.bipush 6, 2) := by decide +kernel
theorem dL_law_1221 : decode code 1221 = .ok (.iadd, 1) := by decide +kernel
theorem dL_law_1222 : decode code 1222 = .ok (.iaload, 1) := by decide +kernel
theorem dL_law_1223 : decode code 1223 = .ok (.i2l, 1) := by decide +kernel
theorem dL_law_1224 : decode code 1224 = .ok (.ldc2_w 75, 3) := by decide +kernel
theorem dL_law_1227 : decode code 1227 = .ok (.land, 1) := by decide +kernel
theorem dL_law_1228 : decode code 1228 = .ok (.lor, 1) := by decide +kernel
theorem dL_law_1229 : decode code 1229 = .ok (.aload_n 0, 1) := by decide +kernel
theorem dL_law_1230 : decode code 1230 = .ok (.iload 4, 2) := by decide +kernel
theorem dL_law_1232 : decode code 1232 = .ok (.bipush 7, 2) := by decide +kernel
theorem dL_law_1234 : decode code 1234 = .ok (.iadd, 1) := by decide +kernel
theorem dL_law_1235 : decode code 1235 = .ok (.iaload, 1) := by decide +kernel
theorem dL_law_1236 : decode code 1236 = .ok (.i2l, 1) := by decide +kernel
theorem dL_law_1237 : decode code 1237 = .ok (.bipush 32, 2) := by decide +kernel
theorem dL_law_1239 : decode code 1239 = .ok (.lshl, 1) := by decide +kernel
theorem dL_law_1240 : decode code 1240 = .ok (.aload_n 0, 1) := by decide +kernel
theorem dL_law_1241 : decode code 1241 = .ok (.iload 4, 2) := by decide +kernel
theorem dL_law_1243 : decode code 1243 = .ok (.bipush 8, 2) := by decide +kernel
theorem dL_law_1245 : decode code 1245 = .ok (.iadd, 1) := by decide +kernel
theorem dL_law_1246 : decode code 1246 = .ok (.iaload, 1) := by decide +kernel
theorem dL_law_1247 : decode code 1247 = .ok (.i2l, 1) := by decide +kernel
theorem dL_law_1248 : decode code 1248 = .ok (.ldc2_w 75, 3) := by decide +kernel
theorem dL_law_1251 : decode code 1251 = .ok (.land, 1) := by decide +kernel
theorem dL_law_1252 : decode code 1252 = .ok (.lor, 1) := by decide +kernel
theorem dL_law_1253 : decode code 1253 = .ok (.aload_n 0, 1) := by decide +kernel
theorem dL_law_1254 : decode code 1254 = .ok (.iload 4, 2) := by decide +kernel
theorem dL_law_1256 : decode code 1256 = .ok (.bipush 9, 2) := by decide +kernel
theorem dL_law_1258 : decode code 1258 = .ok (.iadd, 1) := by decide +kernel
theorem dL_law_1259 : decode code 1259 = .ok (.iaload, 1) := by decide +kernel
theorem dL_law_1260 : decode code 1260 = .ok (.i2l, 1) := by decide +kernel
theorem dL_law_1261 : decode code 1261 = .ok (.bipush 32, 2) := by decide +kernel
theorem dL_law_1263 : decode code 1263 = .ok (.lshl, 1) := by decide +kernel
theorem dL_law_1264 : decode code 1264 = .ok (.aload_n 0, 1) := by decide +kernel
theorem dL_law_1265 : decode code 1265 = .ok (.iload 4, 2) := by decide +kernel
theorem dL_law_1267 : decode code 1267 = .ok (.bipush 10, 2) := by decide +kernel
theorem dL_law_1269 : decode code 1269 = .ok (.iadd, 1) := by decide +kernel
theorem dL_law_1270 : decode code 1270 = .ok (.iaload, 1) := by decide +kernel
theorem dL_law_1271 : decode code 1271 = .ok (.i2l, 1) := by decide +kernel
theorem dL_law_1272 : decode code 1272 = .ok (.ldc2_w 75, 3) := by decide +kernel
theorem dL_law_1275 : decode code 1275 = .ok (.land, 1) := by decide +kernel
theorem dL_law_1276 : decode code 1276 = .ok (.lor, 1) := by decide +kernel
theorem dL_law_1277 : decode code 1277 = .ok (.invokevirtual 133, 3) := by decide +kernel
theorem dL_law_1280 : decode code 1280 = .ok (.istore 6, 2) := by decide +kernel
theorem dL_law_1282 : decode code 1282 = .ok (.goto (44), 3) := by decide +kernel
theorem dL_law_1285 : decode code 1285 = .ok (.aload_n 1, 1) := by decide +kernel
theorem dL_law_1286 : decode code 1286 = .ok (.invokevirtual 134, 3) := by decide +kernel
theorem dL_law_1289 : decode code 1289 = .ok (.aload_n 2, 1) := by decide +kernel
theorem dL_law_1290 : decode code 1290 = .ok (.invokevirtual 138, 3) := by decide +kernel
theorem dL_law_1293 : decode code 1293 = .ok (.if_icmp .eq (33), 3) := by decide +kernel
theorem dL_law_1298 : decode code 1298 = .ok (.aload_n 1, 1) := by decide +kernel
theorem dL_law_1299 : decode code 1299 = .ok (.aload_n 0, 1) := by decide +kernel
theorem dL_law_1300 : decode code 1300 = .ok (.iload 4, 2) := by decide +kernel
theorem dL_law_1302 : decode code 1302 = .ok (.iconst 1, 1) := by decide +kernel
theorem dL_law_1303 : decode code 1303 = .ok (.iadd, 1) := by decide +kernel
theorem dL_law_1304 : decode code 1304 = .ok (.iaload, 1) := by decide +kernel
theorem dL_law_1305 : decode code 1305 = .ok (.aload_n 3, 1) := by decide +kernel
theorem dL_law_1306 : decode code 1306 = .ok (.invokestatic 139, 3) := by decide +kernel
theorem dL_law_1309 : decode code 1309 = .ok (.istore 5, 2) := by decide +kernel
theorem dL_law_1311 : decode code 1311 = .ok (.aload_n 2, 1) := by decide +kernel
theorem dL_law_1312 : decode code 1312 = .ok (.aload_n 0, 1) := by decide +kernel
theorem dL_law_1313 : decode code 1313 = .ok (.iload 4, 2) := by decide +kernel
theorem dL_law_1315 : decode code 1315 = .ok (.iconst 1, 1) := by decide +kernel
theorem dL_law_1316 : decode code 1316 = .ok (.iadd, 1) := by decide +kernel
theorem dL_law_1317 : decode code 1317 = .ok (.iaload, 1) := by decide +kernel
theorem dL_law_1318 : decode code 1318 = .ok (.invokevirtual 142, 3) := by decide +kernel
theorem dL_law_1321 : decode code 1321 = .ok (.istore 6, 2) := by decide +kernel
theorem dL_law_1323 : decode code 1323 = .ok (.goto (3), 3) := by decide +kernel
theorem dL_law_1326 : decode code 1326 = .ok (.iinc 4 11, 3) := by decide +kernel
theorem dL_law_1329 : decode code 1329 = .ok (.goto (-1270), 3) := by decide +kernel
theorem dL_law_1332 : decode code 1332 = .ok (.iconst 1, 1) := by decide +kernel
theorem dL_law_1333 : decode code 1333 = .ok (.ireturn, 1) := by decide +kernel
