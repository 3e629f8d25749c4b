theorem dL_1222 : decode code 1222 = .ok (.iadd, 1) := by decide +kernel
theorem dL_1223 : decode code 1223 = .ok (.iaload, 1) := by decide +kernel
theorem dL_1224 : decode code 1224 = .ok (.i2l, 1) := by decide +kernel
theorem dL_1225 : decode code 1225 = .ok (.bipush 32, 2) := by decide +kernel
theorem dL_1227 : decode code 1227 = .ok (.lshl, 1) := by decide +kernel
theorem dL_1228 : decode code 1228 = .ok (.aload_n 0, 1) := by decide +kernel
theorem dL_1229 : decode code 1229 = .ok (.iload_n 3, 1) := by decide +kernel
theorem dL_1230 : decode code 1230 = .ok (.iconst 4, 1) := by decide +kernel
theorem dL_1231 : decode code 1231 = .ok (.iadd, 1) := by decide +kernel
theorem dL_1232 : decode code 1232 = .ok (.iaload, 1) := by decide +kernel
theorem dL_1233 : decode code 1233 = .ok (.i2l, 1) := by decide +kernel
theorem dL_1234 : decode code 1234 = .ok (.ldc2_w 13, 3) := by decide +kernel
theorem dL_1237 : decode code 1237 = .ok (.land, 1) := by decide +kernel
theorem dL_1238 : decode code 1238 = .ok (.lor, 1) := by decide +kernel
theorem dL_1239 : decode code 1239 = .ok (.invokevirtual 141, 3) := by decide +kernel
theorem dL_1242 : decode code 1242 = .ok (.aload_n 2, 1) := by decide +kernel
theorem dL_1243 : decode code 1243 = .ok (.aload_n 0, 1) := by decide +kernel
theorem dL_1244 : decode code 1244 = .ok (.iload_n 3, 1) := by decide +kernel
theorem dL_1245 : decode code 1245 = .ok (.iconst 1, 1) := by decide +kernel
theorem dL_1246 : decode code 1246 = .ok (.iadd, 1) := by decide +kernel
theorem dL_1247 : decode code 1247 = .ok (.iaload, 1) := by decide +kernel
theorem dL_1248 : decode code 1248 = .ok (.aload_n 0, 1) := by decide +kernel
theorem dL_1249 : decode code 1249 = .ok (.iload_n 3, 1) := by decide +kernel
theorem dL_1250 : decode code 1250 = .ok (.iconst 2, 1) := by decide +kernel
theorem dL_1251 : decode code 1251 = .ok (.iadd, 1) := by decide +kernel
theorem dL_1252 : decode code 1252 = .ok (.iaload, 1) := by decide +kernel
theorem dL_1253 : decode code 1253 = .ok (.aload_n 0, 1) := by decide +kernel
theorem dL_1254 : decode code 1254 = .ok (.iload_n 3, 1) := by decide +kernel
theorem dL_1255 : decode code 1255 = .ok (.iconst 3, 1) := by decide +kernel
theorem dL_1256 : decode code 1256 = .ok (.iadd, 1) := by decide +kernel
theorem dL_1257 : decode code 1257 = .ok (.iaload, 1) := by decide +kernel
theorem dL_1258 : decode code 1258 = .ok (.i2l, 1) := by decide +kernel
theorem dL_1259 : decode code 1259 = .ok (.bipush 32, 2) := by decide +kernel
theorem dL_1261 : decode code 1261 = .ok (.lshl, 1) := by decide +kernel
theorem dL_1262 : decode code 1262 = .ok (.aload_n 0, 1) := by decide +kernel
theorem dL_1263 : decode code 1263 = .ok (.iload_n 3, 1) := by decide +kernel
theorem dL_1264 : decode code 1264 = .ok (.iconst 4, 1) := by decide +kernel
theorem dL_1265 : decode code 1265 = .ok (.iadd, 1) := by decide +kernel
theorem dL_1266 : decode code 1266 = .ok (.iaload, 1) := by decide +kernel
theorem dL_1267 : decode code 1267 = .ok (.i2l, 1) := by decide +kernel
theorem dL_1268 : decode code 1268 = .ok (.ldc2_w 13, 3) := by decide +kernel
theorem dL_1271 : decode code 1271 = .ok (.land, 1) := by decide +kernel
theorem dL_1272 : decode code 1272 = .ok (.lor, 1) := by decide +kernel
theorem dL_1273 : decode code 1273 = .ok (.invokevirtual 144, 3) := by decide +kernel
theorem dL_1276 : decode code 1276 = .ok (.if_icmp .eq 234, 3) := by decide +kernel
theorem dL_1281 : decode code 1281 = .ok (.aload_n 1, 1) := by decide +kernel
theorem dL_1282 : decode code 1282 = .ok (.aload_n 0, 1) := by decide +kernel
theorem dL_1283 : decode code 1283 = .ok (.iload_n 3, 1) := by decide +kernel
theorem dL_1284 : decode code 1284 = .ok (.iconst 1, 1) := by decide +kernel
theorem dL_1285 : decode code 1285 = .ok (.iadd, 1) := by decide +kernel
theorem dL_1286 : decode code 1286 = .ok (.iaload, 1) := by decide +kernel
theorem dL_1287 : decode code 1287 = .ok (.aload_n 0, 1) := by decide +kernel
theorem dL_1288 : decode code 1288 = .ok (.iload_n 3, 1) := by decide +kernel
theorem dL_1289 : decode code 1289 = .ok (.iconst 2, 1) := by decide +kernel
theorem dL_1290 : decode code 1290 = .ok (.iadd, 1) := by decide +kernel
theorem dL_1291 : decode code 1291 = .ok (.iaload, 1) := by decide +kernel
theorem dL_1292 : decode code 1292 = .ok (.invokevirtual 145, 3) := by decide +kernel
theorem dL_1295 : decode code 1295 = .ok (.aload_n 2, 1) := by decide +kernel
theorem dL_1296 : decode code 1296 = .ok (.aload_n 0, 1) := by decide +kernel
theorem dL_1297 : decode code 1297 = .ok (.iload_n 3, 1) := by decide +kernel
theorem dL_1298 : decode code 1298 = .ok (.iconst 1, 1) := by decide +kernel
theorem dL_1299 : decode code 1299 = .ok (.iadd, 1) := by decide +kernel
theorem dL_1300 : decode code 1300 = .ok (.iaload, 1) := by decide +kernel
theorem dL_1301 : decode code 1301 = .ok (.aload_n 0, 1) := by decide +kernel
theorem dL_1302 : decode code 1302 = .ok (.iload_n 3, 1) := by decide +kernel
theorem dL_1303 : decode code 1303 = .ok (.iconst 2, 1) := by decide +kernel
theorem dL_1304 : decode code 1304 = .ok (.iadd, 1) := by decide +kernel
theorem dL_1305 : decode code 1305 = .ok (.iaload, 1) := by decide +kernel
theorem dL_1306 : decode code 1306 = .ok (.invokevirtual 148, 3) := by decide +kernel
theorem dL_1309 : decode code 1309 = .ok (.lcmp, 1) := by decide +kernel
theorem dL_1310 : decode code 1310 = .ok (.ifCond .eq 200, 3) := by decide +kernel
theorem dL_1315 : decode code 1315 = .ok (.aload_n 1, 1) := by decide +kernel
theorem dL_1316 : decode code 1316 = .ok (.aload_n 0, 1) := by decide +kernel
theorem dL_1317 : decode code 1317 = .ok (.iload_n 3, 1) := by decide +kernel
theorem dL_1318 : decode code 1318 = .ok (.iconst 1, 1) := by decide +kernel
theorem dL_1319 : decode code 1319 = .ok (.iadd, 1) := by decide +kernel
theorem dL_1320 : decode code 1320 = .ok (.iaload, 1) := by decide +kernel
theorem dL_1321 : decode code 1321 = .ok (.aload_n 0, 1) := by decide +kernel
theorem dL_1322 : decode code 1322 = .ok (.iload_n 3, 1) := by decide +kernel
theorem dL_1323 : decode code 1323 = .ok (.iconst 2, 1) := by decide +kernel
theorem dL_1324 : decode code 1324 = .ok (.iadd, 1) := by decide +kernel
theorem dL_1325 : decode code 1325 = .ok (.iaload, 1) := by decide +kernel
theorem dL_1326 : decode code 1326 = .ok (.aload_n 0, 1) := by decide +kernel
theorem dL_1327 : decode code 1327 = .ok (.iload_n 3, 1) := by decide +kernel
theorem dL_1328 : decode code 1328 = .ok (.iconst 3, 1) := by decide +kernel
theorem dL_1329 : decode code 1329 = .ok (.iadd, 1) := by decide +kernel
theorem dL_1330 : decode code 1330 = .ok (.iaload, 1) := by decide +kernel
theorem dL_1331 : decode code 1331 = .ok (.aload_n 0, 1) := by decide +kernel
theorem dL_1332 : decode code 1332 = .ok (.iload_n 3, 1) := by decide +kernel
theorem dL_1333 : decode code 1333 = .ok (.iconst 4, 1) := by decide +kernel
theorem dL_1334 : decode code 1334 = .ok (.iadd, 1) := by decide +kernel
theorem dL_1335 : decode code 1335 = .ok (.iaload, 1) := by decide +kernel
theorem dL_1336 : decode code 1336 = .ok (.aload_n 0, 1) := by decide +kernel
theorem dL_1337 : decode code 1337 = .ok (.iload_n 3, 1) := by decide +kernel
theorem dL_1338 : decode code 1338 = .ok (.iconst 5, 1) := by decide +kernel
theorem dL_1339 : decode code 1339 = .ok (.iadd, 1) := by decide +kernel
theorem dL_1340 : decode code 1340 = .ok (.iaload, 1) := by decide +kernel
theorem dL_1341 : decode code 1341 = .ok (.invokevirtual 149, 3) := by decide +kernel
theorem dL_1344 : decode code 1344 = .ok (.aload_n 2, 1) := by decide +kernel
theorem dL_1345 : decode code 1345 = .ok (.aload_n 0, 1) := by decide +kernel
theorem dL_1346 : decode code 1346 = .ok (.iload_n 3, 1) := by decide +kernel
theorem dL_1347 : decode code 1347 = .ok (.iconst 1, 1) := by decide +kernel
theorem dL_1348 : decode code 1348 = .ok (.iadd, 1) := by decide +kernel
theorem dL_1349 : decode code 1349 = .ok (.iaload, 1) := by decide +kernel
theorem dL_1350 : decode code 1350 = .ok (.aload_n 0, 1) := by decide +kernel
theorem dL_1351 : decode code 1351 = .ok (.iload_n 3, 1) := by decide +kernel
theorem dL_1352 : decode code 1352 = .ok (.iconst 2, 1) := by decide +kernel
theorem dL_1353 : decode code 1353 = .ok (.iadd, 1) := by decide +kernel
theorem dL_1354 : decode code 1354 = .ok (.iaload, 1) := by decide +kernel
theorem dL_1355 : decode code 1355 = .ok (.aload_n 0, 1) := by decide +kernel
theorem dL_1356 : decode code 1356 = .ok (.iload_n 3, 1) := by decide +kernel
theorem dL_1357 : decode code 1357 = .ok (.iconst 3, 1) := by decide +kernel
theorem dL_1358 : decode code 1358 = .ok (.iadd, 1) := by decide +kernel
theorem dL_1359 : decode code 1359 = .ok (.iaload, 1) := by decide +kernel
theorem dL_1360 : decode code 1360 = .ok (.aload_n 0, 1) := by decide +kernel
theorem dL_1361 : decode code 1361 = .ok (.iload_n 3, 1) := by decide +kernel
theorem dL_1362 : decode code 1362 = .ok (.iconst 4, 1) := by decide +kernel
theorem dL_1363 : decode code 1363 = .ok (.iadd, 1) := by decide +kernel
theorem dL_1364 : decode code 1364 = .ok (.iaload, 1) := by decide +kernel
theorem dL_1365 : decode code 1365 = .ok (.aload_n 0, 1) := by decide +kernel
theorem dL_1366 : decode code 1366 = .ok (.iload_n 3, 1) := by decide +kernel
theorem dL_1367 : decode code 1367 = .ok (.iconst 5, 1) := by decide +kernel
theorem dL_1368 : decode code 1368 = .ok (.iadd, 1) := by decide +kernel
theorem dL_1369 : decode code 1369 = .ok (.iaload, 1) := by decide +kernel
theorem dL_1370 : decode code 1370 = .ok (.invokevirtual 153, 3) := by decide +kernel
theorem dL_1373 : decode code 1373 = .ok (.if_icmp .eq 137, 3) := by decide +kernel
theorem dL_1378 : decode code 1378 = .ok (.aload_n 1, 1) := by decide +kernel
theorem dL_1379 : decode code 1379 = .ok (.aload_n 0, 1) := by decide +kernel
theorem dL_1380 : decode code 1380 = .ok (.iload_n 3, 1) := by decide +kernel
theorem dL_1381 : decode code 1381 = .ok (.iconst 1, 1) := by decide +kernel
