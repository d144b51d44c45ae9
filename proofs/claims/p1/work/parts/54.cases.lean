theorem dL_law_1204 : decode cL_law 1204 = .ok (.aload_n 1, 1) := by decide +kernel
theorem dL_law_1205 : decode cL_law 1205 = .ok (.aload_n 0, 1) := by decide +kernel
theorem dL_law_1206 : decode cL_law 1206 = .ok (.iload_n 3, 1) := by decide +kernel
theorem dL_law_1207 : decode cL_law 1207 = .ok (.iconst 1, 1) := by decide +kernel
theorem dL_law_1208 : decode cL_law 1208 = .ok (.iadd, 1) := by decide +kernel
theorem dL_law_1209 : decode cL_law 1209 = .ok (.iaload, 1) := by decide +kernel
theorem dL_law_1210 : decode cL_law 1210 = .ok (.aload_n 0, 1) := by decide +kernel
theorem dL_law_1211 : decode cL_law 1211 = .ok (.iload_n 3, 1) := by decide +kernel
theorem dL_law_1212 : decode cL_law 1212 = .ok (.iconst 2, 1) := by decide +kernel
theorem dL_law_1213 : decode cL_law 1213 = .ok (.iadd, 1) := by decide +kernel
theorem dL_law_1214 : decode cL_law 1214 = .ok (.iaload, 1) := by decide +kernel
theorem dL_law_1215 : decode cL_law 1215 = .ok (.invokevirtual 163, 3) := by decide +kernel
theorem dL_law_1218 : decode cL_law 1218 = .ok (.aload_n 2, 1) := by decide +kernel
theorem dL_law_1219 : decode cL_law 1219 = .ok (.aload_n 0, 1) := by decide +kernel
theorem dL_law_1220 : decode cL_law 1220 = .ok (.iload_n 3, 1) := by decide +kernel
theorem dL_law_1221 : decode cL_law 1221 = .ok (.iconst 1, 1) := by decide +kernel
theorem dL_law_1222 : decode cL_law 1222 = .ok (.iadd, 1) := by decide +kernel
theorem dL_law_1223 : decode cL_law 1223 = .ok (.iaload, 1) := by decide +kernel
theorem dL_law_1224 : decode cL_law 1224 = .ok (.aload_n 0, 1) := by decide +kernel
theorem dL_law_1225 : decode cL_law 1225 = .ok (.iload_n 3, 1) := by decide +kernel
theorem dL_law_1226 : decode cL_law 1226 = .ok (.iconst 2, 1) := by decide +kernel
theorem dL_law_1227 : decode cL_law 1227 = .ok (.iadd, 1) := by decide +kernel
theorem dL_law_1228 : decode cL_law 1228 = .ok (.iaload, 1) := by decide +kernel
theorem dL_law_1229 : decode cL_law 1229 = .ok (.invokevirtual 167, 3) := by decide +kernel
theorem dL_law_1232 : decode cL_law 1232 = .ok (.lcmp, 1) := by decide +kernel
theorem dL_law_1233 : decode cL_law 1233 = .ok (.ifCond .eq 498, 3) := by decide +kernel
theorem dL_law_1238 : decode cL_law 1238 = .ok (.aload_n 1, 1) := by decide +kernel
theorem dL_law_1239 : decode cL_law 1239 = .ok (.aload_n 0, 1) := by decide +kernel
theorem dL_law_1240 : decode cL_law 1240 = .ok (.iload_n 3, 1) := by decide +kernel
theorem dL_law_1241 : decode cL_law 1241 = .ok (.iconst 1, 1) := by decide +kernel
theorem dL_law_1242 : decode cL_law 1242 = .ok (.iadd, 1) := by decide +kernel
theorem dL_law_1243 : decode cL_law 1243 = .ok (.iaload, 1) := by decide +kernel
theorem dL_law_1244 : decode cL_law 1244 = .ok (.aload_n 0, 1) := by decide +kernel
theorem dL_law_1245 : decode cL_law 1245 = .ok (.iload_n 3, 1) := by decide +kernel
theorem dL_law_1246 : decode cL_law 1246 = .ok (.iconst 2, 1) := by decide +kernel
theorem dL_law_1247 : decode cL_law 1247 = .ok (.iadd, 1) := by decide +kernel
theorem dL_law_1248 : decode cL_law 1248 = .ok (.iaload, 1) := by decide +kernel
theorem dL_law_1249 : decode cL_law 1249 = .ok (.aload_n 0, 1) := by decide +kernel
theorem dL_law_1250 : decode cL_law 1250 = .ok (.iload_n 3, 1) := by decide +kernel
theorem dL_law_1251 : decode cL_law 1251 = .ok (.iconst 3, 1) := by decide +kernel
theorem dL_law_1252 : decode cL_law 1252 = .ok (.iadd, 1) := by decide +kernel
theorem dL_law_1253 : decode cL_law 1253 = .ok (.iaload, 1) := by decide +kernel
theorem dL_law_1254 : decode cL_law 1254 = .ok (.invokevirtual 168, 3) := by decide +kernel
theorem dL_law_1257 : decode cL_law 1257 = .ok (.aload_n 2, 1) := by decide +kernel
theorem dL_law_1258 : decode cL_law 1258 = .ok (.aload_n 0, 1) := by decide +kernel
theorem dL_law_1259 : decode cL_law 1259 = .ok (.iload_n 3, 1) := by decide +kernel
theorem dL_law_1260 : decode cL_law 1260 = .ok (.iconst 1, 1) := by decide +kernel
theorem dL_law_1261 : decode cL_law 1261 = .ok (.iadd, 1) := by decide +kernel
theorem dL_law_1262 : decode cL_law 1262 = .ok (.iaload, 1) := by decide +kernel
theorem dL_law_1263 : decode cL_law 1263 = .ok (.aload_n 0, 1) := by decide +kernel
theorem dL_law_1264 : decode cL_law 1264 = .ok (.iload_n 3, 1) := by decide +kernel
theorem dL_law_1265 : decode cL_law 1265 = .ok (.iconst 2, 1) := by decide +kernel
theorem dL_law_1266 : decode cL_law 1266 = .ok (.iadd, 1) := by decide +kernel
theorem dL_law_1267 : decode cL_law 1267 = .ok (.iaload, 1) := by decide +kernel
theorem dL_law_1268 : decode cL_law 1268 = .ok (.aload_n 0, 1) := by decide +kernel
theorem dL_law_1269 : decode cL_law 1269 = .ok (.iload_n 3, 1) := by decide +kernel
theorem dL_law_1270 : decode cL_law 1270 = .ok (.iconst 3, 1) := by decide +kernel
theorem dL_law_1271 : decode cL_law 1271 = .ok (.iadd, 1) := by decide +kernel
theorem dL_law_1272 : decode cL_law 1272 = .ok (.iaload, 1) := by decide +kernel
theorem dL_law_1273 : decode cL_law 1273 = .ok (.invokevirtual 171, 3) := by decide +kernel
theorem dL_law_1276 : decode cL_law 1276 = .ok (.if_icmp .eq 455, 3) := by decide +kernel
theorem dL_law_1281 : decode cL_law 1281 = .ok (.aload_n 1, 1) := by decide +kernel
theorem dL_law_1282 : decode cL_law 1282 = .ok (.aload_n 0, 1) := by decide +kernel
theorem dL_law_1283 : decode cL_law 1283 = .ok (.iload_n 3, 1) := by decide +kernel
theorem dL_law_1284 : decode cL_law 1284 = .ok (.iconst 1, 1) := by decide +kernel
theorem dL_law_1285 : decode cL_law 1285 = .ok (.iadd, 1) := by decide +kernel
theorem dL_law_1286 : decode cL_law 1286 = .ok (.iaload, 1) := by decide +kernel
theorem dL_law_1287 : decode cL_law 1287 = .ok (.aload_n 0, 1) := by decide +kernel
theorem dL_law_1288 : decode cL_law 1288 = .ok (.iload_n 3, 1) := by decide +kernel
theorem dL_law_1289 : decode cL_law 1289 = .ok (.iconst 2, 1) := by decide +kernel
theorem dL_law_1290 : decode cL_law 1290 = .ok (.iadd, 1) := by decide +kernel
theorem dL_law_1291 : decode cL_law 1291 = .ok (.iaload, 1) := by decide +kernel
theorem dL_law_1292 : decode cL_law 1292 = .ok (.aload_n 0, 1) := by decide +kernel
theorem dL_law_1293 : decode cL_law 1293 = .ok (.iload_n 3, 1) := by decide +kernel
theorem dL_law_1294 : decode cL_law 1294 = .ok (.iconst 3, 1) := by decide +kernel
theorem dL_law_1295 : decode cL_law 1295 = .ok (.iadd, 1) := by decide +kernel
theorem dL_law_1296 : decode cL_law 1296 = .ok (.iaload, 1) := by decide +kernel
theorem dL_law_1297 : decode cL_law 1297 = .ok (.aload_n 0, 1) := by decide +kernel
theorem dL_law_1298 : decode cL_law 1298 = .ok (.iload_n 3, 1) := by decide +kernel
theorem dL_law_1299 : decode cL_law 1299 = .ok (.iconst 4, 1) := by decide +kernel
theorem dL_law_1300 : decode cL_law 1300 = .ok (.iadd, 1) := by decide +kernel
theorem dL_law_1301 : decode cL_law 1301 = .ok (.iaload, 1) := by decide +kernel
theorem dL_law_1302 : decode cL_law 1302 = .ok (.invokevirtual 172, 3) := by decide +kernel
theorem dL_law_1305 : decode cL_law 1305 = .ok (.aload_n 2, 1) := by decide +kernel
theorem dL_law_1306 : decode cL_law 1306 = .ok (.aload_n 0, 1) := by decide +kernel
theorem dL_law_1307 : decode cL_law 1307 = .ok (.iload_n 3, 1) := by decide +kernel
theorem dL_law_1308 : decode cL_law 1308 = .ok (.iconst 1, 1) := by decide +kernel
theorem dL_law_1309 : decode cL_law 1309 = .ok (.iadd, 1) := by decide +kernel
theorem dL_law_1310 : decode cL_law 1310 = .ok (.iaload, 1) := by decide +kernel
theorem dL_law_1311 : decode cL_law 1311 = .ok (.aload_n 0, 1) := by decide +kernel
theorem dL_law_1312 : decode cL_law 1312 = .ok (.iload_n 3, 1) := by decide +kernel
theorem dL_law_1313 : decode cL_law 1313 = .ok (.iconst 2, 1) := by decide +kernel
theorem dL_law_1314 : decode cL_law 1314 = .ok (.iadd, 1) := by decide +kernel
theorem dL_law_1315 : decode cL_law 1315 = .ok (.iaload, 1) := by decide +kernel
theorem dL_law_1316 : decode cL_law 1316 = .ok (.aload_n 0, 1) := by decide +kernel
theorem dL_law_1317 : decode cL_law 1317 = .ok (.iload_n 3, 1) := by decide +kernel
theorem dL_law_1318 : decode cL_law 1318 = .ok (.iconst 3, 1) := by decide +kernel
theorem dL_law_1319 : decode cL_law 1319 = .ok (.iadd, 1) := by decide +kernel
theorem dL_law_1320 : decode cL_law 1320 = .ok (.iaload, 1) := by decide +kernel
theorem dL_law_1321 : decode cL_law 1321 = .ok (.aload_n 0, 1) := by decide +kernel
theorem dL_law_1322 : decode cL_law 1322 = .ok (.iload_n 3, 1) := by decide +kernel
theorem dL_law_1323 : decode cL_law 1323 = .ok (.iconst 4, 1) := by decide +kernel
theorem dL_law_1324 : decode cL_law 1324 = .ok (.iadd, 1) := by decide +kernel
theorem dL_law_1325 : decode cL_law 1325 = .ok (.iaload, 1) := by decide +kernel
theorem dL_law_1326 : decode cL_law 1326 = .ok (.invokevirtual 176, 3) := by decide +kernel
theorem dL_law_1329 : decode cL_law 1329 = .ok (.if_icmp .eq 402, 3) := by decide +kernel
theorem dL_law_1334 : decode cL_law 1334 = .ok (.aload_n 1, 1) := by decide +kernel
theorem dL_law_1335 : decode cL_law 1335 = .ok (.aload_n 0, 1) := by decide +kernel
theorem dL_law_1336 : decode cL_law 1336 = .ok (.iload_n 3, 1) := by decide +kernel
theorem dL_law_1337 : decode cL_law 1337 = .ok (.iconst 1, 1) := by decide +kernel
theorem dL_law_1338 : decode cL_law 1338 = .ok (.iadd, 1) := by decide +kernel
theorem dL_law_1339 : decode cL_law 1339 = .ok (.iaload, 1) := by decide +kernel
theorem dL_law_1340 : decode cL_law 1340 = .ok (.aload_n 0, 1) := by decide +kernel
theorem dL_law_1341 : decode cL_law 1341 = .ok (.iload_n 3, 1) := by decide +kernel
theorem dL_law_1342 : decode cL_law 1342 = .ok (.iconst 2, 1) := by decide +kernel
theorem dL_law_1343 : decode cL_law 1343 = .ok (.iadd, 1) := by decide +kernel
theorem dL_law_1344 : decode cL_law 1344 = .ok (.iaload, 1) := by decide +kernel
theorem dL_law_1345 : decode cL_law 1345 = .ok (.aload_n 0, 1) := by decide +kernel
theorem dL_law_1346 : decode cL_law 1346 = .ok (.iload_n 3, 1) := by decide +kernel
theorem dL_law_1347 : decode cL_law 1347 = .ok (.iconst 3, 1) := by decide +kernel
theorem dL_law_1348 : decode cL_law 1348 = .ok (.iadd, 1) := by decide +kernel
theorem dL_law_1349 : decode cL_law 1349 = .ok (.iaload, 1) := by decide +kernel
theorem dL_law_1350 : decode cL_law 1350 = .ok (.invokevirtual 177, 3) := by decide +kernel
theorem dL_law_1353 : decode cL_law 1353 = .ok (.aload_n 2, 1) := by decide +kernel
theorem dL_law_1354 : decode cL_law 1354 = .ok (.aload_n 0, 1) := by decide +kernel
theorem dL_law_1355 : decode cL_law 1355 = .ok (.iload_n 3, 1) := by decide +kernel
theorem dL_law_1356 : decode cL_law 1356 = .ok (.iconst 1, 1) := by decide +kernel
theorem dL_law_1357 : decode cL_law 1357 = .ok (.iadd, 1) := by decide +kernel
theorem dL_law_1358 : decode cL_law 1358 = .ok (.iaload, 1) := by decide +kernel
theorem dL_law_1359 : decode cL_law 1359 = .ok (.aload_n 0, 1) := by decide +kernel
theorem dL_law_1360 : decode cL_law 1360 = .ok (.iload_n 3, 1) := by decide +kernel
theorem dL_law_1361 : decode cL_law 1361 = .ok (.iconst 2, 1) := by decide +kernel
theorem dL_law_1362 : decode cL_law 1362 = .ok (.iadd, 1) := by decide +kernel
theorem dL_law_1363 : decode cL_law 1363 = .ok (.iaload, 1) := by decide +kernel
theorem dL_law_1364 : decode cL_law 1364 = .ok (.aload_n 0, 1) := by decide +kernel
theorem dL_law_1365 : decode cL_law 1365 = .ok (.iload_n 3, 1) := by decide +kernel
theorem dL_law_1366 : decode cL_law 1366 = .ok (.iconst 3, 1) := by decide +kernel
theorem dL_law_1367 : decode cL_law 1367 = .ok (.iadd, 1) := by decide +kernel
theorem dL_law_1368 : decode cL_law 1368 = .ok (.iaload, 1) := by decide +kernel
theorem dL_law_1369 : decode cL_law 1369 = .ok (.invokevirtual 180, 3) := by decide +kernel
theorem dL_law_1372 : decode cL_law 1372 = .ok (.if_icmp .eq 359, 3) := by decide +kernel
theorem dL_law_1377 : decode cL_law 1377 = .ok (.aload_n 1, 1) := by decide +kernel
theorem dL_law_1378 : decode cL_law 1378 = .ok (.aload_n 0, 1) := by decide +kernel
theorem dL_law_1379 : decode cL_law 1379 = .ok (.iload_n 3, 1) := by decide +kernel
theorem dL_law_1380 : decode cL_law 1380 = .ok (.iconst 1, 1) := by decide +kernel
theorem dL_law_1381 : decode cL_law 1381 = .ok (.iadd, 1) := by decide +kernel
theorem dL_law_1382 : decode cL_law 1382 = .ok (.iaload, 1) := by decide +kernel
theorem dL_law_1383 : decode cL_law 1383 = .ok (.aload_n 0, 1) := by decide +kernel
theorem dL_law_1384 : decode cL_law 1384 = .ok (.iload_n 3, 1) := by decide +kernel
theorem dL_law_1385 : decode cL_law 1385 = .ok (.iconst 2, 1) := by decide +kernel
theorem dL_law_1386 : decode cL_law 1386 = .ok (.iadd, 1) := by decide +kernel
theorem dL_law_1387 : decode cL_law 1387 = .ok (.iaload, 1) := by decide +kernel
theorem dL_law_1388 : decode cL_law 1388 = .ok (.aload_n 0, 1) := by decide +kernel
theorem dL_law_1389 : decode cL_law 1389 = .ok (.iload_n 3, 1) := by decide +kernel
theorem dL_law_1390 : decode cL_law 1390 = .ok (.iconst 3, 1) := by decide +kernel
theorem dL_law_1391 : decode cL_law 1391 = .ok (.iadd, 1) := by decide +kernel
theorem dL_law_1392 : decode cL_law 1392 = .ok (.iaload, 1) := by decide +kernel
theorem dL_law_1393 : decode cL_law 1393 = .ok (.invokevirtual 181, 3) := by decide +kernel
theorem dL_law_1396 : decode cL_law 1396 = .ok (.aload_n 2, 1) := by decide +kernel
theorem dL_law_1397 : decode cL_law 1397 = .ok (.aload_n 0, 1) := by decide +kernel
theorem dL_law_1398 : decode cL_law 1398 = .ok (.iload_n 3, 1) := by decide +kernel
theorem dL_law_1399 : decode cL_law 1399 = .ok (.iconst 1, 1) := by decide +kernel
theorem dL_law_1400 : decode cL_law 1400 = .ok (.iadd, 1) := by decide +kernel
theorem dL_law_1401 : decode cL_law 1401 = .ok (.iaload, 1) := by decide +kernel
theorem dL_law_1402 : decode cL_law 1402 = .ok (.aload_n 0, 1) := by decide +kernel
theorem dL_law_1403 : decode cL_law 1403 = .ok (.iload_n 3, 1) := by decide +kernel
theorem dL_law_1404 : decode cL_law 1404 = .ok (.iconst 2, 1) := by decide +kernel
theorem dL_law_1405 : decode cL_law 1405 = .ok (.iadd, 1) := by decide +kernel
theorem dL_law_1406 : decode cL_law 1406 = .ok (.iaload, 1) := by decide +kernel
theorem dL_law_1407 : decode cL_law 1407 = .ok (.aload_n 0, 1) := by decide +kernel
theorem dL_law_1408 : decode cL_law 1408 = .ok (.iload_n 3, 1) := by decide +kernel
theorem dL_law_1409 : decode cL_law 1409 = .ok (.iconst 3, 1) := by decide +kernel
theorem dL_law_1410 : decode cL_law 1410 = .ok (.iadd, 1) := by decide +kernel
theorem dL_law_1411 : decode cL_law 1411 = .ok (.iaload, 1) := by decide +kernel
theorem dL_law_1412 : decode cL_law 1412 = .ok (.invokevirtual 184, 3) := by decide +kernel
theorem dL_law_1415 : decode cL_law 1415 = .ok (.if_icmp .eq 316, 3) := by decide +kernel
theorem dL_law_1420 : decode cL_law 1420 = .ok (.aload_n 1, 1) := by decide +kernel
theorem dL_law_1421 : decode cL_law 1421 = .ok (.aload_n 0, 1) := by decide +kernel
theorem dL_law_1422 : decode cL_law 1422 = .ok (.iload_n 3, 1) := by decide +kernel
theorem dL_law_1423 : decode cL_law 1423 = .ok (.iconst 1, 1) := by decide +kernel
theorem dL_law_1424 : decode cL_law 1424 = .ok (.iadd, 1) := by decide +kernel
theorem dL_law_1425 : decode cL_law 1425 = .ok (.iaload, 1) := by decide +kernel
theorem dL_law_1426 : decode cL_law 1426 = .ok (.aload_n 0, 1) := by decide +kernel
theorem dL_law_1427 : decode cL_law 1427 = .ok (.iload_n 3, 1) := by decide +kernel
theorem dL_law_1428 : decode cL_law 1428 = .ok (.iconst 2, 1) := by decide +kernel
theorem dL_law_1429 : decode cL_law 1429 = .ok (.iadd, 1) := by decide +kernel
theorem dL_law_1430 : decode cL_law 1430 = .ok (.iaload, 1) := by decide +kernel
theorem dL_law_1431 : decode cL_law 1431 = .ok (.aload_n 0, 1) := by decide +kernel
theorem dL_law_1432 : decode cL_law 1432 = .ok (.iload_n 3, 1) := by decide +kernel
theorem dL_law_1433 : decode cL_law 1433 = .ok (.iconst 3, 1) := by decide +kernel
theorem dL_law_1434 : decode cL_law 1434 = .ok (.iadd, 1) := by decide +kernel
theorem dL_law_1435 : decode cL_law 1435 = .ok (.iaload, 1) := by decide +kernel
theorem dL_law_1436 : decode cL_law 1436 = .ok (.aload_n 0, 1) := by decide +kernel
theorem dL_law_1437 : decode cL_law 1437 = .ok (.iload_n 3, 1) := by decide +kernel
theorem dL_law_1438 : decode cL_law 1438 = .ok (.iconst 4, 1) := by decide +kernel
theorem dL_law_1439 : decode cL_law 1439 = .ok (.iadd, 1) := by decide +kernel
theorem dL_law_1440 : decode cL_law 1440 = .ok (.iaload, 1) := by decide +kernel
theorem dL_law_1441 : decode cL_law 1441 = .ok (.aload_n 0, 1) := by decide +kernel
theorem dL_law_1442 : decode cL_law 1442 = .ok (.iload_n 3, 1) := by decide +kernel
theorem dL_law_1443 : decode cL_law 1443 = .ok (.iconst 5, 1) := by decide +kernel
theorem dL_law_1444 : decode cL_law 1444 = .ok (.iadd, 1) := by decide +kernel
theorem dL_law_1445 : decode cL_law 1445 = .ok (.iaload, 1) := by decide +kernel
theorem dL_law_1446 : decode cL_law 1446 = .ok (.invokevirtual 185, 3) := by decide +kernel
theorem dL_law_1449 : decode cL_law 1449 = .ok (.aload_n 2, 1) := by decide +kernel
theorem dL_law_1450 : decode cL_law 1450 = .ok (.aload_n 0, 1) := by decide +kernel
theorem dL_law_1451 : decode cL_law 1451 = .ok (.iload_n 3, 1) := by decide +kernel
theorem dL_law_1452 : decode cL_law 1452 = .ok (.iconst 1, 1) := by decide +kernel
theorem dL_law_1453 : decode cL_law 1453 = .ok (.iadd, 1) := by decide +kernel
theorem dL_law_1454 : decode cL_law 1454 = .ok (.iaload, 1) := by decide +kernel
theorem dL_law_1455 : decode cL_law 1455 = .ok (.aload_n 0, 1) := by decide +kernel
theorem dL_law_1456 : decode cL_law 1456 = .ok (.iload_n 3, 1) := by decide +kernel
theorem dL_law_1457 : decode cL_law 1457 = .ok (.iconst 2, 1) := by decide +kernel
theorem dL_law_1458 : decode cL_law 1458 = .ok (.iadd, 1) := by decide +kernel
theorem dL_law_1459 : decode cL_law 1459 = .ok (.iaload, 1) := by decide +kernel
theorem dL_law_1460 : decode cL_law 1460 = .ok (.aload_n 0, 1) := by decide +kernel
theorem dL_law_1461 : decode cL_law 1461 = .ok (.iload_n 3, 1) := by decide +kernel
theorem dL_law_1462 : decode cL_law 1462 = .ok (.iconst 3, 1) := by decide +kernel
theorem dL_law_1463 : decode cL_law 1463 = .ok (.iadd, 1) := by decide +kernel
theorem dL_law_1464 : decode cL_law 1464 = .ok (.iaload, 1) := by decide +kernel
theorem dL_law_1465 : decode cL_law 1465 = .ok (.aload_n 0, 1) := by decide +kernel
theorem dL_law_1466 : decode cL_law 1466 = .ok (.iload_n 3, 1) := by decide +kernel
theorem dL_law_1467 : decode cL_law 1467 = .ok (.iconst 4, 1) := by decide +kernel
theorem dL_law_1468 : decode cL_law 1468 = .ok (.iadd, 1) := by decide +kernel
theorem dL_law_1469 : decode cL_law 1469 = .ok (.iaload, 1) := by decide +kernel
theorem dL_law_1470 : decode cL_law 1470 = .ok (.aload_n 0, 1) := by decide +kernel
theorem dL_law_1471 : decode cL_law 1471 = .ok (.iload_n 3, 1) := by decide +kernel
theorem dL_law_1472 : decode cL_law 1472 = .ok (.iconst 5, 1) := by decide +kernel
theorem dL_law_1473 : decode cL_law 1473 = .ok (.iadd, 1) := by decide +kernel
theorem dL_law_1474 : decode cL_law 1474 = .ok (.iaload, 1) := by decide +kernel
theorem dL_law_1475 : decode cL_law 1475 = .ok (.invokevirtual 188, 3) := by decide +kernel
theorem dL_law_1478 : decode cL_law 1478 = .ok (.if_icmp .eq 253, 3) := by decide +kernel
theorem dL_law_1483 : decode cL_law 1483 = .ok (.aload_n 1, 1) := by decide +kernel
theorem dL_law_1484 : decode cL_law 1484 = .ok (.aload_n 0, 1) := by decide +kernel
theorem dL_law_1485 : decode cL_law 1485 = .ok (.iload_n 3, 1) := by decide +kernel
theorem dL_law_1486 : decode cL_law 1486 = .ok (.iconst 1, 1) := by decide +kernel
theorem dL_law_1487 : decode cL_law 1487 = .ok (.iadd, 1) := by decide +kernel
theorem dL_law_1488 : decode cL_law 1488 = .ok (.iaload, 1) := by decide +kernel
theorem dL_law_1489 : decode cL_law 1489 = .ok (.invokevirtual 189, 3) := by decide +kernel
theorem dL_law_1492 : decode cL_law 1492 = .ok (.aload_n 2, 1) := by decide +kernel
theorem dL_law_1493 : decode cL_law 1493 = .ok (.aload_n 0, 1) := by decide +kernel
theorem dL_law_1494 : decode cL_law 1494 = .ok (.iload_n 3, 1) := by decide +kernel
theorem dL_law_1495 : decode cL_law 1495 = .ok (.iconst 1, 1) := by decide +kernel
theorem dL_law_1496 : decode cL_law 1496 = .ok (.iadd, 1) := by decide +kernel
theorem dL_law_1497 : decode cL_law 1497 = .ok (.iaload, 1) := by decide +kernel
theorem dL_law_1498 : decode cL_law 1498 = .ok (.invokevirtual 192, 3) := by decide +kernel
theorem dL_law_1501 : decode cL_law 1501 = .ok (.if_icmp .eq 230, 3) := by decide +kernel
theorem dL_law_1506 : decode cL_law 1506 = .ok (.aload_n 1, 1) := by decide +kernel
theorem dL_law_1507 : decode cL_law 1507 = .ok (.aload_n 0, 1) := by decide +kernel
theorem dL_law_1508 : decode cL_law 1508 = .ok (.iload_n 3, 1) := by decide +kernel
theorem dL_law_1509 : decode cL_law 1509 = .ok (.iconst 1, 1) := by decide +kernel
theorem dL_law_1510 : decode cL_law 1510 = .ok (.iadd, 1) := by decide +kernel
theorem dL_law_1511 : decode cL_law 1511 = .ok (.iaload, 1) := by decide +kernel
theorem dL_law_1512 : decode cL_law 1512 = .ok (.invokevirtual 193, 3) := by decide +kernel
theorem dL_law_1515 : decode cL_law 1515 = .ok (.aload_n 2, 1) := by decide +kernel
theorem dL_law_1516 : decode cL_law 1516 = .ok (.aload_n 0, 1) := by decide +kernel
theorem dL_law_1517 : decode cL_law 1517 = .ok (.iload_n 3, 1) := by decide +kernel
theorem dL_law_1518 : decode cL_law 1518 = .ok (.iconst 1, 1) := by decide +kernel
theorem dL_law_1519 : decode cL_law 1519 = .ok (.iadd, 1) := by decide +kernel
theorem dL_law_1520 : decode cL_law 1520 = .ok (.iaload, 1) := by decide +kernel
theorem dL_law_1521 : decode cL_law 1521 = .ok (.invokevirtual 196, 3) := by decide +kernel
theorem dL_law_1524 : decode cL_law 1524 = .ok (.if_icmp .eq 207, 3) := by decide +kernel
theorem dL_law_1529 : decode cL_law 1529 = .ok (.aload_n 1, 1) := by decide +kernel
theorem dL_law_1530 : decode cL_law 1530 = .ok (.aload_n 0, 1) := by decide +kernel
theorem dL_law_1531 : decode cL_law 1531 = .ok (.iload_n 3, 1) := by decide +kernel
theorem dL_law_1532 : decode cL_law 1532 = .ok (.iconst 1, 1) := by decide +kernel
theorem dL_law_1533 : decode cL_law 1533 = .ok (.iadd, 1) := by decide +kernel
theorem dL_law_1534 : decode cL_law 1534 = .ok (.iaload, 1) := by decide +kernel
theorem dL_law_1535 : decode cL_law 1535 = .ok (.invokevirtual 197, 3) := by decide +kernel
theorem dL_law_1538 : decode cL_law 1538 = .ok (.aload_n 2, 1) := by decide +kernel
theorem dL_law_1539 : decode cL_law 1539 = .ok (.aload_n 0, 1) := by decide +kernel
theorem dL_law_1540 : decode cL_law 1540 = .ok (.iload_n 3, 1) := by decide +kernel
theorem dL_law_1541 : decode cL_law 1541 = .ok (.iconst 1, 1) := by decide +kernel
theorem dL_law_1542 : decode cL_law 1542 = .ok (.iadd, 1) := by decide +kernel
theorem dL_law_1543 : decode cL_law 1543 = .ok (.iaload, 1) := by decide +kernel
theorem dL_law_1544 : decode cL_law 1544 = .ok (.invokevirtual 200, 3) := by decide +kernel
theorem dL_law_1547 : decode cL_law 1547 = .ok (.if_icmp .eq 184, 3) := by decide +kernel
theorem dL_law_1552 : decode cL_law 1552 = .ok (.aload_n 1, 1) := by decide +kernel
theorem dL_law_1553 : decode cL_law 1553 = .ok (.aload_n 0, 1) := by decide +kernel
theorem dL_law_1554 : decode cL_law 1554 = .ok (.iload_n 3, 1) := by decide +kernel
theorem dL_law_1555 : decode cL_law 1555 = .ok (.iconst 1, 1) := by decide +kernel
theorem dL_law_1556 : decode cL_law 1556 = .ok (.iadd, 1) := by decide +kernel
theorem dL_law_1557 : decode cL_law 1557 = .ok (.iaload, 1) := by decide +kernel
theorem dL_law_1558 : decode cL_law 1558 = .ok (.aload_n 0, 1) := by decide +kernel
theorem dL_law_1559 : decode cL_law 1559 = .ok (.iload_n 3, 1) := by decide +kernel
theorem dL_law_1560 : decode cL_law 1560 = .ok (.iconst 2, 1) := by decide +kernel
theorem dL_law_1561 : decode cL_law 1561 = .ok (.iadd, 1) := by decide +kernel
theorem dL_law_1562 : decode cL_law 1562 = .ok (.iaload, 1) := by decide +kernel
theorem dL_law_1563 : decode cL_law 1563 = .ok (.aload_n 0, 1) := by decide +kernel
theorem dL_law_1564 : decode cL_law 1564 = .ok (.iload_n 3, 1) := by decide +kernel
theorem dL_law_1565 : decode cL_law 1565 = .ok (.iconst 3, 1) := by decide +kernel
theorem dL_law_1566 : decode cL_law 1566 = .ok (.iadd, 1) := by decide +kernel
theorem dL_law_1567 : decode cL_law 1567 = .ok (.iaload, 1) := by decide +kernel
theorem dL_law_1568 : decode cL_law 1568 = .ok (.invokevirtual 201, 3) := by decide +kernel
theorem dL_law_1571 : decode cL_law 1571 = .ok (.aload_n 2, 1) := by decide +kernel
theorem dL_law_1572 : decode cL_law 1572 = .ok (.aload_n 0, 1) := by decide +kernel
theorem dL_law_1573 : decode cL_law 1573 = .ok (.iload_n 3, 1) := by decide +kernel
theorem dL_law_1574 : decode cL_law 1574 = .ok (.iconst 1, 1) := by decide +kernel
theorem dL_law_1575 : decode cL_law 1575 = .ok (.iadd, 1) := by decide +kernel
theorem dL_law_1576 : decode cL_law 1576 = .ok (.iaload, 1) := by decide +kernel
theorem dL_law_1577 : decode cL_law 1577 = .ok (.aload_n 0, 1) := by decide +kernel
theorem dL_law_1578 : decode cL_law 1578 = .ok (.iload_n 3, 1) := by decide +kernel
theorem dL_law_1579 : decode cL_law 1579 = .ok (.iconst 2, 1) := by decide +kernel
theorem dL_law_1580 : decode cL_law 1580 = .ok (.iadd, 1) := by decide +kernel
theorem dL_law_1581 : decode cL_law 1581 = .ok (.iaload, 1) := by decide +kernel
theorem dL_law_1582 : decode cL_law 1582 = .ok (.aload_n 0, 1) := by decide +kernel
theorem dL_law_1583 : decode cL_law 1583 = .ok (.iload_n 3, 1) := by decide +kernel
theorem dL_law_1584 : decode cL_law 1584 = .ok (.iconst 3, 1) := by decide +kernel
theorem dL_law_1585 : decode cL_law 1585 = .ok (.iadd, 1) := by decide +kernel
theorem dL_law_1586 : decode cL_law 1586 = .ok (.iaload, 1) := by decide +kernel
theorem dL_law_1587 : decode cL_law 1587 = .ok (.invokevirtual 204, 3) := by decide +kernel
theorem dL_law_1590 : decode cL_law 1590 = .ok (.if_icmp .eq 141, 3) := by decide +kernel
theorem dL_law_1595 : decode cL_law 1595 = .ok (.aload_n 1, 1) := by decide +kernel
theorem dL_law_1596 : decode cL_law 1596 = .ok (.aload_n 0, 1) := by decide +kernel
theorem dL_law_1597 : decode cL_law 1597 = .ok (.iload_n 3, 1) := by decide +kernel
theorem dL_law_1598 : decode cL_law 1598 = .ok (.iconst 1, 1) := by decide +kernel
theorem dL_law_1599 : decode cL_law 1599 = .ok (.iadd, 1) := by decide +kernel
theorem dL_law_1600 : decode cL_law 1600 = .ok (.iaload, 1) := by decide +kernel
theorem dL_law_1601 : decode cL_law 1601 = .ok (.aload_n 0, 1) := by decide +kernel
theorem dL_law_1602 : decode cL_law 1602 = .ok (.iload_n 3, 1) := by decide +kernel
theorem dL_law_1603 : decode cL_law 1603 = .ok (.iconst 2, 1) := by decide +kernel
theorem dL_law_1604 : decode cL_law 1604 = .ok (.iadd, 1) := by decide +kernel
theorem dL_law_1605 : decode cL_law 1605 = .ok (.iaload, 1) := by decide +kernel
theorem dL_law_1606 : decode cL_law 1606 = .ok (.aload_n 0, 1) := by decide +kernel
theorem dL_law_1607 : decode cL_law 1607 = .ok (.iload_n 3, 1) := by decide +kernel
theorem dL_law_1608 : decode cL_law 1608 = .ok (.iconst 3, 1) := by decide +kernel
theorem dL_law_1609 : decode cL_law 1609 = .ok (.iadd, 1) := by decide +kernel
theorem dL_law_1610 : decode cL_law 1610 = .ok (.iaload, 1) := by decide +kernel
theorem dL_law_1611 : decode cL_law 1611 = .ok (.i2l, 1) := by decide +kernel
theorem dL_law_1612 : decode cL_law 1612 = .ok (.bipush 32, 2) := by decide +kernel
theorem dL_law_1614 : decode cL_law 1614 = .ok (.lshl, 1) := by decide +kernel
theorem dL_law_1615 : decode cL_law 1615 = .ok (.aload_n 0, 1) := by decide +kernel
theorem dL_law_1616 : decode cL_law 1616 = .ok (.iload_n 3, 1) := by decide +kernel
theorem dL_law_1617 : decode cL_law 1617 = .ok (.iconst 4, 1) := by decide +kernel
theorem dL_law_1618 : decode cL_law 1618 = .ok (.iadd, 1) := by decide +kernel
theorem dL_law_1619 : decode cL_law 1619 = .ok (.iaload, 1) := by decide +kernel
theorem dL_law_1620 : decode cL_law 1620 = .ok (.i2l, 1) := by decide +kernel
theorem dL_law_1621 : decode cL_law 1621 = .ok (.ldc2_w 205, 3) := by decide +kernel
theorem dL_law_1624 : decode cL_law 1624 = .ok (.land, 1) := by decide +kernel
theorem dL_law_1625 : decode cL_law 1625 = .ok (.lor, 1) := by decide +kernel
theorem dL_law_1626 : decode cL_law 1626 = .ok (.invokevirtual 207, 3) := by decide +kernel
theorem dL_law_1629 : decode cL_law 1629 = .ok (.aload_n 2, 1) := by decide +kernel
theorem dL_law_1630 : decode cL_law 1630 = .ok (.aload_n 0, 1) := by decide +kernel
theorem dL_law_1631 : decode cL_law 1631 = .ok (.iload_n 3, 1) := by decide +kernel
theorem dL_law_1632 : decode cL_law 1632 = .ok (.iconst 1, 1) := by decide +kernel
theorem dL_law_1633 : decode cL_law 1633 = .ok (.iadd, 1) := by decide +kernel
theorem dL_law_1634 : decode cL_law 1634 = .ok (.iaload, 1) := by decide +kernel
theorem dL_law_1635 : decode cL_law 1635 = .ok (.aload_n 0, 1) := by decide +kernel
theorem dL_law_1636 : decode cL_law 1636 = .ok (.iload_n 3, 1) := by decide +kernel
theorem dL_law_1637 : decode cL_law 1637 = .ok (.iconst 2, 1) := by decide +kernel
theorem dL_law_1638 : decode cL_law 1638 = .ok (.iadd, 1) := by decide +kernel
theorem dL_law_1639 : decode cL_law 1639 = .ok (.iaload, 1) := by decide +kernel
theorem dL_law_1640 : decode cL_law 1640 = .ok (.aload_n 0, 1) := by decide +kernel
theorem dL_law_1641 : decode cL_law 1641 = .ok (.iload_n 3, 1) := by decide +kernel
theorem dL_law_1642 : decode cL_law 1642 = .ok (.iconst 3, 1) := by decide +kernel
theorem dL_law_1643 : decode cL_law 1643 = .ok (.iadd, 1) := by decide +kernel
theorem dL_law_1644 : decode cL_law 1644 = .ok (.iaload, 1) := by decide +kernel
theorem dL_law_1645 : decode cL_law 1645 = .ok (.i2l, 1) := by decide +kernel
theorem dL_law_1646 : decode cL_law 1646 = .ok (.bipush 32, 2) := by decide +kernel
theorem dL_law_1648 : decode cL_law 1648 = .ok (.lshl, 1) := by decide +kernel
theorem dL_law_1649 : decode cL_law 1649 = .ok (.aload_n 0, 1) := by decide +kernel
theorem dL_law_1650 : decode cL_law 1650 = .ok (.iload_n 3, 1) := by decide +kernel
theorem dL_law_1651 : decode cL_law 1651 = .ok (.iconst 4, 1) := by decide +kernel
theorem dL_law_1652 : decode cL_law 1652 = .ok (.iadd, 1) := by decide +kernel
theorem dL_law_1653 : decode cL_law 1653 = .ok (.iaload, 1) := by decide +kernel
theorem dL_law_1654 : decode cL_law 1654 = .ok (.i2l, 1) := by decide +kernel
theorem dL_law_1655 : decode cL_law 1655 = .ok (.ldc2_w 205, 3) := by decide +kernel
theorem dL_law_1658 : decode cL_law 1658 = .ok (.land, 1) := by decide +kernel
theorem dL_law_1659 : decode cL_law 1659 = .ok (.lor, 1) := by decide +kernel
theorem dL_law_1660 : decode cL_law 1660 = .ok (.invokevirtual 211, 3) := by decide +kernel
theorem dL_law_1663 : decode cL_law 1663 = .ok (.if_icmp .eq 68, 3) := by decide +kernel
theorem dL_law_1668 : decode cL_law 1668 = .ok (.aload_n 1, 1) := by decide +kernel
theorem dL_law_1669 : decode cL_law 1669 = .ok (.aload_n 0, 1) := by decide +kernel
theorem dL_law_1670 : decode cL_law 1670 = .ok (.iload_n 3, 1) := by decide +kernel
theorem dL_law_1671 : decode cL_law 1671 = .ok (.iconst 1, 1) := by decide +kernel
theorem dL_law_1672 : decode cL_law 1672 = .ok (.iadd, 1) := by decide +kernel
theorem dL_law_1673 : decode cL_law 1673 = .ok (.iaload, 1) := by decide +kernel
theorem dL_law_1674 : decode cL_law 1674 = .ok (.aload_n 0, 1) := by decide +kernel
theorem dL_law_1675 : decode cL_law 1675 = .ok (.iload_n 3, 1) := by decide +kernel
theorem dL_law_1676 : decode cL_law 1676 = .ok (.iconst 2, 1) := by decide +kernel
theorem dL_law_1677 : decode cL_law 1677 = .ok (.iadd, 1) := by decide +kernel
theorem dL_law_1678 : decode cL_law 1678 = .ok (.iaload, 1) := by decide +kernel
theorem dL_law_1679 : decode cL_law 1679 = .ok (.aload_n 0, 1) := by decide +kernel
theorem dL_law_1680 : decode cL_law 1680 = .ok (.iload_n 3, 1) := by decide +kernel
theorem dL_law_1681 : decode cL_law 1681 = .ok (.iconst 3, 1) := by decide +kernel
theorem dL_law_1682 : decode cL_law 1682 = .ok (.iadd, 1) := by decide +kernel
theorem dL_law_1683 : decode cL_law 1683 = .ok (.iaload, 1) := by decide +kernel
theorem dL_law_1684 : decode cL_law 1684 = .ok (.aload_n 0, 1) := by decide +kernel
theorem dL_law_1685 : decode cL_law 1685 = .ok (.iload_n 3, 1) := by decide +kernel
theorem dL_law_1686 : decode cL_law 1686 = .ok (.iconst 4, 1) := by decide +kernel
theorem dL_law_1687 : decode cL_law 1687 = .ok (.iadd, 1) := by decide +kernel
theorem dL_law_1688 : decode cL_law 1688 = .ok (.iaload, 1) := by decide +kernel
theorem dL_law_1689 : decode cL_law 1689 = .ok (.aload_n 0, 1) := by decide +kernel
theorem dL_law_1690 : decode cL_law 1690 = .ok (.iload_n 3, 1) := by decide +kernel
theorem dL_law_1691 : decode cL_law 1691 = .ok (.iconst 5, 1) := by decide +kernel
theorem dL_law_1692 : decode cL_law 1692 = .ok (.iadd, 1) := by decide +kernel
theorem dL_law_1693 : decode cL_law 1693 = .ok (.iaload, 1) := by decide +kernel
theorem dL_law_1694 : decode cL_law 1694 = .ok (.invokevirtual 212, 3) := by decide +kernel
theorem dL_law_1697 : decode cL_law 1697 = .ok (.aload_n 2, 1) := by decide +kernel
theorem dL_law_1698 : decode cL_law 1698 = .ok (.aload_n 0, 1) := by decide +kernel
theorem dL_law_1699 : decode cL_law 1699 = .ok (.iload_n 3, 1) := by decide +kernel
theorem dL_law_1700 : decode cL_law 1700 = .ok (.iconst 1, 1) := by decide +kernel
theorem dL_law_1701 : decode cL_law 1701 = .ok (.iadd, 1) := by decide +kernel
theorem dL_law_1702 : decode cL_law 1702 = .ok (.iaload, 1) := by decide +kernel
theorem dL_law_1703 : decode cL_law 1703 = .ok (.aload_n 0, 1) := by decide +kernel
theorem dL_law_1704 : decode cL_law 1704 = .ok (.iload_n 3, 1) := by decide +kernel
theorem dL_law_1705 : decode cL_law 1705 = .ok (.iconst 2, 1) := by decide +kernel
theorem dL_law_1706 : decode cL_law 1706 = .ok (.iadd, 1) := by decide +kernel
theorem dL_law_1707 : decode cL_law 1707 = .ok (.iaload, 1) := by decide +kernel
theorem dL_law_1708 : decode cL_law 1708 = .ok (.aload_n 0, 1) := by decide +kernel
theorem dL_law_1709 : decode cL_law 1709 = .ok (.iload_n 3, 1) := by decide +kernel
theorem dL_law_1710 : decode cL_law 1710 = .ok (.iconst 3, 1) := by decide +kernel
theorem dL_law_1711 : decode cL_law 1711 = .ok (.iadd, 1) := by decide +kernel
theorem dL_law_1712 : decode cL_law 1712 = .ok (.iaload, 1) := by decide +kernel
theorem dL_law_1713 : decode cL_law 1713 = .ok (.aload_n 0, 1) := by decide +kernel
theorem dL_law_1714 : decode cL_law 1714 = .ok (.iload_n 3, 1) := by decide +kernel
theorem dL_law_1715 : decode cL_law 1715 = .ok (.iconst 4, 1) := by decide +kernel
theorem dL_law_1716 : decode cL_law 1716 = .ok (.iadd, 1) := by decide +kernel
theorem dL_law_1717 : decode cL_law 1717 = .ok (.iaload, 1) := by decide +kernel
theorem dL_law_1718 : decode cL_law 1718 = .ok (.aload_n 0, 1) := by decide +kernel
theorem dL_law_1719 : decode cL_law 1719 = .ok (.iload_n 3, 1) := by decide +kernel
theorem dL_law_1720 : decode cL_law 1720 = .ok (.iconst 5, 1) := by decide +kernel
theorem dL_law_1721 : decode cL_law 1721 = .ok (.iadd, 1) := by decide +kernel
theorem dL_law_1722 : decode cL_law 1722 = .ok (.iaload, 1) := by decide +kernel
theorem dL_law_1723 : decode cL_law 1723 = .ok (.invokevirtual 215, 3) := by decide +kernel
theorem dL_law_1726 : decode cL_law 1726 = .ok (.if_icmp .eq 5, 3) := by decide +kernel
set_option maxHeartbeats 4000000 in
set_option maxRecDepth 100000 in
/-- the call of heard on two fresh objects -/
theorem lcase_36 {p : Program} {l : Launch} {e : Env} {s : State} {m : MethodId} {below : List Frame} {meth : Method} {c : Code} {b : Nat} {xs : Nat → Int32} {dC : Nat → ClassId} {dI : Nat → Nat → Nat} {cI cZ cB cJ cM : ClassId} (x0 y0 : Nat) (u v : Nat → Nat) {H : Heap} {locs : List Loc} {ls : Array Slot} (C0 : lw_At p s m meth c b 6 xs) (hK : va_K (dC, dI) vwCl [(cI, .int), (cZ, .boolean), (cB, .byte), (cJ, .long), (cM, .object RX2)] s) (hP : va_P (dC, dI) vwCl [(x0, .inr (11, [.ref (u 0), .ref (u 2), .ref (u 3), .ref (u 4), .ref (u 5), .ref (u 10), .ref (u 11), .ref (u 12), .ref (u 98), .ref (u 124)])), (u 98, .inr (2, [.int 0, .int 0, .int 0, .int 0, .int 0, .int 0, .int 0, .int 0, .int 0, .ref (u 99), .ref (u 107), .ref (u 117), .ref (u 122), .ref (u 123)])), (u 107, .inr (1, [.int 0, .ref (u 108), .ref (u 109), .ref (u 110), .ref (u 111), .ref (u 112), .ref (u 113), .ref (u 114), .ref (u 115), .ref (u 116)])), (y0, .inr (12, [.int 0, .ref (v 1), .ref (v 2), .ref (v 3), .ref (v 4), .int 0, .ref (v 6), .int 0, .int 0, .int 0, .int 0, .int 0, .int 0, .int (-1), .ref (v 14), .ref (v 15), .ref (v 16), .ref (v 17), .ref (v 18), .ref (v 19), .ref (v 20), .int 0, .ref (v 22), .int 0, .ref (v 24), .ref (v 25), .int 0, .ref (v 27), .ref (v 28), .ref (v 29), .ref (v 30), .int 0, .int 0, .int 0, .int 0, .int 0, .ref (v 36), .long 0, .ref (v 38), .ref (v 39), .ref (v 40), .ref (v 41)])), (v 1, .inl (cI, 544, .inl (upd (upd (upd (fun _ => 0) 8 1) 9 1) 17 (-1))))] H) (hD : va_D (fun q : Nat => s.heap.size ≤ q) [(x0, .inr (11, [.ref (u 0), .ref (u 2), .ref (u 3), .ref (u 4), .ref (u 5), .ref (u 10), .ref (u 11), .ref (u 12), .ref (u 98), .ref (u 124)])), (u 98, .inr (2, [.int 0, .int 0, .int 0, .int 0, .int 0, .int 0, .int 0, .int 0, .int 0, .ref (u 99), .ref (u 107), .ref (u 117), .ref (u 122), .ref (u 123)])), (u 107, .inr (1, [.int 0, .ref (u 108), .ref (u 109), .ref (u 110), .ref (u 111), .ref (u 112), .ref (u 113), .ref (u 114), .ref (u 115), .ref (u 116)])), (y0, .inr (12, [.int 0, .ref (v 1), .ref (v 2), .ref (v 3), .ref (v 4), .int 0, .ref (v 6), .int 0, .int 0, .int 0, .int 0, .int 0, .int 0, .int (-1), .ref (v 14), .ref (v 15), .ref (v 16), .ref (v 17), .ref (v 18), .ref (v 19), .ref (v 20), .int 0, .ref (v 22), .int 0, .ref (v 24), .ref (v 25), .int 0, .ref (v 27), .ref (v 28), .ref (v 29), .ref (v 30), .int 0, .int 0, .int 0, .int 0, .int 0, .ref (v 36), .long 0, .ref (v 38), .ref (v 39), .ref (v 40), .ref (v 41)])), (v 1, .inl (cI, 544, .inl (upd (upd (upd (fun _ => 0) 8 1) 9 1) 17 (-1))))]) (hS : va_S (fun q : Nat => s.heap.size ≤ q) s.heap H locs) (hl : lv_has ls 4 [(3, .int 0), (2, .ref y0), (1, .ref x0), (0, .ref b)]) : W p l e room_1 s m #[Value.ref b] below meth c H locs 600000 7302250 (lw_Z below #[Value.ref b] s) (F0 m 1204 ls []) := by
  obtain ⟨hx, hb, hr, hml, hown0, hts, hX, hbl, hlocks, hgv⟩ := id C0
  have hb : c.code = cL_law := hb
  have hown : s.vm.findClass RL = some m.cls := hown0
  have hwd : ∀ wd ∈ wsL_law, wd.before #[Value.ref b] s = true := fun w h => hts w (wsL_law_in w h)
  have hA : ∀ q : Nat, s.heap.size ≤ q → (fun q : Nat => s.heap.size ≤ q) q := fun _ h => h
  have hbA : ¬ (fun q : Nat => s.heap.size ≤ q) b := Nat.not_le.mpr hbl
  refine lv_aload_n hx hb dL_law_1204 rfl (lv_at hl 2 rfl) ?_
  refine lv_aload_n hx hb dL_law_1205 rfl (lv_at hl 3 rfl) ?_
  refine lv_iload_n hx hb dL_law_1206 rfl (lv_at hl 0 rfl) ?_
  refine lv_iconst (v := 1) hx hb dL_law_1207 (by decide) ?_
  refine lv_iadd hx hb dL_law_1208 ?_
  refine lv_topi (nm_r (e' := (1)) (by decide +kernel) ?_)
  refine va_sld hx hb hX hbl hbA hS (vin (by decide)) dL_law_1209 ?_
  refine lv_aload_n hx hb dL_law_1210 rfl (lv_at hl 3 rfl) ?_
  refine lv_iload_n hx hb dL_law_1211 rfl (lv_at hl 0 rfl) ?_
  refine lv_iconst (v := 2) hx hb dL_law_1212 (by decide) ?_
  refine lv_iadd hx hb dL_law_1213 ?_
  refine lv_topi (nm_r (e' := (2)) (by decide +kernel) ?_)
  refine va_sld hx hb hX hbl hbA hS (vin (by decide)) dL_law_1214 ?_
  have hPc := hP.sub (ws' := [(x0, .inr (11, [.ref (u 0), .ref (u 2), .ref (u 3), .ref (u 4), .ref (u 5), .ref (u 10), .ref (u 11), .ref (u 12), .ref (u 98), .ref (u 124)])), (u 98, .inr (2, [.int 0, .int 0, .int 0, .int 0, .int 0, .int 0, .int 0, .int 0, .int 0, .ref (u 99), .ref (u 107), .ref (u 117), .ref (u 122), .ref (u 123)])), (u 107, .inr (1, [.int 0, .ref (u 108), .ref (u 109), .ref (u 110), .ref (u 111), .ref (u 112), .ref (u 113), .ref (u 114), .ref (u 115), .ref (u 116)]))]) [0, 1, 2] rfl
  have hDc := hD.sub (ws' := [(x0, .inr (11, [.ref (u 0), .ref (u 2), .ref (u 3), .ref (u 4), .ref (u 5), .ref (u 10), .ref (u 11), .ref (u 12), .ref (u 98), .ref (u 124)])), (u 98, .inr (2, [.int 0, .int 0, .int 0, .int 0, .int 0, .int 0, .int 0, .int 0, .int 0, .ref (u 99), .ref (u 107), .ref (u 117), .ref (u 122), .ref (u 123)])), (u 107, .inr (1, [.int 0, .ref (u 108), .ref (u 109), .ref (u 110), .ref (u 111), .ref (u 112), .ref (u 113), .ref (u 114), .ref (u 115), .ref (u 116)]))]) [0, 1, 2] (by decide) rfl
  have hFc := va_free (wc := [(x0, .inr (11, [.ref (u 0), .ref (u 2), .ref (u 3), .ref (u 4), .ref (u 5), .ref (u 10), .ref (u 11), .ref (u 12), .ref (u 98), .ref (u 124)])), (u 98, .inr (2, [.int 0, .int 0, .int 0, .int 0, .int 0, .int 0, .int 0, .int 0, .int 0, .ref (u 99), .ref (u 107), .ref (u 117), .ref (u 122), .ref (u 123)])), (u 107, .inr (1, [.int 0, .ref (u 108), .ref (u 109), .ref (u 110), .ref (u 111), .ref (u 112), .ref (u 113), .ref (u 114), .ref (u 115), .ref (u 116)]))]) hD hS hA [0, 1, 2] rfl
  refine va_calll (va_runV (As := [.int (xs (1 : Int32).toNatClampNeg), .int (xs (2 : Int32).toNatClampNeg)]) (rest := []) ⟨hx, hb, hml, hown, hwd⟩ (c_X11_heard l dC dI cI cZ cB cJ cM x0 (u 0) (u 2) (u 3) (u 4) (u 5) (u 10) (u 11) (u 12) (u 98) (u 124) (u 99) (u 107) (u 117) (u 122) (u 123) (u 108) (u 109) (u 110) (u 111) (u 112) (u 113) (u 114) (u 115) (u 116) (xs (1 : Int32).toNatClampNeg) (xs (2 : Int32).toNatClampNeg) H.size) (cwV 2 hwd (gV kr29_2 kr29_3 kr29_4 kr1_2 kr29_5) rfl rfl rfl (by decide +kernel) ⟨Nat.le_of_ble_eq_true rfl, Nat.le_of_ble_eq_true rfl⟩) (kPreV hPc hK hDc (ci := 11) (q0 := 0) rfl rfl) rfl rfl hl.1 rfl (lv_room (Nat.le_of_ble_eq_true rfl)) dL_law_1215 ⟨Nat.le_of_ble_eq_true rfl, Nat.le_of_ble_eq_true rfl⟩) hS (fun q _ h => hFc q h) hFc (fun r1 u2 t H1 locs ht9 hvm hw hB hz1 hk1 hS => ?_)
  obtain ⟨hP, hD⟩ := va_join (wr := [(y0, .inr (12, [.int 0, .ref (v 1), .ref (v 2), .ref (v 3), .ref (v 4), .int 0, .ref (v 6), .int 0, .int 0, .int 0, .int 0, .int 0, .int 0, .int (-1), .ref (v 14), .ref (v 15), .ref (v 16), .ref (v 17), .ref (v 18), .ref (v 19), .ref (v 20), .int 0, .ref (v 22), .int 0, .ref (v 24), .ref (v 25), .int 0, .ref (v 27), .ref (v 28), .ref (v 29), .ref (v 30), .int 0, .int 0, .int 0, .int 0, .int 0, .ref (v 36), .long 0, .ref (v 38), .ref (v 39), .ref (v 40), .ref (v 41)])), (v 1, .inl (cI, 544, .inl (upd (upd (upd (fun _ => 0) 8 1) 9 1) 17 (-1))))]) (w1 := []) hP hD [0, 1, 2] [3, 4] rfl rfl (by decide) (by decide) hk1 hFc kP0 kD0
  generalize H1 = H at hP hS ⊢
  have hP : va_P (dC, dI) vwCl [(y0, .inr (12, [.int 0, .ref (v 1), .ref (v 2), .ref (v 3), .ref (v 4), .int 0, .ref (v 6), .int 0, .int 0, .int 0, .int 0, .int 0, .int 0, .int (-1), .ref (v 14), .ref (v 15), .ref (v 16), .ref (v 17), .ref (v 18), .ref (v 19), .ref (v 20), .int 0, .ref (v 22), .int 0, .ref (v 24), .ref (v 25), .int 0, .ref (v 27), .ref (v 28), .ref (v 29), .ref (v 30), .int 0, .int 0, .int 0, .int 0, .int 0, .ref (v 36), .long 0, .ref (v 38), .ref (v 39), .ref (v 40), .ref (v 41)])), (v 1, .inl (cI, 544, .inl (upd (upd (upd (fun _ => 0) 8 1) 9 1) 17 (-1))))] H := hP
  have hD : va_D (fun q : Nat => s.heap.size ≤ q) [(y0, .inr (12, [.int 0, .ref (v 1), .ref (v 2), .ref (v 3), .ref (v 4), .int 0, .ref (v 6), .int 0, .int 0, .int 0, .int 0, .int 0, .int 0, .int (-1), .ref (v 14), .ref (v 15), .ref (v 16), .ref (v 17), .ref (v 18), .ref (v 19), .ref (v 20), .int 0, .ref (v 22), .int 0, .ref (v 24), .ref (v 25), .int 0, .ref (v 27), .ref (v 28), .ref (v 29), .ref (v 30), .int 0, .int 0, .int 0, .int 0, .int 0, .ref (v 36), .long 0, .ref (v 38), .ref (v 39), .ref (v 40), .ref (v 41)])), (v 1, .inl (cI, 544, .inl (upd (upd (upd (fun _ => 0) 8 1) 9 1) 17 (-1))))] := hD
  subst hw
  refine lv_aload_n hx hb dL_law_1218 rfl (lv_at hl 1 rfl) ?_
  refine lv_aload_n hx hb dL_law_1219 rfl (lv_at hl 3 rfl) ?_
  refine lv_iload_n hx hb dL_law_1220 rfl (lv_at hl 0 rfl) ?_
  refine lv_iconst (v := 1) hx hb dL_law_1221 (by decide) ?_
  refine lv_iadd hx hb dL_law_1222 ?_
  refine lv_topi (nm_r (e' := (1)) (by decide +kernel) ?_)
  refine va_sld hx hb hX hbl hbA hS (vin (by decide)) dL_law_1223 ?_
  refine lv_aload_n hx hb dL_law_1224 rfl (lv_at hl 3 rfl) ?_
  refine lv_iload_n hx hb dL_law_1225 rfl (lv_at hl 0 rfl) ?_
  refine lv_iconst (v := 2) hx hb dL_law_1226 (by decide) ?_
  refine lv_iadd hx hb dL_law_1227 ?_
  refine lv_topi (nm_r (e' := (2)) (by decide +kernel) ?_)
  refine va_sld hx hb hX hbl hbA hS (vin (by decide)) dL_law_1228 ?_
  have hPc := hP.sub (ws' := [(y0, .inr (12, [.int 0, .ref (v 1), .ref (v 2), .ref (v 3), .ref (v 4), .int 0, .ref (v 6), .int 0, .int 0, .int 0, .int 0, .int 0, .int 0, .int (-1), .ref (v 14), .ref (v 15), .ref (v 16), .ref (v 17), .ref (v 18), .ref (v 19), .ref (v 20), .int 0, .ref (v 22), .int 0, .ref (v 24), .ref (v 25), .int 0, .ref (v 27), .ref (v 28), .ref (v 29), .ref (v 30), .int 0, .int 0, .int 0, .int 0, .int 0, .ref (v 36), .long 0, .ref (v 38), .ref (v 39), .ref (v 40), .ref (v 41)])), (v 1, .inl (cI, 544, .inl (upd (upd (upd (fun _ => 0) 8 1) 9 1) 17 (-1))))]) [0, 1] rfl
  have hDc := hD.sub (ws' := [(y0, .inr (12, [.int 0, .ref (v 1), .ref (v 2), .ref (v 3), .ref (v 4), .int 0, .ref (v 6), .int 0, .int 0, .int 0, .int 0, .int 0, .int 0, .int (-1), .ref (v 14), .ref (v 15), .ref (v 16), .ref (v 17), .ref (v 18), .ref (v 19), .ref (v 20), .int 0, .ref (v 22), .int 0, .ref (v 24), .ref (v 25), .int 0, .ref (v 27), .ref (v 28), .ref (v 29), .ref (v 30), .int 0, .int 0, .int 0, .int 0, .int 0, .ref (v 36), .long 0, .ref (v 38), .ref (v 39), .ref (v 40), .ref (v 41)])), (v 1, .inl (cI, 544, .inl (upd (upd (upd (fun _ => 0) 8 1) 9 1) 17 (-1))))]) [0, 1] (by decide) rfl
  have hFc := va_free (wc := [(y0, .inr (12, [.int 0, .ref (v 1), .ref (v 2), .ref (v 3), .ref (v 4), .int 0, .ref (v 6), .int 0, .int 0, .int 0, .int 0, .int 0, .int 0, .int (-1), .ref (v 14), .ref (v 15), .ref (v 16), .ref (v 17), .ref (v 18), .ref (v 19), .ref (v 20), .int 0, .ref (v 22), .int 0, .ref (v 24), .ref (v 25), .int 0, .ref (v 27), .ref (v 28), .ref (v 29), .ref (v 30), .int 0, .int 0, .int 0, .int 0, .int 0, .ref (v 36), .long 0, .ref (v 38), .ref (v 39), .ref (v 40), .ref (v 41)])), (v 1, .inl (cI, 544, .inl (upd (upd (upd (fun _ => 0) 8 1) 9 1) 17 (-1))))]) hD hS hA [0, 1] rfl
  refine va_calll (va_runV (As := [.int (xs (1 : Int32).toNatClampNeg), .int (xs (2 : Int32).toNatClampNeg)]) (rest := [.long (-2)]) ⟨hx, hb, hml, hown, hwd⟩ (c_X12_heard l dC dI cI cZ cB cJ cM y0 v (xs (1 : Int32).toNatClampNeg) (xs (2 : Int32).toNatClampNeg) H.size) (cwV 2 hwd (gV kr29_7 kr29_8 kr29_9 kr1_5 kr29_10) rfl rfl rfl (by decide +kernel) ⟨Nat.le_of_ble_eq_true rfl, Nat.le_of_ble_eq_true rfl⟩) (kPreV hPc hK hDc (ci := 12) (q0 := 0) rfl rfl) rfl rfl hl.1 rfl (lv_room (Nat.le_of_ble_eq_true rfl)) dL_law_1229 ⟨Nat.le_of_ble_eq_true rfl, Nat.le_of_ble_eq_true rfl⟩) hS (fun q _ h => hFc q h) hFc (fun r3 u4 t H1 locs ht9 hvm hw hB hz1 hk1 hS => ?_)
  obtain ⟨hP, hD⟩ := va_join (wr := []) (w1 := []) hP hD [0, 1] [] rfl rfl (by decide) (by decide) hk1 hFc kP0 kD0
  generalize H1 = H at hP hS ⊢
  have hP : va_P (dC, dI) vwCl [] H := hP
  have hD : va_D (fun q : Nat => s.heap.size ≤ q) [] := hD
  subst hw
  refine W.lcmp hx hb dL_law_1232 ?_
  refine lv_topi (nm_r (e' := (0)) (by decide +kernel) ?_)
  refine lv_if_eq (tgt := 1731) hx hb dL_law_1233 (by decide) (fun c5 => ?_) (fun c5 => absurd c5 (by decide))
  exact law_tail C0 hS (lv_sub hl [3, 0] rfl)
set_option maxHeartbeats 4000000 in
set_option maxRecDepth 100000 in
/-- the call of faults on two fresh objects -/
theorem lcase_37 {p : Program} {l : Launch} {e : Env} {s : State} {m : MethodId} {below : List Frame} {meth : Method} {c : Code} {b : Nat} {xs : Nat → Int32} {dC : Nat → ClassId} {dI : Nat → Nat → Nat} {cI cZ cB cJ cM : ClassId} (x0 y0 : Nat) (u v : Nat → Nat) {H : Heap} {locs : List Loc} {ls : Array Slot} (C0 : lw_At p s m meth c b 6 xs) (hK : va_K (dC, dI) vwCl [(cI, .int), (cZ, .boolean), (cB, .byte), (cJ, .long), (cM, .object RX2)] s) (hP : va_P (dC, dI) vwCl [(x0, .inr (11, [.ref (u 0), .ref (u 2), .ref (u 3), .ref (u 4), .ref (u 5), .ref (u 10), .ref (u 11), .ref (u 12), .ref (u 98), .ref (u 124)])), (u 98, .inr (2, [.int 0, .int 0, .int 0, .int 0, .int 0, .int 0, .int 0, .int 0, .int 0, .ref (u 99), .ref (u 107), .ref (u 117), .ref (u 122), .ref (u 123)])), (u 107, .inr (1, [.int 0, .ref (u 108), .ref (u 109), .ref (u 110), .ref (u 111), .ref (u 112), .ref (u 113), .ref (u 114), .ref (u 115), .ref (u 116)])), (y0, .inr (12, [.int 0, .ref (v 1), .ref (v 2), .ref (v 3), .ref (v 4), .int 0, .ref (v 6), .int 0, .int 0, .int 0, .int 0, .int 0, .int 0, .int (-1), .ref (v 14), .ref (v 15), .ref (v 16), .ref (v 17), .ref (v 18), .ref (v 19), .ref (v 20), .int 0, .ref (v 22), .int 0, .ref (v 24), .ref (v 25), .int 0, .ref (v 27), .ref (v 28), .ref (v 29), .ref (v 30), .int 0, .int 0, .int 0, .int 0, .int 0, .ref (v 36), .long 0, .ref (v 38), .ref (v 39), .ref (v 40), .ref (v 41)])), (v 1, .inl (cI, 544, .inl (upd (upd (upd (fun _ => 0) 8 1) 9 1) 17 (-1))))] H) (hD : va_D (fun q : Nat => s.heap.size ≤ q) [(x0, .inr (11, [.ref (u 0), .ref (u 2), .ref (u 3), .ref (u 4), .ref (u 5), .ref (u 10), .ref (u 11), .ref (u 12), .ref (u 98), .ref (u 124)])), (u 98, .inr (2, [.int 0, .int 0, .int 0, .int 0, .int 0, .int 0, .int 0, .int 0, .int 0, .ref (u 99), .ref (u 107), .ref (u 117), .ref (u 122), .ref (u 123)])), (u 107, .inr (1, [.int 0, .ref (u 108), .ref (u 109), .ref (u 110), .ref (u 111), .ref (u 112), .ref (u 113), .ref (u 114), .ref (u 115), .ref (u 116)])), (y0, .inr (12, [.int 0, .ref (v 1), .ref (v 2), .ref (v 3), .ref (v 4), .int 0, .ref (v 6), .int 0, .int 0, .int 0, .int 0, .int 0, .int 0, .int (-1), .ref (v 14), .ref (v 15), .ref (v 16), .ref (v 17), .ref (v 18), .ref (v 19), .ref (v 20), .int 0, .ref (v 22), .int 0, .ref (v 24), .ref (v 25), .int 0, .ref (v 27), .ref (v 28), .ref (v 29), .ref (v 30), .int 0, .int 0, .int 0, .int 0, .int 0, .ref (v 36), .long 0, .ref (v 38), .ref (v 39), .ref (v 40), .ref (v 41)])), (v 1, .inl (cI, 544, .inl (upd (upd (upd (fun _ => 0) 8 1) 9 1) 17 (-1))))]) (hS : va_S (fun q : Nat => s.heap.size ≤ q) s.heap H locs) (hl : lv_has ls 4 [(3, .int 0), (2, .ref y0), (1, .ref x0), (0, .ref b)]) : W p l e room_1 s m #[Value.ref b] below meth c H locs 600000 7302250 (lw_Z below #[Value.ref b] s) (F0 m 1238 ls []) := by
  obtain ⟨hx, hb, hr, hml, hown0, hts, hX, hbl, hlocks, hgv⟩ := id C0
  have hb : c.code = cL_law := hb
  have hown : s.vm.findClass RL = some m.cls := hown0
  have hwd : ∀ wd ∈ wsL_law, wd.before #[Value.ref b] s = true := fun w h => hts w (wsL_law_in w h)
  have hA : ∀ q : Nat, s.heap.size ≤ q → (fun q : Nat => s.heap.size ≤ q) q := fun _ h => h
  have hbA : ¬ (fun q : Nat => s.heap.size ≤ q) b := Nat.not_le.mpr hbl
  refine lv_aload_n hx hb dL_law_1238 rfl (lv_at hl 2 rfl) ?_
  refine lv_aload_n hx hb dL_law_1239 rfl (lv_at hl 3 rfl) ?_
  refine lv_iload_n hx hb dL_law_1240 rfl (lv_at hl 0 rfl) ?_
  refine lv_iconst (v := 1) hx hb dL_law_1241 (by decide) ?_
  refine lv_iadd hx hb dL_law_1242 ?_
  refine lv_topi (nm_r (e' := (1)) (by decide +kernel) ?_)
  refine va_sld hx hb hX hbl hbA hS (vin (by decide)) dL_law_1243 ?_
  refine lv_aload_n hx hb dL_law_1244 rfl (lv_at hl 3 rfl) ?_
  refine lv_iload_n hx hb dL_law_1245 rfl (lv_at hl 0 rfl) ?_
  refine lv_iconst (v := 2) hx hb dL_law_1246 (by decide) ?_
  refine lv_iadd hx hb dL_law_1247 ?_
  refine lv_topi (nm_r (e' := (2)) (by decide +kernel) ?_)
  refine va_sld hx hb hX hbl hbA hS (vin (by decide)) dL_law_1248 ?_
  refine lv_aload_n hx hb dL_law_1249 rfl (lv_at hl 3 rfl) ?_
  refine lv_iload_n hx hb dL_law_1250 rfl (lv_at hl 0 rfl) ?_
  refine lv_iconst (v := 3) hx hb dL_law_1251 (by decide) ?_
  refine lv_iadd hx hb dL_law_1252 ?_
  refine lv_topi (nm_r (e' := (3)) (by decide +kernel) ?_)
  refine va_sld hx hb hX hbl hbA hS (vin (by decide)) dL_law_1253 ?_
  have hPc := hP.sub (ws' := [(x0, .inr (11, [.ref (u 0), .ref (u 2), .ref (u 3), .ref (u 4), .ref (u 5), .ref (u 10), .ref (u 11), .ref (u 12), .ref (u 98), .ref (u 124)])), (u 98, .inr (2, [.int 0, .int 0, .int 0, .int 0, .int 0, .int 0, .int 0, .int 0, .int 0, .ref (u 99), .ref (u 107), .ref (u 117), .ref (u 122), .ref (u 123)])), (u 107, .inr (1, [.int 0, .ref (u 108), .ref (u 109), .ref (u 110), .ref (u 111), .ref (u 112), .ref (u 113), .ref (u 114), .ref (u 115), .ref (u 116)]))]) [0, 1, 2] rfl
  have hDc := hD.sub (ws' := [(x0, .inr (11, [.ref (u 0), .ref (u 2), .ref (u 3), .ref (u 4), .ref (u 5), .ref (u 10), .ref (u 11), .ref (u 12), .ref (u 98), .ref (u 124)])), (u 98, .inr (2, [.int 0, .int 0, .int 0, .int 0, .int 0, .int 0, .int 0, .int 0, .int 0, .ref (u 99), .ref (u 107), .ref (u 117), .ref (u 122), .ref (u 123)])), (u 107, .inr (1, [.int 0, .ref (u 108), .ref (u 109), .ref (u 110), .ref (u 111), .ref (u 112), .ref (u 113), .ref (u 114), .ref (u 115), .ref (u 116)]))]) [0, 1, 2] (by decide) rfl
  have hFc := va_free (wc := [(x0, .inr (11, [.ref (u 0), .ref (u 2), .ref (u 3), .ref (u 4), .ref (u 5), .ref (u 10), .ref (u 11), .ref (u 12), .ref (u 98), .ref (u 124)])), (u 98, .inr (2, [.int 0, .int 0, .int 0, .int 0, .int 0, .int 0, .int 0, .int 0, .int 0, .ref (u 99), .ref (u 107), .ref (u 117), .ref (u 122), .ref (u 123)])), (u 107, .inr (1, [.int 0, .ref (u 108), .ref (u 109), .ref (u 110), .ref (u 111), .ref (u 112), .ref (u 113), .ref (u 114), .ref (u 115), .ref (u 116)]))]) hD hS hA [0, 1, 2] rfl
  refine va_calli (va_runV (As := [.int (xs (1 : Int32).toNatClampNeg), .int (xs (2 : Int32).toNatClampNeg), .int (xs (3 : Int32).toNatClampNeg)]) (rest := []) ⟨hx, hb, hml, hown, hwd⟩ (c_X11_faults l dC dI cI cZ cB cJ cM x0 (u 0) (u 2) (u 3) (u 4) (u 5) (u 10) (u 11) (u 12) (u 98) (u 124) (u 99) (u 107) (u 117) (u 122) (u 123) (u 108) (u 109) (u 110) (u 111) (u 112) (u 113) (u 114) (u 115) (u 116) (xs (1 : Int32).toNatClampNeg) (xs (2 : Int32).toNatClampNeg) (xs (3 : Int32).toNatClampNeg) H.size) (cwV 3 hwd (gV kr29_12 kr29_13 kr29_14 kr1_2 kr29_15) rfl rfl rfl (by decide +kernel) ⟨Nat.le_of_ble_eq_true rfl, Nat.le_of_ble_eq_true rfl⟩) (kPreV hPc hK hDc (ci := 11) (q0 := 0) rfl rfl) rfl rfl hl.1 rfl (lv_room (Nat.le_of_ble_eq_true rfl)) dL_law_1254 ⟨Nat.le_of_ble_eq_true rfl, Nat.le_of_ble_eq_true rfl⟩) hS (fun q _ h => hFc q h) hFc (fun r1 u2 t H1 locs ht9 hvm hw hB hz1 hk1 hS => ?_)
  obtain ⟨hP, hD⟩ := va_join (wr := [(y0, .inr (12, [.int 0, .ref (v 1), .ref (v 2), .ref (v 3), .ref (v 4), .int 0, .ref (v 6), .int 0, .int 0, .int 0, .int 0, .int 0, .int 0, .int (-1), .ref (v 14), .ref (v 15), .ref (v 16), .ref (v 17), .ref (v 18), .ref (v 19), .ref (v 20), .int 0, .ref (v 22), .int 0, .ref (v 24), .ref (v 25), .int 0, .ref (v 27), .ref (v 28), .ref (v 29), .ref (v 30), .int 0, .int 0, .int 0, .int 0, .int 0, .ref (v 36), .long 0, .ref (v 38), .ref (v 39), .ref (v 40), .ref (v 41)])), (v 1, .inl (cI, 544, .inl (upd (upd (upd (fun _ => 0) 8 1) 9 1) 17 (-1))))]) (w1 := []) hP hD [0, 1, 2] [3, 4] rfl rfl (by decide) (by decide) hk1 hFc kP0 kD0
  generalize H1 = H at hP hS ⊢
  have hP : va_P (dC, dI) vwCl [(y0, .inr (12, [.int 0, .ref (v 1), .ref (v 2), .ref (v 3), .ref (v 4), .int 0, .ref (v 6), .int 0, .int 0, .int 0, .int 0, .int 0, .int 0, .int (-1), .ref (v 14), .ref (v 15), .ref (v 16), .ref (v 17), .ref (v 18), .ref (v 19), .ref (v 20), .int 0, .ref (v 22), .int 0, .ref (v 24), .ref (v 25), .int 0, .ref (v 27), .ref (v 28), .ref (v 29), .ref (v 30), .int 0, .int 0, .int 0, .int 0, .int 0, .ref (v 36), .long 0, .ref (v 38), .ref (v 39), .ref (v 40), .ref (v 41)])), (v 1, .inl (cI, 544, .inl (upd (upd (upd (fun _ => 0) 8 1) 9 1) 17 (-1))))] H := hP
  have hD : va_D (fun q : Nat => s.heap.size ≤ q) [(y0, .inr (12, [.int 0, .ref (v 1), .ref (v 2), .ref (v 3), .ref (v 4), .int 0, .ref (v 6), .int 0, .int 0, .int 0, .int 0, .int 0, .int 0, .int (-1), .ref (v 14), .ref (v 15), .ref (v 16), .ref (v 17), .ref (v 18), .ref (v 19), .ref (v 20), .int 0, .ref (v 22), .int 0, .ref (v 24), .ref (v 25), .int 0, .ref (v 27), .ref (v 28), .ref (v 29), .ref (v 30), .int 0, .int 0, .int 0, .int 0, .int 0, .ref (v 36), .long 0, .ref (v 38), .ref (v 39), .ref (v 40), .ref (v 41)])), (v 1, .inl (cI, 544, .inl (upd (upd (upd (fun _ => 0) 8 1) 9 1) 17 (-1))))] := hD
  subst hw
  refine lv_aload_n hx hb dL_law_1257 rfl (lv_at hl 1 rfl) ?_
  refine lv_aload_n hx hb dL_law_1258 rfl (lv_at hl 3 rfl) ?_
  refine lv_iload_n hx hb dL_law_1259 rfl (lv_at hl 0 rfl) ?_
  refine lv_iconst (v := 1) hx hb dL_law_1260 (by decide) ?_
  refine lv_iadd hx hb dL_law_1261 ?_
  refine lv_topi (nm_r (e' := (1)) (by decide +kernel) ?_)
  refine va_sld hx hb hX hbl hbA hS (vin (by decide)) dL_law_1262 ?_
  refine lv_aload_n hx hb dL_law_1263 rfl (lv_at hl 3 rfl) ?_
  refine lv_iload_n hx hb dL_law_1264 rfl (lv_at hl 0 rfl) ?_
  refine lv_iconst (v := 2) hx hb dL_law_1265 (by decide) ?_
  refine lv_iadd hx hb dL_law_1266 ?_
  refine lv_topi (nm_r (e' := (2)) (by decide +kernel) ?_)
  refine va_sld hx hb hX hbl hbA hS (vin (by decide)) dL_law_1267 ?_
  refine lv_aload_n hx hb dL_law_1268 rfl (lv_at hl 3 rfl) ?_
  refine lv_iload_n hx hb dL_law_1269 rfl (lv_at hl 0 rfl) ?_
  refine lv_iconst (v := 3) hx hb dL_law_1270 (by decide) ?_
  refine lv_iadd hx hb dL_law_1271 ?_
  refine lv_topi (nm_r (e' := (3)) (by decide +kernel) ?_)
  refine va_sld hx hb hX hbl hbA hS (vin (by decide)) dL_law_1272 ?_
  have hPc := hP.sub (ws' := [(y0, .inr (12, [.int 0, .ref (v 1), .ref (v 2), .ref (v 3), .ref (v 4), .int 0, .ref (v 6), .int 0, .int 0, .int 0, .int 0, .int 0, .int 0, .int (-1), .ref (v 14), .ref (v 15), .ref (v 16), .ref (v 17), .ref (v 18), .ref (v 19), .ref (v 20), .int 0, .ref (v 22), .int 0, .ref (v 24), .ref (v 25), .int 0, .ref (v 27), .ref (v 28), .ref (v 29), .ref (v 30), .int 0, .int 0, .int 0, .int 0, .int 0, .ref (v 36), .long 0, .ref (v 38), .ref (v 39), .ref (v 40), .ref (v 41)])), (v 1, .inl (cI, 544, .inl (upd (upd (upd (fun _ => 0) 8 1) 9 1) 17 (-1))))]) [0, 1] rfl
  have hDc := hD.sub (ws' := [(y0, .inr (12, [.int 0, .ref (v 1), .ref (v 2), .ref (v 3), .ref (v 4), .int 0, .ref (v 6), .int 0, .int 0, .int 0, .int 0, .int 0, .int 0, .int (-1), .ref (v 14), .ref (v 15), .ref (v 16), .ref (v 17), .ref (v 18), .ref (v 19), .ref (v 20), .int 0, .ref (v 22), .int 0, .ref (v 24), .ref (v 25), .int 0, .ref (v 27), .ref (v 28), .ref (v 29), .ref (v 30), .int 0, .int 0, .int 0, .int 0, .int 0, .ref (v 36), .long 0, .ref (v 38), .ref (v 39), .ref (v 40), .ref (v 41)])), (v 1, .inl (cI, 544, .inl (upd (upd (upd (fun _ => 0) 8 1) 9 1) 17 (-1))))]) [0, 1] (by decide) rfl
  have hFc := va_free (wc := [(y0, .inr (12, [.int 0, .ref (v 1), .ref (v 2), .ref (v 3), .ref (v 4), .int 0, .ref (v 6), .int 0, .int 0, .int 0, .int 0, .int 0, .int 0, .int (-1), .ref (v 14), .ref (v 15), .ref (v 16), .ref (v 17), .ref (v 18), .ref (v 19), .ref (v 20), .int 0, .ref (v 22), .int 0, .ref (v 24), .ref (v 25), .int 0, .ref (v 27), .ref (v 28), .ref (v 29), .ref (v 30), .int 0, .int 0, .int 0, .int 0, .int 0, .ref (v 36), .long 0, .ref (v 38), .ref (v 39), .ref (v 40), .ref (v 41)])), (v 1, .inl (cI, 544, .inl (upd (upd (upd (fun _ => 0) 8 1) 9 1) 17 (-1))))]) hD hS hA [0, 1] rfl
  refine va_calli (va_runV (As := [.int (xs (1 : Int32).toNatClampNeg), .int (xs (2 : Int32).toNatClampNeg), .int (xs (3 : Int32).toNatClampNeg)]) (rest := [.int (-2)]) ⟨hx, hb, hml, hown, hwd⟩ (c_X12_faults l dC dI cI cZ cB cJ cM y0 v (xs (1 : Int32).toNatClampNeg) (xs (2 : Int32).toNatClampNeg) (xs (3 : Int32).toNatClampNeg) H.size) (cwV 3 hwd (gV kr29_20 kr29_21 kr29_22 kr1_5 kr29_23) rfl rfl rfl (by decide +kernel) ⟨Nat.le_of_ble_eq_true rfl, Nat.le_of_ble_eq_true rfl⟩) (kPreV hPc hK hDc (ci := 12) (q0 := 0) rfl rfl) rfl rfl hl.1 rfl (lv_room (Nat.le_of_ble_eq_true rfl)) dL_law_1273 ⟨Nat.le_of_ble_eq_true rfl, Nat.le_of_ble_eq_true rfl⟩) hS (fun q _ h => hFc q h) hFc (fun r3 u4 t H1 locs ht9 hvm hw hB hz1 hk1 hS => ?_)
  obtain ⟨hP, hD⟩ := va_join (wr := []) (w1 := []) hP hD [0, 1] [] rfl rfl (by decide) (by decide) hk1 hFc kP0 kD0
  generalize H1 = H at hP hS ⊢
  have hP : va_P (dC, dI) vwCl [] H := hP
  have hD : va_D (fun q : Nat => s.heap.size ≤ q) [] := hD
  subst hw
  refine lv_icmp_eq (tgt := 1731) hx hb dL_law_1276 (by decide) (fun c5 => ?_) (fun c5 => absurd c5 (by decide))
  exact law_tail C0 hS (lv_sub hl [3, 0] rfl)
set_option maxHeartbeats 4000000 in
set_option maxRecDepth 100000 in
/-- the call of guess on two fresh objects -/
theorem lcase_38 {p : Program} {l : Launch} {e : Env} {s : State} {m : MethodId} {below : List Frame} {meth : Method} {c : Code} {b : Nat} {xs : Nat → Int32} {dC : Nat → ClassId} {dI : Nat → Nat → Nat} {cI cZ cB cJ cM : ClassId} (x0 y0 : Nat) (u v : Nat → Nat) {H : Heap} {locs : List Loc} {ls : Array Slot} (C0 : lw_At p s m meth c b 6 xs) (hK : va_K (dC, dI) vwCl [(cI, .int), (cZ, .boolean), (cB, .byte), (cJ, .long), (cM, .object RX2)] s) (hP : va_P (dC, dI) vwCl [(x0, .inr (11, [.ref (u 0), .ref (u 2), .ref (u 3), .ref (u 4), .ref (u 5), .ref (u 10), .ref (u 11), .ref (u 12), .ref (u 98), .ref (u 124)])), (u 98, .inr (2, [.int 0, .int 0, .int 0, .int 0, .int 0, .int 0, .int 0, .int 0, .int 0, .ref (u 99), .ref (u 107), .ref (u 117), .ref (u 122), .ref (u 123)])), (u 107, .inr (1, [.int 0, .ref (u 108), .ref (u 109), .ref (u 110), .ref (u 111), .ref (u 112), .ref (u 113), .ref (u 114), .ref (u 115), .ref (u 116)])), (y0, .inr (12, [.int 0, .ref (v 1), .ref (v 2), .ref (v 3), .ref (v 4), .int 0, .ref (v 6), .int 0, .int 0, .int 0, .int 0, .int 0, .int 0, .int (-1), .ref (v 14), .ref (v 15), .ref (v 16), .ref (v 17), .ref (v 18), .ref (v 19), .ref (v 20), .int 0, .ref (v 22), .int 0, .ref (v 24), .ref (v 25), .int 0, .ref (v 27), .ref (v 28), .ref (v 29), .ref (v 30), .int 0, .int 0, .int 0, .int 0, .int 0, .ref (v 36), .long 0, .ref (v 38), .ref (v 39), .ref (v 40), .ref (v 41)])), (v 1, .inl (cI, 544, .inl (upd (upd (upd (fun _ => 0) 8 1) 9 1) 17 (-1))))] H) (hD : va_D (fun q : Nat => s.heap.size ≤ q) [(x0, .inr (11, [.ref (u 0), .ref (u 2), .ref (u 3), .ref (u 4), .ref (u 5), .ref (u 10), .ref (u 11), .ref (u 12), .ref (u 98), .ref (u 124)])), (u 98, .inr (2, [.int 0, .int 0, .int 0, .int 0, .int 0, .int 0, .int 0, .int 0, .int 0, .ref (u 99), .ref (u 107), .ref (u 117), .ref (u 122), .ref (u 123)])), (u 107, .inr (1, [.int 0, .ref (u 108), .ref (u 109), .ref (u 110), .ref (u 111), .ref (u 112), .ref (u 113), .ref (u 114), .ref (u 115), .ref (u 116)])), (y0, .inr (12, [.int 0, .ref (v 1), .ref (v 2), .ref (v 3), .ref (v 4), .int 0, .ref (v 6), .int 0, .int 0, .int 0, .int 0, .int 0, .int 0, .int (-1), .ref (v 14), .ref (v 15), .ref (v 16), .ref (v 17), .ref (v 18), .ref (v 19), .ref (v 20), .int 0, .ref (v 22), .int 0, .ref (v 24), .ref (v 25), .int 0, .ref (v 27), .ref (v 28), .ref (v 29), .ref (v 30), .int 0, .int 0, .int 0, .int 0, .int 0, .ref (v 36), .long 0, .ref (v 38), .ref (v 39), .ref (v 40), .ref (v 41)])), (v 1, .inl (cI, 544, .inl (upd (upd (upd (fun _ => 0) 8 1) 9 1) 17 (-1))))]) (hS : va_S (fun q : Nat => s.heap.size ≤ q) s.heap H locs) (hl : lv_has ls 4 [(3, .int 0), (2, .ref y0), (1, .ref x0), (0, .ref b)]) : W p l e room_1 s m #[Value.ref b] below meth c H locs 600000 7302250 (lw_Z below #[Value.ref b] s) (F0 m 1281 ls []) := by
  obtain ⟨hx, hb, hr, hml, hown0, hts, hX, hbl, hlocks, hgv⟩ := id C0
  have hb : c.code = cL_law := hb
  have hown : s.vm.findClass RL = some m.cls := hown0
  have hwd : ∀ wd ∈ wsL_law, wd.before #[Value.ref b] s = true := fun w h => hts w (wsL_law_in w h)
  have hA : ∀ q : Nat, s.heap.size ≤ q → (fun q : Nat => s.heap.size ≤ q) q := fun _ h => h
  have hbA : ¬ (fun q : Nat => s.heap.size ≤ q) b := Nat.not_le.mpr hbl
  refine lv_aload_n hx hb dL_law_1281 rfl (lv_at hl 2 rfl) ?_
  refine lv_aload_n hx hb dL_law_1282 rfl (lv_at hl 3 rfl) ?_
  refine lv_iload_n hx hb dL_law_1283 rfl (lv_at hl 0 rfl) ?_
  refine lv_iconst (v := 1) hx hb dL_law_1284 (by decide) ?_
  refine lv_iadd hx hb dL_law_1285 ?_
  refine lv_topi (nm_r (e' := (1)) (by decide +kernel) ?_)
  refine va_sld hx hb hX hbl hbA hS (vin (by decide)) dL_law_1286 ?_
  refine lv_aload_n hx hb dL_law_1287 rfl (lv_at hl 3 rfl) ?_
  refine lv_iload_n hx hb dL_law_1288 rfl (lv_at hl 0 rfl) ?_
  refine lv_iconst (v := 2) hx hb dL_law_1289 (by decide) ?_
  refine lv_iadd hx hb dL_law_1290 ?_
  refine lv_topi (nm_r (e' := (2)) (by decide +kernel) ?_)
  refine va_sld hx hb hX hbl hbA hS (vin (by decide)) dL_law_1291 ?_
  refine lv_aload_n hx hb dL_law_1292 rfl (lv_at hl 3 rfl) ?_
  refine lv_iload_n hx hb dL_law_1293 rfl (lv_at hl 0 rfl) ?_
  refine lv_iconst (v := 3) hx hb dL_law_1294 (by decide) ?_
  refine lv_iadd hx hb dL_law_1295 ?_
  refine lv_topi (nm_r (e' := (3)) (by decide +kernel) ?_)
  refine va_sld hx hb hX hbl hbA hS (vin (by decide)) dL_law_1296 ?_
  refine lv_aload_n hx hb dL_law_1297 rfl (lv_at hl 3 rfl) ?_
  refine lv_iload_n hx hb dL_law_1298 rfl (lv_at hl 0 rfl) ?_
  refine lv_iconst (v := 4) hx hb dL_law_1299 (by decide) ?_
  refine lv_iadd hx hb dL_law_1300 ?_
  refine lv_topi (nm_r (e' := (4)) (by decide +kernel) ?_)
  refine va_sld hx hb hX hbl hbA hS (vin (by decide)) dL_law_1301 ?_
  have hPc := hP.sub (ws' := [(x0, .inr (11, [.ref (u 0), .ref (u 2), .ref (u 3), .ref (u 4), .ref (u 5), .ref (u 10), .ref (u 11), .ref (u 12), .ref (u 98), .ref (u 124)])), (u 98, .inr (2, [.int 0, .int 0, .int 0, .int 0, .int 0, .int 0, .int 0, .int 0, .int 0, .ref (u 99), .ref (u 107), .ref (u 117), .ref (u 122), .ref (u 123)])), (u 107, .inr (1, [.int 0, .ref (u 108), .ref (u 109), .ref (u 110), .ref (u 111), .ref (u 112), .ref (u 113), .ref (u 114), .ref (u 115), .ref (u 116)]))]) [0, 1, 2] rfl
  have hDc := hD.sub (ws' := [(x0, .inr (11, [.ref (u 0), .ref (u 2), .ref (u 3), .ref (u 4), .ref (u 5), .ref (u 10), .ref (u 11), .ref (u 12), .ref (u 98), .ref (u 124)])), (u 98, .inr (2, [.int 0, .int 0, .int 0, .int 0, .int 0, .int 0, .int 0, .int 0, .int 0, .ref (u 99), .ref (u 107), .ref (u 117), .ref (u 122), .ref (u 123)])), (u 107, .inr (1, [.int 0, .ref (u 108), .ref (u 109), .ref (u 110), .ref (u 111), .ref (u 112), .ref (u 113), .ref (u 114), .ref (u 115), .ref (u 116)]))]) [0, 1, 2] (by decide) rfl
  have hFc := va_free (wc := [(x0, .inr (11, [.ref (u 0), .ref (u 2), .ref (u 3), .ref (u 4), .ref (u 5), .ref (u 10), .ref (u 11), .ref (u 12), .ref (u 98), .ref (u 124)])), (u 98, .inr (2, [.int 0, .int 0, .int 0, .int 0, .int 0, .int 0, .int 0, .int 0, .int 0, .ref (u 99), .ref (u 107), .ref (u 117), .ref (u 122), .ref (u 123)])), (u 107, .inr (1, [.int 0, .ref (u 108), .ref (u 109), .ref (u 110), .ref (u 111), .ref (u 112), .ref (u 113), .ref (u 114), .ref (u 115), .ref (u 116)]))]) hD hS hA [0, 1, 2] rfl
  refine va_calli (va_runV (As := [.int (xs (1 : Int32).toNatClampNeg), .int (xs (2 : Int32).toNatClampNeg), .int (xs (3 : Int32).toNatClampNeg), .int (xs (4 : Int32).toNatClampNeg)]) (rest := []) ⟨hx, hb, hml, hown, hwd⟩ (c_X11_guess l dC dI cI cZ cB cJ cM x0 (u 0) (u 2) (u 3) (u 4) (u 5) (u 10) (u 11) (u 12) (u 98) (u 124) (u 99) (u 107) (u 117) (u 122) (u 123) (u 108) (u 109) (u 110) (u 111) (u 112) (u 113) (u 114) (u 115) (u 116) (xs (1 : Int32).toNatClampNeg) (xs (2 : Int32).toNatClampNeg) (xs (3 : Int32).toNatClampNeg) (xs (4 : Int32).toNatClampNeg) H.size) (cwV 4 hwd (gV kr30_4 kr30_5 kr30_6 kr1_2 kr30_7) rfl rfl rfl (by decide +kernel) ⟨Nat.le_of_ble_eq_true rfl, Nat.le_of_ble_eq_true rfl⟩) (kPreV hPc hK hDc (ci := 11) (q0 := 0) rfl rfl) rfl rfl hl.1 rfl (lv_room (Nat.le_of_ble_eq_true rfl)) dL_law_1302 ⟨Nat.le_of_ble_eq_true rfl, Nat.le_of_ble_eq_true rfl⟩) hS (fun q _ h => hFc q h) hFc (fun r1 u2 t H1 locs ht9 hvm hw hB hz1 hk1 hS => ?_)
  obtain ⟨hP, hD⟩ := va_join (wr := [(y0, .inr (12, [.int 0, .ref (v 1), .ref (v 2), .ref (v 3), .ref (v 4), .int 0, .ref (v 6), .int 0, .int 0, .int 0, .int 0, .int 0, .int 0, .int (-1), .ref (v 14), .ref (v 15), .ref (v 16), .ref (v 17), .ref (v 18), .ref (v 19), .ref (v 20), .int 0, .ref (v 22), .int 0, .ref (v 24), .ref (v 25), .int 0, .ref (v 27), .ref (v 28), .ref (v 29), .ref (v 30), .int 0, .int 0, .int 0, .int 0, .int 0, .ref (v 36), .long 0, .ref (v 38), .ref (v 39), .ref (v 40), .ref (v 41)])), (v 1, .inl (cI, 544, .inl (upd (upd (upd (fun _ => 0) 8 1) 9 1) 17 (-1))))]) (w1 := []) hP hD [0, 1, 2] [3, 4] rfl rfl (by decide) (by decide) hk1 hFc kP0 kD0
  generalize H1 = H at hP hS ⊢
  have hP : va_P (dC, dI) vwCl [(y0, .inr (12, [.int 0, .ref (v 1), .ref (v 2), .ref (v 3), .ref (v 4), .int 0, .ref (v 6), .int 0, .int 0, .int 0, .int 0, .int 0, .int 0, .int (-1), .ref (v 14), .ref (v 15), .ref (v 16), .ref (v 17), .ref (v 18), .ref (v 19), .ref (v 20), .int 0, .ref (v 22), .int 0, .ref (v 24), .ref (v 25), .int 0, .ref (v 27), .ref (v 28), .ref (v 29), .ref (v 30), .int 0, .int 0, .int 0, .int 0, .int 0, .ref (v 36), .long 0, .ref (v 38), .ref (v 39), .ref (v 40), .ref (v 41)])), (v 1, .inl (cI, 544, .inl (upd (upd (upd (fun _ => 0) 8 1) 9 1) 17 (-1))))] H := hP
  have hD : va_D (fun q : Nat => s.heap.size ≤ q) [(y0, .inr (12, [.int 0, .ref (v 1), .ref (v 2), .ref (v 3), .ref (v 4), .int 0, .ref (v 6), .int 0, .int 0, .int 0, .int 0, .int 0, .int 0, .int (-1), .ref (v 14), .ref (v 15), .ref (v 16), .ref (v 17), .ref (v 18), .ref (v 19), .ref (v 20), .int 0, .ref (v 22), .int 0, .ref (v 24), .ref (v 25), .int 0, .ref (v 27), .ref (v 28), .ref (v 29), .ref (v 30), .int 0, .int 0, .int 0, .int 0, .int 0, .ref (v 36), .long 0, .ref (v 38), .ref (v 39), .ref (v 40), .ref (v 41)])), (v 1, .inl (cI, 544, .inl (upd (upd (upd (fun _ => 0) 8 1) 9 1) 17 (-1))))] := hD
  subst hw
  refine lv_aload_n hx hb dL_law_1305 rfl (lv_at hl 1 rfl) ?_
  refine lv_aload_n hx hb dL_law_1306 rfl (lv_at hl 3 rfl) ?_
  refine lv_iload_n hx hb dL_law_1307 rfl (lv_at hl 0 rfl) ?_
  refine lv_iconst (v := 1) hx hb dL_law_1308 (by decide) ?_
  refine lv_iadd hx hb dL_law_1309 ?_
  refine lv_topi (nm_r (e' := (1)) (by decide +kernel) ?_)
  refine va_sld hx hb hX hbl hbA hS (vin (by decide)) dL_law_1310 ?_
  refine lv_aload_n hx hb dL_law_1311 rfl (lv_at hl 3 rfl) ?_
  refine lv_iload_n hx hb dL_law_1312 rfl (lv_at hl 0 rfl) ?_
  refine lv_iconst (v := 2) hx hb dL_law_1313 (by decide) ?_
  refine lv_iadd hx hb dL_law_1314 ?_
  refine lv_topi (nm_r (e' := (2)) (by decide +kernel) ?_)
  refine va_sld hx hb hX hbl hbA hS (vin (by decide)) dL_law_1315 ?_
  refine lv_aload_n hx hb dL_law_1316 rfl (lv_at hl 3 rfl) ?_
  refine lv_iload_n hx hb dL_law_1317 rfl (lv_at hl 0 rfl) ?_
  refine lv_iconst (v := 3) hx hb dL_law_1318 (by decide) ?_
  refine lv_iadd hx hb dL_law_1319 ?_
  refine lv_topi (nm_r (e' := (3)) (by decide +kernel) ?_)
  refine va_sld hx hb hX hbl hbA hS (vin (by decide)) dL_law_1320 ?_
  refine lv_aload_n hx hb dL_law_1321 rfl (lv_at hl 3 rfl) ?_
  refine lv_iload_n hx hb dL_law_1322 rfl (lv_at hl 0 rfl) ?_
  refine lv_iconst (v := 4) hx hb dL_law_1323 (by decide) ?_
  refine lv_iadd hx hb dL_law_1324 ?_
  refine lv_topi (nm_r (e' := (4)) (by decide +kernel) ?_)
  refine va_sld hx hb hX hbl hbA hS (vin (by decide)) dL_law_1325 ?_
  have hPc := hP.sub (ws' := [(y0, .inr (12, [.int 0, .ref (v 1), .ref (v 2), .ref (v 3), .ref (v 4), .int 0, .ref (v 6), .int 0, .int 0, .int 0, .int 0, .int 0, .int 0, .int (-1), .ref (v 14), .ref (v 15), .ref (v 16), .ref (v 17), .ref (v 18), .ref (v 19), .ref (v 20), .int 0, .ref (v 22), .int 0, .ref (v 24), .ref (v 25), .int 0, .ref (v 27), .ref (v 28), .ref (v 29), .ref (v 30), .int 0, .int 0, .int 0, .int 0, .int 0, .ref (v 36), .long 0, .ref (v 38), .ref (v 39), .ref (v 40), .ref (v 41)])), (v 1, .inl (cI, 544, .inl (upd (upd (upd (fun _ => 0) 8 1) 9 1) 17 (-1))))]) [0, 1] rfl
  have hDc := hD.sub (ws' := [(y0, .inr (12, [.int 0, .ref (v 1), .ref (v 2), .ref (v 3), .ref (v 4), .int 0, .ref (v 6), .int 0, .int 0, .int 0, .int 0, .int 0, .int 0, .int (-1), .ref (v 14), .ref (v 15), .ref (v 16), .ref (v 17), .ref (v 18), .ref (v 19), .ref (v 20), .int 0, .ref (v 22), .int 0, .ref (v 24), .ref (v 25), .int 0, .ref (v 27), .ref (v 28), .ref (v 29), .ref (v 30), .int 0, .int 0, .int 0, .int 0, .int 0, .ref (v 36), .long 0, .ref (v 38), .ref (v 39), .ref (v 40), .ref (v 41)])), (v 1, .inl (cI, 544, .inl (upd (upd (upd (fun _ => 0) 8 1) 9 1) 17 (-1))))]) [0, 1] (by decide) rfl
  have hFc := va_free (wc := [(y0, .inr (12, [.int 0, .ref (v 1), .ref (v 2), .ref (v 3), .ref (v 4), .int 0, .ref (v 6), .int 0, .int 0, .int 0, .int 0, .int 0, .int 0, .int (-1), .ref (v 14), .ref (v 15), .ref (v 16), .ref (v 17), .ref (v 18), .ref (v 19), .ref (v 20), .int 0, .ref (v 22), .int 0, .ref (v 24), .ref (v 25), .int 0, .ref (v 27), .ref (v 28), .ref (v 29), .ref (v 30), .int 0, .int 0, .int 0, .int 0, .int 0, .ref (v 36), .long 0, .ref (v 38), .ref (v 39), .ref (v 40), .ref (v 41)])), (v 1, .inl (cI, 544, .inl (upd (upd (upd (fun _ => 0) 8 1) 9 1) 17 (-1))))]) hD hS hA [0, 1] rfl
  refine va_calli (va_runV (As := [.int (xs (1 : Int32).toNatClampNeg), .int (xs (2 : Int32).toNatClampNeg), .int (xs (3 : Int32).toNatClampNeg), .int (xs (4 : Int32).toNatClampNeg)]) (rest := [.int (-2)]) ⟨hx, hb, hml, hown, hwd⟩ (c_X12_guess l dC dI cI cZ cB cJ cM y0 v (xs (1 : Int32).toNatClampNeg) (xs (2 : Int32).toNatClampNeg) (xs (3 : Int32).toNatClampNeg) (xs (4 : Int32).toNatClampNeg) H.size) (cwV 4 hwd (gV kr30_8 kr30_9 kr30_10 kr1_5 kr30_11) rfl rfl rfl (by decide +kernel) ⟨Nat.le_of_ble_eq_true rfl, Nat.le_of_ble_eq_true rfl⟩) (kPreV hPc hK hDc (ci := 12) (q0 := 0) rfl rfl) rfl rfl hl.1 rfl (lv_room (Nat.le_of_ble_eq_true rfl)) dL_law_1326 ⟨Nat.le_of_ble_eq_true rfl, Nat.le_of_ble_eq_true rfl⟩) hS (fun q _ h => hFc q h) hFc (fun r3 u4 t H1 locs ht9 hvm hw hB hz1 hk1 hS => ?_)
  obtain ⟨hP, hD⟩ := va_join (wr := []) (w1 := []) hP hD [0, 1] [] rfl rfl (by decide) (by decide) hk1 hFc kP0 kD0
  generalize H1 = H at hP hS ⊢
  have hP : va_P (dC, dI) vwCl [] H := hP
  have hD : va_D (fun q : Nat => s.heap.size ≤ q) [] := hD
  subst hw
  refine lv_icmp_eq (tgt := 1731) hx hb dL_law_1329 (by decide) (fun c5 => ?_) (fun c5 => absurd c5 (by decide))
  exact law_tail C0 hS (lv_sub hl [3, 0] rfl)
set_option maxHeartbeats 4000000 in
set_option maxRecDepth 100000 in
/-- the call of margin on two fresh objects -/
theorem lcase_39 {p : Program} {l : Launch} {e : Env} {s : State} {m : MethodId} {below : List Frame} {meth : Method} {c : Code} {b : Nat} {xs : Nat → Int32} {dC : Nat → ClassId} {dI : Nat → Nat → Nat} {cI cZ cB cJ cM : ClassId} (x0 y0 : Nat) (u v : Nat → Nat) {H : Heap} {locs : List Loc} {ls : Array Slot} (C0 : lw_At p s m meth c b 6 xs) (hK : va_K (dC, dI) vwCl [(cI, .int), (cZ, .boolean), (cB, .byte), (cJ, .long), (cM, .object RX2)] s) (hP : va_P (dC, dI) vwCl [(x0, .inr (11, [.ref (u 0), .ref (u 2), .ref (u 3), .ref (u 4), .ref (u 5), .ref (u 10), .ref (u 11), .ref (u 12), .ref (u 98), .ref (u 124)])), (u 98, .inr (2, [.int 0, .int 0, .int 0, .int 0, .int 0, .int 0, .int 0, .int 0, .int 0, .ref (u 99), .ref (u 107), .ref (u 117), .ref (u 122), .ref (u 123)])), (u 99, .inr (3, [.int 0, .ref (u 100), .ref (u 101), .ref (u 102), .ref (u 103), .ref (u 104), .ref (u 105), .ref (u 106)])), (y0, .inr (12, [.int 0, .ref (v 1), .ref (v 2), .ref (v 3), .ref (v 4), .int 0, .ref (v 6), .int 0, .int 0, .int 0, .int 0, .int 0, .int 0, .int (-1), .ref (v 14), .ref (v 15), .ref (v 16), .ref (v 17), .ref (v 18), .ref (v 19), .ref (v 20), .int 0, .ref (v 22), .int 0, .ref (v 24), .ref (v 25), .int 0, .ref (v 27), .ref (v 28), .ref (v 29), .ref (v 30), .int 0, .int 0, .int 0, .int 0, .int 0, .ref (v 36), .long 0, .ref (v 38), .ref (v 39), .ref (v 40), .ref (v 41)])), (v 1, .inl (cI, 544, .inl (upd (upd (upd (fun _ => 0) 8 1) 9 1) 17 (-1))))] H) (hD : va_D (fun q : Nat => s.heap.size ≤ q) [(x0, .inr (11, [.ref (u 0), .ref (u 2), .ref (u 3), .ref (u 4), .ref (u 5), .ref (u 10), .ref (u 11), .ref (u 12), .ref (u 98), .ref (u 124)])), (u 98, .inr (2, [.int 0, .int 0, .int 0, .int 0, .int 0, .int 0, .int 0, .int 0, .int 0, .ref (u 99), .ref (u 107), .ref (u 117), .ref (u 122), .ref (u 123)])), (u 99, .inr (3, [.int 0, .ref (u 100), .ref (u 101), .ref (u 102), .ref (u 103), .ref (u 104), .ref (u 105), .ref (u 106)])), (y0, .inr (12, [.int 0, .ref (v 1), .ref (v 2), .ref (v 3), .ref (v 4), .int 0, .ref (v 6), .int 0, .int 0, .int 0, .int 0, .int 0, .int 0, .int (-1), .ref (v 14), .ref (v 15), .ref (v 16), .ref (v 17), .ref (v 18), .ref (v 19), .ref (v 20), .int 0, .ref (v 22), .int 0, .ref (v 24), .ref (v 25), .int 0, .ref (v 27), .ref (v 28), .ref (v 29), .ref (v 30), .int 0, .int 0, .int 0, .int 0, .int 0, .ref (v 36), .long 0, .ref (v 38), .ref (v 39), .ref (v 40), .ref (v 41)])), (v 1, .inl (cI, 544, .inl (upd (upd (upd (fun _ => 0) 8 1) 9 1) 17 (-1))))]) (hS : va_S (fun q : Nat => s.heap.size ≤ q) s.heap H locs) (hl : lv_has ls 4 [(3, .int 0), (2, .ref y0), (1, .ref x0), (0, .ref b)]) : W p l e room_1 s m #[Value.ref b] below meth c H locs 600000 7302250 (lw_Z below #[Value.ref b] s) (F0 m 1334 ls []) := by
  obtain ⟨hx, hb, hr, hml, hown0, hts, hX, hbl, hlocks, hgv⟩ := id C0
  have hb : c.code = cL_law := hb
  have hown : s.vm.findClass RL = some m.cls := hown0
  have hwd : ∀ wd ∈ wsL_law, wd.before #[Value.ref b] s = true := fun w h => hts w (wsL_law_in w h)
  have hA : ∀ q : Nat, s.heap.size ≤ q → (fun q : Nat => s.heap.size ≤ q) q := fun _ h => h
  have hbA : ¬ (fun q : Nat => s.heap.size ≤ q) b := Nat.not_le.mpr hbl
  refine lv_aload_n hx hb dL_law_1334 rfl (lv_at hl 2 rfl) ?_
  refine lv_aload_n hx hb dL_law_1335 rfl (lv_at hl 3 rfl) ?_
  refine lv_iload_n hx hb dL_law_1336 rfl (lv_at hl 0 rfl) ?_
  refine lv_iconst (v := 1) hx hb dL_law_1337 (by decide) ?_
  refine lv_iadd hx hb dL_law_1338 ?_
  refine lv_topi (nm_r (e' := (1)) (by decide +kernel) ?_)
  refine va_sld hx hb hX hbl hbA hS (vin (by decide)) dL_law_1339 ?_
  refine lv_aload_n hx hb dL_law_1340 rfl (lv_at hl 3 rfl) ?_
  refine lv_iload_n hx hb dL_law_1341 rfl (lv_at hl 0 rfl) ?_
  refine lv_iconst (v := 2) hx hb dL_law_1342 (by decide) ?_
  refine lv_iadd hx hb dL_law_1343 ?_
  refine lv_topi (nm_r (e' := (2)) (by decide +kernel) ?_)
  refine va_sld hx hb hX hbl hbA hS (vin (by decide)) dL_law_1344 ?_
  refine lv_aload_n hx hb dL_law_1345 rfl (lv_at hl 3 rfl) ?_
  refine lv_iload_n hx hb dL_law_1346 rfl (lv_at hl 0 rfl) ?_
  refine lv_iconst (v := 3) hx hb dL_law_1347 (by decide) ?_
  refine lv_iadd hx hb dL_law_1348 ?_
  refine lv_topi (nm_r (e' := (3)) (by decide +kernel) ?_)
  refine va_sld hx hb hX hbl hbA hS (vin (by decide)) dL_law_1349 ?_
  have hPc := hP.sub (ws' := [(x0, .inr (11, [.ref (u 0), .ref (u 2), .ref (u 3), .ref (u 4), .ref (u 5), .ref (u 10), .ref (u 11), .ref (u 12), .ref (u 98), .ref (u 124)])), (u 98, .inr (2, [.int 0, .int 0, .int 0, .int 0, .int 0, .int 0, .int 0, .int 0, .int 0, .ref (u 99), .ref (u 107), .ref (u 117), .ref (u 122), .ref (u 123)])), (u 99, .inr (3, [.int 0, .ref (u 100), .ref (u 101), .ref (u 102), .ref (u 103), .ref (u 104), .ref (u 105), .ref (u 106)]))]) [0, 1, 2] rfl
  have hDc := hD.sub (ws' := [(x0, .inr (11, [.ref (u 0), .ref (u 2), .ref (u 3), .ref (u 4), .ref (u 5), .ref (u 10), .ref (u 11), .ref (u 12), .ref (u 98), .ref (u 124)])), (u 98, .inr (2, [.int 0, .int 0, .int 0, .int 0, .int 0, .int 0, .int 0, .int 0, .int 0, .ref (u 99), .ref (u 107), .ref (u 117), .ref (u 122), .ref (u 123)])), (u 99, .inr (3, [.int 0, .ref (u 100), .ref (u 101), .ref (u 102), .ref (u 103), .ref (u 104), .ref (u 105), .ref (u 106)]))]) [0, 1, 2] (by decide) rfl
  have hFc := va_free (wc := [(x0, .inr (11, [.ref (u 0), .ref (u 2), .ref (u 3), .ref (u 4), .ref (u 5), .ref (u 10), .ref (u 11), .ref (u 12), .ref (u 98), .ref (u 124)])), (u 98, .inr (2, [.int 0, .int 0, .int 0, .int 0, .int 0, .int 0, .int 0, .int 0, .int 0, .ref (u 99), .ref (u 107), .ref (u 117), .ref (u 122), .ref (u 123)])), (u 99, .inr (3, [.int 0, .ref (u 100), .ref (u 101), .ref (u 102), .ref (u 103), .ref (u 104), .ref (u 105), .ref (u 106)]))]) hD hS hA [0, 1, 2] rfl
  refine va_calli (va_runV (As := [.int (xs (1 : Int32).toNatClampNeg), .int (xs (2 : Int32).toNatClampNeg), .int (xs (3 : Int32).toNatClampNeg)]) (rest := []) ⟨hx, hb, hml, hown, hwd⟩ (c_X11_margin l dC dI cI cZ cB cJ cM x0 (u 0) (u 2) (u 3) (u 4) (u 5) (u 10) (u 11) (u 12) (u 98) (u 124) (u 99) (u 107) (u 117) (u 122) (u 123) (u 100) (u 101) (u 102) (u 103) (u 104) (u 105) (u 106) (xs (1 : Int32).toNatClampNeg) (xs (2 : Int32).toNatClampNeg) (xs (3 : Int32).toNatClampNeg) H.size) (cwV 3 hwd (gV kr30_12 kr30_13 kr30_14 kr1_2 kr30_15) rfl rfl rfl (by decide +kernel) ⟨Nat.le_of_ble_eq_true rfl, Nat.le_of_ble_eq_true rfl⟩) (kPreV hPc hK hDc (ci := 11) (q0 := 0) rfl rfl) rfl rfl hl.1 rfl (lv_room (Nat.le_of_ble_eq_true rfl)) dL_law_1350 ⟨Nat.le_of_ble_eq_true rfl, Nat.le_of_ble_eq_true rfl⟩) hS (fun q _ h => hFc q h) hFc (fun r1 u2 t H1 locs ht9 hvm hw hB hz1 hk1 hS => ?_)
  obtain ⟨hP, hD⟩ := va_join (wr := [(y0, .inr (12, [.int 0, .ref (v 1), .ref (v 2), .ref (v 3), .ref (v 4), .int 0, .ref (v 6), .int 0, .int 0, .int 0, .int 0, .int 0, .int 0, .int (-1), .ref (v 14), .ref (v 15), .ref (v 16), .ref (v 17), .ref (v 18), .ref (v 19), .ref (v 20), .int 0, .ref (v 22), .int 0, .ref (v 24), .ref (v 25), .int 0, .ref (v 27), .ref (v 28), .ref (v 29), .ref (v 30), .int 0, .int 0, .int 0, .int 0, .int 0, .ref (v 36), .long 0, .ref (v 38), .ref (v 39), .ref (v 40), .ref (v 41)])), (v 1, .inl (cI, 544, .inl (upd (upd (upd (fun _ => 0) 8 1) 9 1) 17 (-1))))]) (w1 := []) hP hD [0, 1, 2] [3, 4] rfl rfl (by decide) (by decide) hk1 hFc kP0 kD0
  generalize H1 = H at hP hS ⊢
  have hP : va_P (dC, dI) vwCl [(y0, .inr (12, [.int 0, .ref (v 1), .ref (v 2), .ref (v 3), .ref (v 4), .int 0, .ref (v 6), .int 0, .int 0, .int 0, .int 0, .int 0, .int 0, .int (-1), .ref (v 14), .ref (v 15), .ref (v 16), .ref (v 17), .ref (v 18), .ref (v 19), .ref (v 20), .int 0, .ref (v 22), .int 0, .ref (v 24), .ref (v 25), .int 0, .ref (v 27), .ref (v 28), .ref (v 29), .ref (v 30), .int 0, .int 0, .int 0, .int 0, .int 0, .ref (v 36), .long 0, .ref (v 38), .ref (v 39), .ref (v 40), .ref (v 41)])), (v 1, .inl (cI, 544, .inl (upd (upd (upd (fun _ => 0) 8 1) 9 1) 17 (-1))))] H := hP
  have hD : va_D (fun q : Nat => s.heap.size ≤ q) [(y0, .inr (12, [.int 0, .ref (v 1), .ref (v 2), .ref (v 3), .ref (v 4), .int 0, .ref (v 6), .int 0, .int 0, .int 0, .int 0, .int 0, .int 0, .int (-1), .ref (v 14), .ref (v 15), .ref (v 16), .ref (v 17), .ref (v 18), .ref (v 19), .ref (v 20), .int 0, .ref (v 22), .int 0, .ref (v 24), .ref (v 25), .int 0, .ref (v 27), .ref (v 28), .ref (v 29), .ref (v 30), .int 0, .int 0, .int 0, .int 0, .int 0, .ref (v 36), .long 0, .ref (v 38), .ref (v 39), .ref (v 40), .ref (v 41)])), (v 1, .inl (cI, 544, .inl (upd (upd (upd (fun _ => 0) 8 1) 9 1) 17 (-1))))] := hD
  subst hw
  refine lv_aload_n hx hb dL_law_1353 rfl (lv_at hl 1 rfl) ?_
  refine lv_aload_n hx hb dL_law_1354 rfl (lv_at hl 3 rfl) ?_
  refine lv_iload_n hx hb dL_law_1355 rfl (lv_at hl 0 rfl) ?_
  refine lv_iconst (v := 1) hx hb dL_law_1356 (by decide) ?_
  refine lv_iadd hx hb dL_law_1357 ?_
  refine lv_topi (nm_r (e' := (1)) (by decide +kernel) ?_)
  refine va_sld hx hb hX hbl hbA hS (vin (by decide)) dL_law_1358 ?_
  refine lv_aload_n hx hb dL_law_1359 rfl (lv_at hl 3 rfl) ?_
  refine lv_iload_n hx hb dL_law_1360 rfl (lv_at hl 0 rfl) ?_
  refine lv_iconst (v := 2) hx hb dL_law_1361 (by decide) ?_
  refine lv_iadd hx hb dL_law_1362 ?_
  refine lv_topi (nm_r (e' := (2)) (by decide +kernel) ?_)
  refine va_sld hx hb hX hbl hbA hS (vin (by decide)) dL_law_1363 ?_
  refine lv_aload_n hx hb dL_law_1364 rfl (lv_at hl 3 rfl) ?_
  refine lv_iload_n hx hb dL_law_1365 rfl (lv_at hl 0 rfl) ?_
  refine lv_iconst (v := 3) hx hb dL_law_1366 (by decide) ?_
  refine lv_iadd hx hb dL_law_1367 ?_
  refine lv_topi (nm_r (e' := (3)) (by decide +kernel) ?_)
  refine va_sld hx hb hX hbl hbA hS (vin (by decide)) dL_law_1368 ?_
  have hPc := hP.sub (ws' := [(y0, .inr (12, [.int 0, .ref (v 1), .ref (v 2), .ref (v 3), .ref (v 4), .int 0, .ref (v 6), .int 0, .int 0, .int 0, .int 0, .int 0, .int 0, .int (-1), .ref (v 14), .ref (v 15), .ref (v 16), .ref (v 17), .ref (v 18), .ref (v 19), .ref (v 20), .int 0, .ref (v 22), .int 0, .ref (v 24), .ref (v 25), .int 0, .ref (v 27), .ref (v 28), .ref (v 29), .ref (v 30), .int 0, .int 0, .int 0, .int 0, .int 0, .ref (v 36), .long 0, .ref (v 38), .ref (v 39), .ref (v 40), .ref (v 41)])), (v 1, .inl (cI, 544, .inl (upd (upd (upd (fun _ => 0) 8 1) 9 1) 17 (-1))))]) [0, 1] rfl
  have hDc := hD.sub (ws' := [(y0, .inr (12, [.int 0, .ref (v 1), .ref (v 2), .ref (v 3), .ref (v 4), .int 0, .ref (v 6), .int 0, .int 0, .int 0, .int 0, .int 0, .int 0, .int (-1), .ref (v 14), .ref (v 15), .ref (v 16), .ref (v 17), .ref (v 18), .ref (v 19), .ref (v 20), .int 0, .ref (v 22), .int 0, .ref (v 24), .ref (v 25), .int 0, .ref (v 27), .ref (v 28), .ref (v 29), .ref (v 30), .int 0, .int 0, .int 0, .int 0, .int 0, .ref (v 36), .long 0, .ref (v 38), .ref (v 39), .ref (v 40), .ref (v 41)])), (v 1, .inl (cI, 544, .inl (upd (upd (upd (fun _ => 0) 8 1) 9 1) 17 (-1))))]) [0, 1] (by decide) rfl
  have hFc := va_free (wc := [(y0, .inr (12, [.int 0, .ref (v 1), .ref (v 2), .ref (v 3), .ref (v 4), .int 0, .ref (v 6), .int 0, .int 0, .int 0, .int 0, .int 0, .int 0, .int (-1), .ref (v 14), .ref (v 15), .ref (v 16), .ref (v 17), .ref (v 18), .ref (v 19), .ref (v 20), .int 0, .ref (v 22), .int 0, .ref (v 24), .ref (v 25), .int 0, .ref (v 27), .ref (v 28), .ref (v 29), .ref (v 30), .int 0, .int 0, .int 0, .int 0, .int 0, .ref (v 36), .long 0, .ref (v 38), .ref (v 39), .ref (v 40), .ref (v 41)])), (v 1, .inl (cI, 544, .inl (upd (upd (upd (fun _ => 0) 8 1) 9 1) 17 (-1))))]) hD hS hA [0, 1] rfl
  refine va_calli (va_runV (As := [.int (xs (1 : Int32).toNatClampNeg), .int (xs (2 : Int32).toNatClampNeg), .int (xs (3 : Int32).toNatClampNeg)]) (rest := [.int (-2)]) ⟨hx, hb, hml, hown, hwd⟩ (c_X12_margin l dC dI cI cZ cB cJ cM y0 v (xs (1 : Int32).toNatClampNeg) (xs (2 : Int32).toNatClampNeg) (xs (3 : Int32).toNatClampNeg) H.size) (cwV 3 hwd (gV kr30_16 kr30_17 kr30_18 kr1_5 kr30_19) rfl rfl rfl (by decide +kernel) ⟨Nat.le_of_ble_eq_true rfl, Nat.le_of_ble_eq_true rfl⟩) (kPreV hPc hK hDc (ci := 12) (q0 := 0) rfl rfl) rfl rfl hl.1 rfl (lv_room (Nat.le_of_ble_eq_true rfl)) dL_law_1369 ⟨Nat.le_of_ble_eq_true rfl, Nat.le_of_ble_eq_true rfl⟩) hS (fun q _ h => hFc q h) hFc (fun r3 u4 t H1 locs ht9 hvm hw hB hz1 hk1 hS => ?_)
  obtain ⟨hP, hD⟩ := va_join (wr := []) (w1 := []) hP hD [0, 1] [] rfl rfl (by decide) (by decide) hk1 hFc kP0 kD0
  generalize H1 = H at hP hS ⊢
  have hP : va_P (dC, dI) vwCl [] H := hP
  have hD : va_D (fun q : Nat => s.heap.size ≤ q) [] := hD
  subst hw
  refine lv_icmp_eq (tgt := 1731) hx hb dL_law_1372 (by decide) (fun c5 => ?_) (fun c5 => absurd c5 (by decide))
  exact law_tail C0 hS (lv_sub hl [3, 0] rfl)
set_option maxHeartbeats 4000000 in
set_option maxRecDepth 100000 in
/-- the call of years on two fresh objects -/
theorem lcase_40 {p : Program} {l : Launch} {e : Env} {s : State} {m : MethodId} {below : List Frame} {meth : Method} {c : Code} {b : Nat} {xs : Nat → Int32} {dC : Nat → ClassId} {dI : Nat → Nat → Nat} {cI cZ cB cJ cM : ClassId} (x0 y0 : Nat) (u v : Nat → Nat) {H : Heap} {locs : List Loc} {ls : Array Slot} (C0 : lw_At p s m meth c b 6 xs) (hK : va_K (dC, dI) vwCl [(cI, .int), (cZ, .boolean), (cB, .byte), (cJ, .long), (cM, .object RX2)] s) (hP : va_P (dC, dI) vwCl [(x0, .inr (11, [.ref (u 0), .ref (u 2), .ref (u 3), .ref (u 4), .ref (u 5), .ref (u 10), .ref (u 11), .ref (u 12), .ref (u 98), .ref (u 124)])), (u 98, .inr (2, [.int 0, .int 0, .int 0, .int 0, .int 0, .int 0, .int 0, .int 0, .int 0, .ref (u 99), .ref (u 107), .ref (u 117), .ref (u 122), .ref (u 123)])), (y0, .inr (12, [.int 0, .ref (v 1), .ref (v 2), .ref (v 3), .ref (v 4), .int 0, .ref (v 6), .int 0, .int 0, .int 0, .int 0, .int 0, .int 0, .int (-1), .ref (v 14), .ref (v 15), .ref (v 16), .ref (v 17), .ref (v 18), .ref (v 19), .ref (v 20), .int 0, .ref (v 22), .int 0, .ref (v 24), .ref (v 25), .int 0, .ref (v 27), .ref (v 28), .ref (v 29), .ref (v 30), .int 0, .int 0, .int 0, .int 0, .int 0, .ref (v 36), .long 0, .ref (v 38), .ref (v 39), .ref (v 40), .ref (v 41)])), (v 1, .inl (cI, 544, .inl (upd (upd (upd (fun _ => 0) 8 1) 9 1) 17 (-1))))] H) (hD : va_D (fun q : Nat => s.heap.size ≤ q) [(x0, .inr (11, [.ref (u 0), .ref (u 2), .ref (u 3), .ref (u 4), .ref (u 5), .ref (u 10), .ref (u 11), .ref (u 12), .ref (u 98), .ref (u 124)])), (u 98, .inr (2, [.int 0, .int 0, .int 0, .int 0, .int 0, .int 0, .int 0, .int 0, .int 0, .ref (u 99), .ref (u 107), .ref (u 117), .ref (u 122), .ref (u 123)])), (y0, .inr (12, [.int 0, .ref (v 1), .ref (v 2), .ref (v 3), .ref (v 4), .int 0, .ref (v 6), .int 0, .int 0, .int 0, .int 0, .int 0, .int 0, .int (-1), .ref (v 14), .ref (v 15), .ref (v 16), .ref (v 17), .ref (v 18), .ref (v 19), .ref (v 20), .int 0, .ref (v 22), .int 0, .ref (v 24), .ref (v 25), .int 0, .ref (v 27), .ref (v 28), .ref (v 29), .ref (v 30), .int 0, .int 0, .int 0, .int 0, .int 0, .ref (v 36), .long 0, .ref (v 38), .ref (v 39), .ref (v 40), .ref (v 41)])), (v 1, .inl (cI, 544, .inl (upd (upd (upd (fun _ => 0) 8 1) 9 1) 17 (-1))))]) (hS : va_S (fun q : Nat => s.heap.size ≤ q) s.heap H locs) (hl : lv_has ls 4 [(3, .int 0), (2, .ref y0), (1, .ref x0), (0, .ref b)]) : W p l e room_1 s m #[Value.ref b] below meth c H locs 600000 7302250 (lw_Z below #[Value.ref b] s) (F0 m 1377 ls []) := by
  obtain ⟨hx, hb, hr, hml, hown0, hts, hX, hbl, hlocks, hgv⟩ := id C0
  have hb : c.code = cL_law := hb
  have hown : s.vm.findClass RL = some m.cls := hown0
  have hwd : ∀ wd ∈ wsL_law, wd.before #[Value.ref b] s = true := fun w h => hts w (wsL_law_in w h)
  have hA : ∀ q : Nat, s.heap.size ≤ q → (fun q : Nat => s.heap.size ≤ q) q := fun _ h => h
  have hbA : ¬ (fun q : Nat => s.heap.size ≤ q) b := Nat.not_le.mpr hbl
  refine lv_aload_n hx hb dL_law_1377 rfl (lv_at hl 2 rfl) ?_
  refine lv_aload_n hx hb dL_law_1378 rfl (lv_at hl 3 rfl) ?_
  refine lv_iload_n hx hb dL_law_1379 rfl (lv_at hl 0 rfl) ?_
  refine lv_iconst (v := 1) hx hb dL_law_1380 (by decide) ?_
  refine lv_iadd hx hb dL_law_1381 ?_
  refine lv_topi (nm_r (e' := (1)) (by decide +kernel) ?_)
  refine va_sld hx hb hX hbl hbA hS (vin (by decide)) dL_law_1382 ?_
  refine lv_aload_n hx hb dL_law_1383 rfl (lv_at hl 3 rfl) ?_
  refine lv_iload_n hx hb dL_law_1384 rfl (lv_at hl 0 rfl) ?_
  refine lv_iconst (v := 2) hx hb dL_law_1385 (by decide) ?_
  refine lv_iadd hx hb dL_law_1386 ?_
  refine lv_topi (nm_r (e' := (2)) (by decide +kernel) ?_)
  refine va_sld hx hb hX hbl hbA hS (vin (by decide)) dL_law_1387 ?_
  refine lv_aload_n hx hb dL_law_1388 rfl (lv_at hl 3 rfl) ?_
  refine lv_iload_n hx hb dL_law_1389 rfl (lv_at hl 0 rfl) ?_
  refine lv_iconst (v := 3) hx hb dL_law_1390 (by decide) ?_
  refine lv_iadd hx hb dL_law_1391 ?_
  refine lv_topi (nm_r (e' := (3)) (by decide +kernel) ?_)
  refine va_sld hx hb hX hbl hbA hS (vin (by decide)) dL_law_1392 ?_
  have hPc := hP.sub (ws' := [(x0, .inr (11, [.ref (u 0), .ref (u 2), .ref (u 3), .ref (u 4), .ref (u 5), .ref (u 10), .ref (u 11), .ref (u 12), .ref (u 98), .ref (u 124)])), (u 98, .inr (2, [.int 0, .int 0, .int 0, .int 0, .int 0, .int 0, .int 0, .int 0, .int 0, .ref (u 99), .ref (u 107), .ref (u 117), .ref (u 122), .ref (u 123)]))]) [0, 1] rfl
  have hDc := hD.sub (ws' := [(x0, .inr (11, [.ref (u 0), .ref (u 2), .ref (u 3), .ref (u 4), .ref (u 5), .ref (u 10), .ref (u 11), .ref (u 12), .ref (u 98), .ref (u 124)])), (u 98, .inr (2, [.int 0, .int 0, .int 0, .int 0, .int 0, .int 0, .int 0, .int 0, .int 0, .ref (u 99), .ref (u 107), .ref (u 117), .ref (u 122), .ref (u 123)]))]) [0, 1] (by decide) rfl
  have hFc := va_free (wc := [(x0, .inr (11, [.ref (u 0), .ref (u 2), .ref (u 3), .ref (u 4), .ref (u 5), .ref (u 10), .ref (u 11), .ref (u 12), .ref (u 98), .ref (u 124)])), (u 98, .inr (2, [.int 0, .int 0, .int 0, .int 0, .int 0, .int 0, .int 0, .int 0, .int 0, .ref (u 99), .ref (u 107), .ref (u 117), .ref (u 122), .ref (u 123)]))]) hD hS hA [0, 1] rfl
  refine va_calli (va_runV (As := [.int (xs (1 : Int32).toNatClampNeg), .int (xs (2 : Int32).toNatClampNeg), .int (xs (3 : Int32).toNatClampNeg)]) (rest := []) ⟨hx, hb, hml, hown, hwd⟩ (c_X11_years l dC dI cI cZ cB cJ cM x0 (u 0) (u 2) (u 3) (u 4) (u 5) (u 10) (u 11) (u 12) (u 98) (u 124) (u 99) (u 107) (u 117) (u 122) (u 123) (xs (1 : Int32).toNatClampNeg) (xs (2 : Int32).toNatClampNeg) (xs (3 : Int32).toNatClampNeg) H.size) (cwV 3 hwd (gV kr30_20 kr30_21 kr30_22 kr1_2 kr30_23) rfl rfl rfl (by decide +kernel) ⟨Nat.le_of_ble_eq_true rfl, Nat.le_of_ble_eq_true rfl⟩) (kPreV hPc hK hDc (ci := 11) (q0 := 0) rfl rfl) rfl rfl hl.1 rfl (lv_room (Nat.le_of_ble_eq_true rfl)) dL_law_1393 ⟨Nat.le_of_ble_eq_true rfl, Nat.le_of_ble_eq_true rfl⟩) hS (fun q _ h => hFc q h) hFc (fun r1 u2 t H1 locs ht9 hvm hw hB hz1 hk1 hS => ?_)
  obtain ⟨hP, hD⟩ := va_join (wr := [(y0, .inr (12, [.int 0, .ref (v 1), .ref (v 2), .ref (v 3), .ref (v 4), .int 0, .ref (v 6), .int 0, .int 0, .int 0, .int 0, .int 0, .int 0, .int (-1), .ref (v 14), .ref (v 15), .ref (v 16), .ref (v 17), .ref (v 18), .ref (v 19), .ref (v 20), .int 0, .ref (v 22), .int 0, .ref (v 24), .ref (v 25), .int 0, .ref (v 27), .ref (v 28), .ref (v 29), .ref (v 30), .int 0, .int 0, .int 0, .int 0, .int 0, .ref (v 36), .long 0, .ref (v 38), .ref (v 39), .ref (v 40), .ref (v 41)])), (v 1, .inl (cI, 544, .inl (upd (upd (upd (fun _ => 0) 8 1) 9 1) 17 (-1))))]) (w1 := []) hP hD [0, 1] [2, 3] rfl rfl (by decide) (by decide) hk1 hFc kP0 kD0
  generalize H1 = H at hP hS ⊢
  have hP : va_P (dC, dI) vwCl [(y0, .inr (12, [.int 0, .ref (v 1), .ref (v 2), .ref (v 3), .ref (v 4), .int 0, .ref (v 6), .int 0, .int 0, .int 0, .int 0, .int 0, .int 0, .int (-1), .ref (v 14), .ref (v 15), .ref (v 16), .ref (v 17), .ref (v 18), .ref (v 19), .ref (v 20), .int 0, .ref (v 22), .int 0, .ref (v 24), .ref (v 25), .int 0, .ref (v 27), .ref (v 28), .ref (v 29), .ref (v 30), .int 0, .int 0, .int 0, .int 0, .int 0, .ref (v 36), .long 0, .ref (v 38), .ref (v 39), .ref (v 40), .ref (v 41)])), (v 1, .inl (cI, 544, .inl (upd (upd (upd (fun _ => 0) 8 1) 9 1) 17 (-1))))] H := hP
  have hD : va_D (fun q : Nat => s.heap.size ≤ q) [(y0, .inr (12, [.int 0, .ref (v 1), .ref (v 2), .ref (v 3), .ref (v 4), .int 0, .ref (v 6), .int 0, .int 0, .int 0, .int 0, .int 0, .int 0, .int (-1), .ref (v 14), .ref (v 15), .ref (v 16), .ref (v 17), .ref (v 18), .ref (v 19), .ref (v 20), .int 0, .ref (v 22), .int 0, .ref (v 24), .ref (v 25), .int 0, .ref (v 27), .ref (v 28), .ref (v 29), .ref (v 30), .int 0, .int 0, .int 0, .int 0, .int 0, .ref (v 36), .long 0, .ref (v 38), .ref (v 39), .ref (v 40), .ref (v 41)])), (v 1, .inl (cI, 544, .inl (upd (upd (upd (fun _ => 0) 8 1) 9 1) 17 (-1))))] := hD
  subst hw
  refine lv_aload_n hx hb dL_law_1396 rfl (lv_at hl 1 rfl) ?_
  refine lv_aload_n hx hb dL_law_1397 rfl (lv_at hl 3 rfl) ?_
  refine lv_iload_n hx hb dL_law_1398 rfl (lv_at hl 0 rfl) ?_
  refine lv_iconst (v := 1) hx hb dL_law_1399 (by decide) ?_
  refine lv_iadd hx hb dL_law_1400 ?_
  refine lv_topi (nm_r (e' := (1)) (by decide +kernel) ?_)
  refine va_sld hx hb hX hbl hbA hS (vin (by decide)) dL_law_1401 ?_
  refine lv_aload_n hx hb dL_law_1402 rfl (lv_at hl 3 rfl) ?_
  refine lv_iload_n hx hb dL_law_1403 rfl (lv_at hl 0 rfl) ?_
  refine lv_iconst (v := 2) hx hb dL_law_1404 (by decide) ?_
  refine lv_iadd hx hb dL_law_1405 ?_
  refine lv_topi (nm_r (e' := (2)) (by decide +kernel) ?_)
  refine va_sld hx hb hX hbl hbA hS (vin (by decide)) dL_law_1406 ?_
  refine lv_aload_n hx hb dL_law_1407 rfl (lv_at hl 3 rfl) ?_
  refine lv_iload_n hx hb dL_law_1408 rfl (lv_at hl 0 rfl) ?_
  refine lv_iconst (v := 3) hx hb dL_law_1409 (by decide) ?_
  refine lv_iadd hx hb dL_law_1410 ?_
  refine lv_topi (nm_r (e' := (3)) (by decide +kernel) ?_)
  refine va_sld hx hb hX hbl hbA hS (vin (by decide)) dL_law_1411 ?_
  have hPc := hP.sub (ws' := [(y0, .inr (12, [.int 0, .ref (v 1), .ref (v 2), .ref (v 3), .ref (v 4), .int 0, .ref (v 6), .int 0, .int 0, .int 0, .int 0, .int 0, .int 0, .int (-1), .ref (v 14), .ref (v 15), .ref (v 16), .ref (v 17), .ref (v 18), .ref (v 19), .ref (v 20), .int 0, .ref (v 22), .int 0, .ref (v 24), .ref (v 25), .int 0, .ref (v 27), .ref (v 28), .ref (v 29), .ref (v 30), .int 0, .int 0, .int 0, .int 0, .int 0, .ref (v 36), .long 0, .ref (v 38), .ref (v 39), .ref (v 40), .ref (v 41)])), (v 1, .inl (cI, 544, .inl (upd (upd (upd (fun _ => 0) 8 1) 9 1) 17 (-1))))]) [0, 1] rfl
  have hDc := hD.sub (ws' := [(y0, .inr (12, [.int 0, .ref (v 1), .ref (v 2), .ref (v 3), .ref (v 4), .int 0, .ref (v 6), .int 0, .int 0, .int 0, .int 0, .int 0, .int 0, .int (-1), .ref (v 14), .ref (v 15), .ref (v 16), .ref (v 17), .ref (v 18), .ref (v 19), .ref (v 20), .int 0, .ref (v 22), .int 0, .ref (v 24), .ref (v 25), .int 0, .ref (v 27), .ref (v 28), .ref (v 29), .ref (v 30), .int 0, .int 0, .int 0, .int 0, .int 0, .ref (v 36), .long 0, .ref (v 38), .ref (v 39), .ref (v 40), .ref (v 41)])), (v 1, .inl (cI, 544, .inl (upd (upd (upd (fun _ => 0) 8 1) 9 1) 17 (-1))))]) [0, 1] (by decide) rfl
  have hFc := va_free (wc := [(y0, .inr (12, [.int 0, .ref (v 1), .ref (v 2), .ref (v 3), .ref (v 4), .int 0, .ref (v 6), .int 0, .int 0, .int 0, .int 0, .int 0, .int 0, .int (-1), .ref (v 14), .ref (v 15), .ref (v 16), .ref (v 17), .ref (v 18), .ref (v 19), .ref (v 20), .int 0, .ref (v 22), .int 0, .ref (v 24), .ref (v 25), .int 0, .ref (v 27), .ref (v 28), .ref (v 29), .ref (v 30), .int 0, .int 0, .int 0, .int 0, .int 0, .ref (v 36), .long 0, .ref (v 38), .ref (v 39), .ref (v 40), .ref (v 41)])), (v 1, .inl (cI, 544, .inl (upd (upd (upd (fun _ => 0) 8 1) 9 1) 17 (-1))))]) hD hS hA [0, 1] rfl
  refine va_calli (va_runV (As := [.int (xs (1 : Int32).toNatClampNeg), .int (xs (2 : Int32).toNatClampNeg), .int (xs (3 : Int32).toNatClampNeg)]) (rest := [.int (-2)]) ⟨hx, hb, hml, hown, hwd⟩ (c_X12_years l dC dI cI cZ cB cJ cM y0 v (xs (1 : Int32).toNatClampNeg) (xs (2 : Int32).toNatClampNeg) (xs (3 : Int32).toNatClampNeg) H.size) (cwV 3 hwd (gV kr31_0 kr31_1 kr31_2 kr1_5 kr31_3) rfl rfl rfl (by decide +kernel) ⟨Nat.le_of_ble_eq_true rfl, Nat.le_of_ble_eq_true rfl⟩) (kPreV hPc hK hDc (ci := 12) (q0 := 0) rfl rfl) rfl rfl hl.1 rfl (lv_room (Nat.le_of_ble_eq_true rfl)) dL_law_1412 ⟨Nat.le_of_ble_eq_true rfl, Nat.le_of_ble_eq_true rfl⟩) hS (fun q _ h => hFc q h) hFc (fun r3 u4 t H1 locs ht9 hvm hw hB hz1 hk1 hS => ?_)
  obtain ⟨hP, hD⟩ := va_join (wr := []) (w1 := []) hP hD [0, 1] [] rfl rfl (by decide) (by decide) hk1 hFc kP0 kD0
  generalize H1 = H at hP hS ⊢
  have hP : va_P (dC, dI) vwCl [] H := hP
  have hD : va_D (fun q : Nat => s.heap.size ≤ q) [] := hD
  subst hw
  refine lv_icmp_eq (tgt := 1731) hx hb dL_law_1415 (by decide) (fun c5 => ?_) (fun c5 => absurd c5 (by decide))
  exact law_tail C0 hS (lv_sub hl [3, 0] rfl)
set_option maxHeartbeats 4000000 in
set_option maxRecDepth 100000 in
/-- the call of until on two fresh objects -/
theorem lcase_41 {p : Program} {l : Launch} {e : Env} {s : State} {m : MethodId} {below : List Frame} {meth : Method} {c : Code} {b : Nat} {xs : Nat → Int32} {dC : Nat → ClassId} {dI : Nat → Nat → Nat} {cI cZ cB cJ cM : ClassId} (x0 y0 : Nat) (u v : Nat → Nat) {H : Heap} {locs : List Loc} {ls : Array Slot} (C0 : lw_At p s m meth c b 6 xs) (hK : va_K (dC, dI) vwCl [(cI, .int), (cZ, .boolean), (cB, .byte), (cJ, .long), (cM, .object RX2)] s) (hP : va_P (dC, dI) vwCl [(x0, .inr (11, [.ref (u 0), .ref (u 2), .ref (u 3), .ref (u 4), .ref (u 5), .ref (u 10), .ref (u 11), .ref (u 12), .ref (u 98), .ref (u 124)])), (u 98, .inr (2, [.int 0, .int 0, .int 0, .int 0, .int 0, .int 0, .int 0, .int 0, .int 0, .ref (u 99), .ref (u 107), .ref (u 117), .ref (u 122), .ref (u 123)])), (u 107, .inr (1, [.int 0, .ref (u 108), .ref (u 109), .ref (u 110), .ref (u 111), .ref (u 112), .ref (u 113), .ref (u 114), .ref (u 115), .ref (u 116)])), (y0, .inr (12, [.int 0, .ref (v 1), .ref (v 2), .ref (v 3), .ref (v 4), .int 0, .ref (v 6), .int 0, .int 0, .int 0, .int 0, .int 0, .int 0, .int (-1), .ref (v 14), .ref (v 15), .ref (v 16), .ref (v 17), .ref (v 18), .ref (v 19), .ref (v 20), .int 0, .ref (v 22), .int 0, .ref (v 24), .ref (v 25), .int 0, .ref (v 27), .ref (v 28), .ref (v 29), .ref (v 30), .int 0, .int 0, .int 0, .int 0, .int 0, .ref (v 36), .long 0, .ref (v 38), .ref (v 39), .ref (v 40), .ref (v 41)])), (v 1, .inl (cI, 544, .inl (upd (upd (upd (fun _ => 0) 8 1) 9 1) 17 (-1))))] H) (hD : va_D (fun q : Nat => s.heap.size ≤ q) [(x0, .inr (11, [.ref (u 0), .ref (u 2), .ref (u 3), .ref (u 4), .ref (u 5), .ref (u 10), .ref (u 11), .ref (u 12), .ref (u 98), .ref (u 124)])), (u 98, .inr (2, [.int 0, .int 0, .int 0, .int 0, .int 0, .int 0, .int 0, .int 0, .int 0, .ref (u 99), .ref (u 107), .ref (u 117), .ref (u 122), .ref (u 123)])), (u 107, .inr (1, [.int 0, .ref (u 108), .ref (u 109), .ref (u 110), .ref (u 111), .ref (u 112), .ref (u 113), .ref (u 114), .ref (u 115), .ref (u 116)])), (y0, .inr (12, [.int 0, .ref (v 1), .ref (v 2), .ref (v 3), .ref (v 4), .int 0, .ref (v 6), .int 0, .int 0, .int 0, .int 0, .int 0, .int 0, .int (-1), .ref (v 14), .ref (v 15), .ref (v 16), .ref (v 17), .ref (v 18), .ref (v 19), .ref (v 20), .int 0, .ref (v 22), .int 0, .ref (v 24), .ref (v 25), .int 0, .ref (v 27), .ref (v 28), .ref (v 29), .ref (v 30), .int 0, .int 0, .int 0, .int 0, .int 0, .ref (v 36), .long 0, .ref (v 38), .ref (v 39), .ref (v 40), .ref (v 41)])), (v 1, .inl (cI, 544, .inl (upd (upd (upd (fun _ => 0) 8 1) 9 1) 17 (-1))))]) (hS : va_S (fun q : Nat => s.heap.size ≤ q) s.heap H locs) (hl : lv_has ls 4 [(3, .int 0), (2, .ref y0), (1, .ref x0), (0, .ref b)]) : W p l e room_1 s m #[Value.ref b] below meth c H locs 600000 7302250 (lw_Z below #[Value.ref b] s) (F0 m 1420 ls []) := by
  obtain ⟨hx, hb, hr, hml, hown0, hts, hX, hbl, hlocks, hgv⟩ := id C0
  have hb : c.code = cL_law := hb
  have hown : s.vm.findClass RL = some m.cls := hown0
  have hwd : ∀ wd ∈ wsL_law, wd.before #[Value.ref b] s = true := fun w h => hts w (wsL_law_in w h)
  have hA : ∀ q : Nat, s.heap.size ≤ q → (fun q : Nat => s.heap.size ≤ q) q := fun _ h => h
  have hbA : ¬ (fun q : Nat => s.heap.size ≤ q) b := Nat.not_le.mpr hbl
  refine lv_aload_n hx hb dL_law_1420 rfl (lv_at hl 2 rfl) ?_
  refine lv_aload_n hx hb dL_law_1421 rfl (lv_at hl 3 rfl) ?_
  refine lv_iload_n hx hb dL_law_1422 rfl (lv_at hl 0 rfl) ?_
  refine lv_iconst (v := 1) hx hb dL_law_1423 (by decide) ?_
  refine lv_iadd hx hb dL_law_1424 ?_
  refine lv_topi (nm_r (e' := (1)) (by decide +kernel) ?_)
  refine va_sld hx hb hX hbl hbA hS (vin (by decide)) dL_law_1425 ?_
  refine lv_aload_n hx hb dL_law_1426 rfl (lv_at hl 3 rfl) ?_
  refine lv_iload_n hx hb dL_law_1427 rfl (lv_at hl 0 rfl) ?_
  refine lv_iconst (v := 2) hx hb dL_law_1428 (by decide) ?_
  refine lv_iadd hx hb dL_law_1429 ?_
  refine lv_topi (nm_r (e' := (2)) (by decide +kernel) ?_)
  refine va_sld hx hb hX hbl hbA hS (vin (by decide)) dL_law_1430 ?_
  refine lv_aload_n hx hb dL_law_1431 rfl (lv_at hl 3 rfl) ?_
  refine lv_iload_n hx hb dL_law_1432 rfl (lv_at hl 0 rfl) ?_
  refine lv_iconst (v := 3) hx hb dL_law_1433 (by decide) ?_
  refine lv_iadd hx hb dL_law_1434 ?_
  refine lv_topi (nm_r (e' := (3)) (by decide +kernel) ?_)
  refine va_sld hx hb hX hbl hbA hS (vin (by decide)) dL_law_1435 ?_
  refine lv_aload_n hx hb dL_law_1436 rfl (lv_at hl 3 rfl) ?_
  refine lv_iload_n hx hb dL_law_1437 rfl (lv_at hl 0 rfl) ?_
  refine lv_iconst (v := 4) hx hb dL_law_1438 (by decide) ?_
  refine lv_iadd hx hb dL_law_1439 ?_
  refine lv_topi (nm_r (e' := (4)) (by decide +kernel) ?_)
  refine va_sld hx hb hX hbl hbA hS (vin (by decide)) dL_law_1440 ?_
  refine lv_aload_n hx hb dL_law_1441 rfl (lv_at hl 3 rfl) ?_
  refine lv_iload_n hx hb dL_law_1442 rfl (lv_at hl 0 rfl) ?_
  refine lv_iconst (v := 5) hx hb dL_law_1443 (by decide) ?_
  refine lv_iadd hx hb dL_law_1444 ?_
  refine lv_topi (nm_r (e' := (5)) (by decide +kernel) ?_)
  refine va_sld hx hb hX hbl hbA hS (vin (by decide)) dL_law_1445 ?_
  have hPc := hP.sub (ws' := [(x0, .inr (11, [.ref (u 0), .ref (u 2), .ref (u 3), .ref (u 4), .ref (u 5), .ref (u 10), .ref (u 11), .ref (u 12), .ref (u 98), .ref (u 124)])), (u 98, .inr (2, [.int 0, .int 0, .int 0, .int 0, .int 0, .int 0, .int 0, .int 0, .int 0, .ref (u 99), .ref (u 107), .ref (u 117), .ref (u 122), .ref (u 123)])), (u 107, .inr (1, [.int 0, .ref (u 108), .ref (u 109), .ref (u 110), .ref (u 111), .ref (u 112), .ref (u 113), .ref (u 114), .ref (u 115), .ref (u 116)]))]) [0, 1, 2] rfl
  have hDc := hD.sub (ws' := [(x0, .inr (11, [.ref (u 0), .ref (u 2), .ref (u 3), .ref (u 4), .ref (u 5), .ref (u 10), .ref (u 11), .ref (u 12), .ref (u 98), .ref (u 124)])), (u 98, .inr (2, [.int 0, .int 0, .int 0, .int 0, .int 0, .int 0, .int 0, .int 0, .int 0, .ref (u 99), .ref (u 107), .ref (u 117), .ref (u 122), .ref (u 123)])), (u 107, .inr (1, [.int 0, .ref (u 108), .ref (u 109), .ref (u 110), .ref (u 111), .ref (u 112), .ref (u 113), .ref (u 114), .ref (u 115), .ref (u 116)]))]) [0, 1, 2] (by decide) rfl
  have hFc := va_free (wc := [(x0, .inr (11, [.ref (u 0), .ref (u 2), .ref (u 3), .ref (u 4), .ref (u 5), .ref (u 10), .ref (u 11), .ref (u 12), .ref (u 98), .ref (u 124)])), (u 98, .inr (2, [.int 0, .int 0, .int 0, .int 0, .int 0, .int 0, .int 0, .int 0, .int 0, .ref (u 99), .ref (u 107), .ref (u 117), .ref (u 122), .ref (u 123)])), (u 107, .inr (1, [.int 0, .ref (u 108), .ref (u 109), .ref (u 110), .ref (u 111), .ref (u 112), .ref (u 113), .ref (u 114), .ref (u 115), .ref (u 116)]))]) hD hS hA [0, 1, 2] rfl
  refine va_calli (va_runV (As := [.int (xs (1 : Int32).toNatClampNeg), .int (xs (2 : Int32).toNatClampNeg), .int (xs (3 : Int32).toNatClampNeg), .int (xs (4 : Int32).toNatClampNeg), .int (xs (5 : Int32).toNatClampNeg)]) (rest := []) ⟨hx, hb, hml, hown, hwd⟩ (c_X11_until l dC dI cI cZ cB cJ cM x0 (u 0) (u 2) (u 3) (u 4) (u 5) (u 10) (u 11) (u 12) (u 98) (u 124) (u 99) (u 107) (u 117) (u 122) (u 123) (u 108) (u 109) (u 110) (u 111) (u 112) (u 113) (u 114) (u 115) (u 116) (xs (1 : Int32).toNatClampNeg) (xs (2 : Int32).toNatClampNeg) (xs (3 : Int32).toNatClampNeg) (xs (4 : Int32).toNatClampNeg) (xs (5 : Int32).toNatClampNeg) H.size) (cwV 5 hwd (gV kr31_8 kr31_9 kr31_10 kr1_2 kr31_11) rfl rfl rfl (by decide +kernel) ⟨Nat.le_of_ble_eq_true rfl, Nat.le_of_ble_eq_true rfl⟩) (kPreV hPc hK hDc (ci := 11) (q0 := 0) rfl rfl) rfl rfl hl.1 rfl (lv_room (Nat.le_of_ble_eq_true rfl)) dL_law_1446 ⟨Nat.le_of_ble_eq_true rfl, Nat.le_of_ble_eq_true rfl⟩) hS (fun q _ h => hFc q h) hFc (fun r1 u2 t H1 locs ht9 hvm hw hB hz1 hk1 hS => ?_)
  obtain ⟨hP, hD⟩ := va_join (wr := [(y0, .inr (12, [.int 0, .ref (v 1), .ref (v 2), .ref (v 3), .ref (v 4), .int 0, .ref (v 6), .int 0, .int 0, .int 0, .int 0, .int 0, .int 0, .int (-1), .ref (v 14), .ref (v 15), .ref (v 16), .ref (v 17), .ref (v 18), .ref (v 19), .ref (v 20), .int 0, .ref (v 22), .int 0, .ref (v 24), .ref (v 25), .int 0, .ref (v 27), .ref (v 28), .ref (v 29), .ref (v 30), .int 0, .int 0, .int 0, .int 0, .int 0, .ref (v 36), .long 0, .ref (v 38), .ref (v 39), .ref (v 40), .ref (v 41)])), (v 1, .inl (cI, 544, .inl (upd (upd (upd (fun _ => 0) 8 1) 9 1) 17 (-1))))]) (w1 := []) hP hD [0, 1, 2] [3, 4] rfl rfl (by decide) (by decide) hk1 hFc kP0 kD0
  generalize H1 = H at hP hS ⊢
  have hP : va_P (dC, dI) vwCl [(y0, .inr (12, [.int 0, .ref (v 1), .ref (v 2), .ref (v 3), .ref (v 4), .int 0, .ref (v 6), .int 0, .int 0, .int 0, .int 0, .int 0, .int 0, .int (-1), .ref (v 14), .ref (v 15), .ref (v 16), .ref (v 17), .ref (v 18), .ref (v 19), .ref (v 20), .int 0, .ref (v 22), .int 0, .ref (v 24), .ref (v 25), .int 0, .ref (v 27), .ref (v 28), .ref (v 29), .ref (v 30), .int 0, .int 0, .int 0, .int 0, .int 0, .ref (v 36), .long 0, .ref (v 38), .ref (v 39), .ref (v 40), .ref (v 41)])), (v 1, .inl (cI, 544, .inl (upd (upd (upd (fun _ => 0) 8 1) 9 1) 17 (-1))))] H := hP
  have hD : va_D (fun q : Nat => s.heap.size ≤ q) [(y0, .inr (12, [.int 0, .ref (v 1), .ref (v 2), .ref (v 3), .ref (v 4), .int 0, .ref (v 6), .int 0, .int 0, .int 0, .int 0, .int 0, .int 0, .int (-1), .ref (v 14), .ref (v 15), .ref (v 16), .ref (v 17), .ref (v 18), .ref (v 19), .ref (v 20), .int 0, .ref (v 22), .int 0, .ref (v 24), .ref (v 25), .int 0, .ref (v 27), .ref (v 28), .ref (v 29), .ref (v 30), .int 0, .int 0, .int 0, .int 0, .int 0, .ref (v 36), .long 0, .ref (v 38), .ref (v 39), .ref (v 40), .ref (v 41)])), (v 1, .inl (cI, 544, .inl (upd (upd (upd (fun _ => 0) 8 1) 9 1) 17 (-1))))] := hD
  subst hw
  refine lv_aload_n hx hb dL_law_1449 rfl (lv_at hl 1 rfl) ?_
  refine lv_aload_n hx hb dL_law_1450 rfl (lv_at hl 3 rfl) ?_
  refine lv_iload_n hx hb dL_law_1451 rfl (lv_at hl 0 rfl) ?_
  refine lv_iconst (v := 1) hx hb dL_law_1452 (by decide) ?_
  refine lv_iadd hx hb dL_law_1453 ?_
  refine lv_topi (nm_r (e' := (1)) (by decide +kernel) ?_)
  refine va_sld hx hb hX hbl hbA hS (vin (by decide)) dL_law_1454 ?_
  refine lv_aload_n hx hb dL_law_1455 rfl (lv_at hl 3 rfl) ?_
  refine lv_iload_n hx hb dL_law_1456 rfl (lv_at hl 0 rfl) ?_
  refine lv_iconst (v := 2) hx hb dL_law_1457 (by decide) ?_
  refine lv_iadd hx hb dL_law_1458 ?_
  refine lv_topi (nm_r (e' := (2)) (by decide +kernel) ?_)
  refine va_sld hx hb hX hbl hbA hS (vin (by decide)) dL_law_1459 ?_
  refine lv_aload_n hx hb dL_law_1460 rfl (lv_at hl 3 rfl) ?_
  refine lv_iload_n hx hb dL_law_1461 rfl (lv_at hl 0 rfl) ?_
  refine lv_iconst (v := 3) hx hb dL_law_1462 (by decide) ?_
  refine lv_iadd hx hb dL_law_1463 ?_
  refine lv_topi (nm_r (e' := (3)) (by decide +kernel) ?_)
  refine va_sld hx hb hX hbl hbA hS (vin (by decide)) dL_law_1464 ?_
  refine lv_aload_n hx hb dL_law_1465 rfl (lv_at hl 3 rfl) ?_
  refine lv_iload_n hx hb dL_law_1466 rfl (lv_at hl 0 rfl) ?_
  refine lv_iconst (v := 4) hx hb dL_law_1467 (by decide) ?_
  refine lv_iadd hx hb dL_law_1468 ?_
  refine lv_topi (nm_r (e' := (4)) (by decide +kernel) ?_)
  refine va_sld hx hb hX hbl hbA hS (vin (by decide)) dL_law_1469 ?_
  refine lv_aload_n hx hb dL_law_1470 rfl (lv_at hl 3 rfl) ?_
  refine lv_iload_n hx hb dL_law_1471 rfl (lv_at hl 0 rfl) ?_
  refine lv_iconst (v := 5) hx hb dL_law_1472 (by decide) ?_
  refine lv_iadd hx hb dL_law_1473 ?_
  refine lv_topi (nm_r (e' := (5)) (by decide +kernel) ?_)
  refine va_sld hx hb hX hbl hbA hS (vin (by decide)) dL_law_1474 ?_
  have hPc := hP.sub (ws' := [(y0, .inr (12, [.int 0, .ref (v 1), .ref (v 2), .ref (v 3), .ref (v 4), .int 0, .ref (v 6), .int 0, .int 0, .int 0, .int 0, .int 0, .int 0, .int (-1), .ref (v 14), .ref (v 15), .ref (v 16), .ref (v 17), .ref (v 18), .ref (v 19), .ref (v 20), .int 0, .ref (v 22), .int 0, .ref (v 24), .ref (v 25), .int 0, .ref (v 27), .ref (v 28), .ref (v 29), .ref (v 30), .int 0, .int 0, .int 0, .int 0, .int 0, .ref (v 36), .long 0, .ref (v 38), .ref (v 39), .ref (v 40), .ref (v 41)])), (v 1, .inl (cI, 544, .inl (upd (upd (upd (fun _ => 0) 8 1) 9 1) 17 (-1))))]) [0, 1] rfl
  have hDc := hD.sub (ws' := [(y0, .inr (12, [.int 0, .ref (v 1), .ref (v 2), .ref (v 3), .ref (v 4), .int 0, .ref (v 6), .int 0, .int 0, .int 0, .int 0, .int 0, .int 0, .int (-1), .ref (v 14), .ref (v 15), .ref (v 16), .ref (v 17), .ref (v 18), .ref (v 19), .ref (v 20), .int 0, .ref (v 22), .int 0, .ref (v 24), .ref (v 25), .int 0, .ref (v 27), .ref (v 28), .ref (v 29), .ref (v 30), .int 0, .int 0, .int 0, .int 0, .int 0, .ref (v 36), .long 0, .ref (v 38), .ref (v 39), .ref (v 40), .ref (v 41)])), (v 1, .inl (cI, 544, .inl (upd (upd (upd (fun _ => 0) 8 1) 9 1) 17 (-1))))]) [0, 1] (by decide) rfl
  have hFc := va_free (wc := [(y0, .inr (12, [.int 0, .ref (v 1), .ref (v 2), .ref (v 3), .ref (v 4), .int 0, .ref (v 6), .int 0, .int 0, .int 0, .int 0, .int 0, .int 0, .int (-1), .ref (v 14), .ref (v 15), .ref (v 16), .ref (v 17), .ref (v 18), .ref (v 19), .ref (v 20), .int 0, .ref (v 22), .int 0, .ref (v 24), .ref (v 25), .int 0, .ref (v 27), .ref (v 28), .ref (v 29), .ref (v 30), .int 0, .int 0, .int 0, .int 0, .int 0, .ref (v 36), .long 0, .ref (v 38), .ref (v 39), .ref (v 40), .ref (v 41)])), (v 1, .inl (cI, 544, .inl (upd (upd (upd (fun _ => 0) 8 1) 9 1) 17 (-1))))]) hD hS hA [0, 1] rfl
  refine va_calli (va_runV (As := [.int (xs (1 : Int32).toNatClampNeg), .int (xs (2 : Int32).toNatClampNeg), .int (xs (3 : Int32).toNatClampNeg), .int (xs (4 : Int32).toNatClampNeg), .int (xs (5 : Int32).toNatClampNeg)]) (rest := [.int (-2)]) ⟨hx, hb, hml, hown, hwd⟩ (c_X12_until l dC dI cI cZ cB cJ cM y0 v (xs (1 : Int32).toNatClampNeg) (xs (2 : Int32).toNatClampNeg) (xs (3 : Int32).toNatClampNeg) (xs (4 : Int32).toNatClampNeg) (xs (5 : Int32).toNatClampNeg) H.size) (cwV 5 hwd (gV kr31_12 kr31_13 kr31_14 kr1_5 kr31_15) rfl rfl rfl (by decide +kernel) ⟨Nat.le_of_ble_eq_true rfl, Nat.le_of_ble_eq_true rfl⟩) (kPreV hPc hK hDc (ci := 12) (q0 := 0) rfl rfl) rfl rfl hl.1 rfl (lv_room (Nat.le_of_ble_eq_true rfl)) dL_law_1475 ⟨Nat.le_of_ble_eq_true rfl, Nat.le_of_ble_eq_true rfl⟩) hS (fun q _ h => hFc q h) hFc (fun r3 u4 t H1 locs ht9 hvm hw hB hz1 hk1 hS => ?_)
  obtain ⟨hP, hD⟩ := va_join (wr := []) (w1 := []) hP hD [0, 1] [] rfl rfl (by decide) (by decide) hk1 hFc kP0 kD0
  generalize H1 = H at hP hS ⊢
  have hP : va_P (dC, dI) vwCl [] H := hP
  have hD : va_D (fun q : Nat => s.heap.size ≤ q) [] := hD
  subst hw
  refine lv_icmp_eq (tgt := 1731) hx hb dL_law_1478 (by decide) (fun c5 => ?_) (fun c5 => absurd c5 (by decide))
  exact law_tail C0 hS (lv_sub hl [3, 0] rfl)
set_option maxHeartbeats 4000000 in
set_option maxRecDepth 100000 in
/-- the call of count on two fresh objects -/
theorem lcase_42 {p : Program} {l : Launch} {e : Env} {s : State} {m : MethodId} {below : List Frame} {meth : Method} {c : Code} {b : Nat} {xs : Nat → Int32} {dC : Nat → ClassId} {dI : Nat → Nat → Nat} {cI cZ cB cJ cM : ClassId} (x0 y0 : Nat) (u v : Nat → Nat) {H : Heap} {locs : List Loc} {ls : Array Slot} (C0 : lw_At p s m meth c b 6 xs) (hK : va_K (dC, dI) vwCl [(cI, .int), (cZ, .boolean), (cB, .byte), (cJ, .long), (cM, .object RX2)] s) (hP : va_P (dC, dI) vwCl [(x0, .inr (11, [.ref (u 0), .ref (u 2), .ref (u 3), .ref (u 4), .ref (u 5), .ref (u 10), .ref (u 11), .ref (u 12), .ref (u 98), .ref (u 124)])), (u 0, .inr (10, [.ref (u 1), .int 0, .int 0, .int (-1), .int 0, .int 0, .int 0, .int 0])), (u 5, .inr (8, [.ref (u 6), .ref (u 7), .ref (u 8), .ref (u 9)])), (u 8, .inl (cZ, 4, .inl (fun _ => 0))), (u 98, .inr (2, [.int 0, .int 0, .int 0, .int 0, .int 0, .int 0, .int 0, .int 0, .int 0, .ref (u 99), .ref (u 107), .ref (u 117), .ref (u 122), .ref (u 123)])), (u 99, .inr (3, [.int 0, .ref (u 100), .ref (u 101), .ref (u 102), .ref (u 103), .ref (u 104), .ref (u 105), .ref (u 106)])), (u 107, .inr (1, [.int 0, .ref (u 108), .ref (u 109), .ref (u 110), .ref (u 111), .ref (u 112), .ref (u 113), .ref (u 114), .ref (u 115), .ref (u 116)])), (u 117, .inr (4, [.int 0, .ref (u 118), .ref (u 119), .ref (u 120), .ref (u 121)])), (y0, .inr (12, [.int 0, .ref (v 1), .ref (v 2), .ref (v 3), .ref (v 4), .int 0, .ref (v 6), .int 0, .int 0, .int 0, .int 0, .int 0, .int 0, .int (-1), .ref (v 14), .ref (v 15), .ref (v 16), .ref (v 17), .ref (v 18), .ref (v 19), .ref (v 20), .int 0, .ref (v 22), .int 0, .ref (v 24), .ref (v 25), .int 0, .ref (v 27), .ref (v 28), .ref (v 29), .ref (v 30), .int 0, .int 0, .int 0, .int 0, .int 0, .ref (v 36), .long 0, .ref (v 38), .ref (v 39), .ref (v 40), .ref (v 41)])), (v 1, .inl (cI, 544, .inl (upd (upd (upd (fun _ => 0) 8 1) 9 1) 17 (-1)))), (v 38, .inl (cI, 4, .inl (upd (upd (upd (upd (fun _ => 0) 0 (-1)) 1 (-1)) 2 (-1)) 3 (-1))))] H) (hD : va_D (fun q : Nat => s.heap.size ≤ q) [(x0, .inr (11, [.ref (u 0), .ref (u 2), .ref (u 3), .ref (u 4), .ref (u 5), .ref (u 10), .ref (u 11), .ref (u 12), .ref (u 98), .ref (u 124)])), (u 0, .inr (10, [.ref (u 1), .int 0, .int 0, .int (-1), .int 0, .int 0, .int 0, .int 0])), (u 5, .inr (8, [.ref (u 6), .ref (u 7), .ref (u 8), .ref (u 9)])), (u 8, .inl (cZ, 4, .inl (fun _ => 0))), (u 98, .inr (2, [.int 0, .int 0, .int 0, .int 0, .int 0, .int 0, .int 0, .int 0, .int 0, .ref (u 99), .ref (u 107), .ref (u 117), .ref (u 122), .ref (u 123)])), (u 99, .inr (3, [.int 0, .ref (u 100), .ref (u 101), .ref (u 102), .ref (u 103), .ref (u 104), .ref (u 105), .ref (u 106)])), (u 107, .inr (1, [.int 0, .ref (u 108), .ref (u 109), .ref (u 110), .ref (u 111), .ref (u 112), .ref (u 113), .ref (u 114), .ref (u 115), .ref (u 116)])), (u 117, .inr (4, [.int 0, .ref (u 118), .ref (u 119), .ref (u 120), .ref (u 121)])), (y0, .inr (12, [.int 0, .ref (v 1), .ref (v 2), .ref (v 3), .ref (v 4), .int 0, .ref (v 6), .int 0, .int 0, .int 0, .int 0, .int 0, .int 0, .int (-1), .ref (v 14), .ref (v 15), .ref (v 16), .ref (v 17), .ref (v 18), .ref (v 19), .ref (v 20), .int 0, .ref (v 22), .int 0, .ref (v 24), .ref (v 25), .int 0, .ref (v 27), .ref (v 28), .ref (v 29), .ref (v 30), .int 0, .int 0, .int 0, .int 0, .int 0, .ref (v 36), .long 0, .ref (v 38), .ref (v 39), .ref (v 40), .ref (v 41)])), (v 1, .inl (cI, 544, .inl (upd (upd (upd (fun _ => 0) 8 1) 9 1) 17 (-1)))), (v 38, .inl (cI, 4, .inl (upd (upd (upd (upd (fun _ => 0) 0 (-1)) 1 (-1)) 2 (-1)) 3 (-1))))]) (hS : va_S (fun q : Nat => s.heap.size ≤ q) s.heap H locs) (hl : lv_has ls 4 [(3, .int 0), (2, .ref y0), (1, .ref x0), (0, .ref b)]) : W p l e room_1 s m #[Value.ref b] below meth c H locs 600000 7302250 (lw_Z below #[Value.ref b] s) (F0 m 1483 ls []) := by
  obtain ⟨hx, hb, hr, hml, hown0, hts, hX, hbl, hlocks, hgv⟩ := id C0
  have hb : c.code = cL_law := hb
  have hown : s.vm.findClass RL = some m.cls := hown0
  have hwd : ∀ wd ∈ wsL_law, wd.before #[Value.ref b] s = true := fun w h => hts w (wsL_law_in w h)
  have hA : ∀ q : Nat, s.heap.size ≤ q → (fun q : Nat => s.heap.size ≤ q) q := fun _ h => h
  have hbA : ¬ (fun q : Nat => s.heap.size ≤ q) b := Nat.not_le.mpr hbl
  refine lv_aload_n hx hb dL_law_1483 rfl (lv_at hl 2 rfl) ?_
  refine lv_aload_n hx hb dL_law_1484 rfl (lv_at hl 3 rfl) ?_
  refine lv_iload_n hx hb dL_law_1485 rfl (lv_at hl 0 rfl) ?_
  refine lv_iconst (v := 1) hx hb dL_law_1486 (by decide) ?_
  refine lv_iadd hx hb dL_law_1487 ?_
  refine lv_topi (nm_r (e' := (1)) (by decide +kernel) ?_)
  refine va_sld hx hb hX hbl hbA hS (vin (by decide)) dL_law_1488 ?_
  have hPc := hP.sub (ws' := [(x0, .inr (11, [.ref (u 0), .ref (u 2), .ref (u 3), .ref (u 4), .ref (u 5), .ref (u 10), .ref (u 11), .ref (u 12), .ref (u 98), .ref (u 124)])), (u 0, .inr (10, [.ref (u 1), .int 0, .int 0, .int (-1), .int 0, .int 0, .int 0, .int 0])), (u 5, .inr (8, [.ref (u 6), .ref (u 7), .ref (u 8), .ref (u 9)])), (u 8, .inl (cZ, 4, .inl (fun _ => 0))), (u 98, .inr (2, [.int 0, .int 0, .int 0, .int 0, .int 0, .int 0, .int 0, .int 0, .int 0, .ref (u 99), .ref (u 107), .ref (u 117), .ref (u 122), .ref (u 123)])), (u 99, .inr (3, [.int 0, .ref (u 100), .ref (u 101), .ref (u 102), .ref (u 103), .ref (u 104), .ref (u 105), .ref (u 106)])), (u 107, .inr (1, [.int 0, .ref (u 108), .ref (u 109), .ref (u 110), .ref (u 111), .ref (u 112), .ref (u 113), .ref (u 114), .ref (u 115), .ref (u 116)])), (u 117, .inr (4, [.int 0, .ref (u 118), .ref (u 119), .ref (u 120), .ref (u 121)]))]) [0, 1, 2, 3, 4, 5, 6, 7] rfl
  have hDc := hD.sub (ws' := [(x0, .inr (11, [.ref (u 0), .ref (u 2), .ref (u 3), .ref (u 4), .ref (u 5), .ref (u 10), .ref (u 11), .ref (u 12), .ref (u 98), .ref (u 124)])), (u 0, .inr (10, [.ref (u 1), .int 0, .int 0, .int (-1), .int 0, .int 0, .int 0, .int 0])), (u 5, .inr (8, [.ref (u 6), .ref (u 7), .ref (u 8), .ref (u 9)])), (u 8, .inl (cZ, 4, .inl (fun _ => 0))), (u 98, .inr (2, [.int 0, .int 0, .int 0, .int 0, .int 0, .int 0, .int 0, .int 0, .int 0, .ref (u 99), .ref (u 107), .ref (u 117), .ref (u 122), .ref (u 123)])), (u 99, .inr (3, [.int 0, .ref (u 100), .ref (u 101), .ref (u 102), .ref (u 103), .ref (u 104), .ref (u 105), .ref (u 106)])), (u 107, .inr (1, [.int 0, .ref (u 108), .ref (u 109), .ref (u 110), .ref (u 111), .ref (u 112), .ref (u 113), .ref (u 114), .ref (u 115), .ref (u 116)])), (u 117, .inr (4, [.int 0, .ref (u 118), .ref (u 119), .ref (u 120), .ref (u 121)]))]) [0, 1, 2, 3, 4, 5, 6, 7] (by decide) rfl
  have hFc := va_free (wc := [(x0, .inr (11, [.ref (u 0), .ref (u 2), .ref (u 3), .ref (u 4), .ref (u 5), .ref (u 10), .ref (u 11), .ref (u 12), .ref (u 98), .ref (u 124)])), (u 0, .inr (10, [.ref (u 1), .int 0, .int 0, .int (-1), .int 0, .int 0, .int 0, .int 0])), (u 5, .inr (8, [.ref (u 6), .ref (u 7), .ref (u 8), .ref (u 9)])), (u 8, .inl (cZ, 4, .inl (fun _ => 0))), (u 98, .inr (2, [.int 0, .int 0, .int 0, .int 0, .int 0, .int 0, .int 0, .int 0, .int 0, .ref (u 99), .ref (u 107), .ref (u 117), .ref (u 122), .ref (u 123)])), (u 99, .inr (3, [.int 0, .ref (u 100), .ref (u 101), .ref (u 102), .ref (u 103), .ref (u 104), .ref (u 105), .ref (u 106)])), (u 107, .inr (1, [.int 0, .ref (u 108), .ref (u 109), .ref (u 110), .ref (u 111), .ref (u 112), .ref (u 113), .ref (u 114), .ref (u 115), .ref (u 116)])), (u 117, .inr (4, [.int 0, .ref (u 118), .ref (u 119), .ref (u 120), .ref (u 121)]))]) hD hS hA [0, 1, 2, 3, 4, 5, 6, 7] rfl
  refine va_calli (va_runV (As := [.int (xs (1 : Int32).toNatClampNeg)]) (rest := []) ⟨hx, hb, hml, hown, hwd⟩ (c_X11_count l dC dI cI cZ cB cJ cM x0 (u 0) (u 2) (u 3) (u 4) (u 5) (u 10) (u 11) (u 12) (u 98) (u 124) (u 1) (u 6) (u 7) (u 8) (u 9) (u 99) (u 107) (u 117) (u 122) (u 123) (u 100) (u 101) (u 102) (u 103) (u 104) (u 105) (u 106) (u 108) (u 109) (u 110) (u 111) (u 112) (u 113) (u 114) (u 115) (u 116) (u 118) (u 119) (u 120) (u 121) (xs (1 : Int32).toNatClampNeg) H.size) (cwV 1 hwd (gV kr31_16 kr31_17 kr31_18 kr1_2 kr31_19) rfl rfl rfl (by decide +kernel) ⟨Nat.le_of_ble_eq_true rfl, Nat.le_of_ble_eq_true rfl⟩) (kPreV hPc hK hDc (ci := 11) (q0 := 0) rfl rfl) rfl rfl hl.1 rfl (lv_room (Nat.le_of_ble_eq_true rfl)) dL_law_1489 ⟨Nat.le_of_ble_eq_true rfl, Nat.le_of_ble_eq_true rfl⟩) hS (fun q _ h => hFc q h) hFc (fun r1 u2 t H1 locs ht9 hvm hw hB hz1 hk1 hS => ?_)
  obtain ⟨hP, hD⟩ := va_join (wr := [(y0, .inr (12, [.int 0, .ref (v 1), .ref (v 2), .ref (v 3), .ref (v 4), .int 0, .ref (v 6), .int 0, .int 0, .int 0, .int 0, .int 0, .int 0, .int (-1), .ref (v 14), .ref (v 15), .ref (v 16), .ref (v 17), .ref (v 18), .ref (v 19), .ref (v 20), .int 0, .ref (v 22), .int 0, .ref (v 24), .ref (v 25), .int 0, .ref (v 27), .ref (v 28), .ref (v 29), .ref (v 30), .int 0, .int 0, .int 0, .int 0, .int 0, .ref (v 36), .long 0, .ref (v 38), .ref (v 39), .ref (v 40), .ref (v 41)])), (v 1, .inl (cI, 544, .inl (upd (upd (upd (fun _ => 0) 8 1) 9 1) 17 (-1)))), (v 38, .inl (cI, 4, .inl (upd (upd (upd (upd (fun _ => 0) 0 (-1)) 1 (-1)) 2 (-1)) 3 (-1))))]) (w1 := []) hP hD [0, 1, 2, 3, 4, 5, 6, 7] [8, 9, 10] rfl rfl (by decide) (by decide) hk1 hFc kP0 kD0
  generalize H1 = H at hP hS ⊢
  have hP : va_P (dC, dI) vwCl [(y0, .inr (12, [.int 0, .ref (v 1), .ref (v 2), .ref (v 3), .ref (v 4), .int 0, .ref (v 6), .int 0, .int 0, .int 0, .int 0, .int 0, .int 0, .int (-1), .ref (v 14), .ref (v 15), .ref (v 16), .ref (v 17), .ref (v 18), .ref (v 19), .ref (v 20), .int 0, .ref (v 22), .int 0, .ref (v 24), .ref (v 25), .int 0, .ref (v 27), .ref (v 28), .ref (v 29), .ref (v 30), .int 0, .int 0, .int 0, .int 0, .int 0, .ref (v 36), .long 0, .ref (v 38), .ref (v 39), .ref (v 40), .ref (v 41)])), (v 1, .inl (cI, 544, .inl (upd (upd (upd (fun _ => 0) 8 1) 9 1) 17 (-1)))), (v 38, .inl (cI, 4, .inl (upd (upd (upd (upd (fun _ => 0) 0 (-1)) 1 (-1)) 2 (-1)) 3 (-1))))] H := hP
  have hD : va_D (fun q : Nat => s.heap.size ≤ q) [(y0, .inr (12, [.int 0, .ref (v 1), .ref (v 2), .ref (v 3), .ref (v 4), .int 0, .ref (v 6), .int 0, .int 0, .int 0, .int 0, .int 0, .int 0, .int (-1), .ref (v 14), .ref (v 15), .ref (v 16), .ref (v 17), .ref (v 18), .ref (v 19), .ref (v 20), .int 0, .ref (v 22), .int 0, .ref (v 24), .ref (v 25), .int 0, .ref (v 27), .ref (v 28), .ref (v 29), .ref (v 30), .int 0, .int 0, .int 0, .int 0, .int 0, .ref (v 36), .long 0, .ref (v 38), .ref (v 39), .ref (v 40), .ref (v 41)])), (v 1, .inl (cI, 544, .inl (upd (upd (upd (fun _ => 0) 8 1) 9 1) 17 (-1)))), (v 38, .inl (cI, 4, .inl (upd (upd (upd (upd (fun _ => 0) 0 (-1)) 1 (-1)) 2 (-1)) 3 (-1))))] := hD
  have hs3 := hw
  refine lv_aload_n hx hb dL_law_1492 rfl (lv_at hl 1 rfl) ?_
  refine lv_aload_n hx hb dL_law_1493 rfl (lv_at hl 3 rfl) ?_
  refine lv_iload_n hx hb dL_law_1494 rfl (lv_at hl 0 rfl) ?_
  refine lv_iconst (v := 1) hx hb dL_law_1495 (by decide) ?_
  refine lv_iadd hx hb dL_law_1496 ?_
  refine lv_topi (nm_r (e' := (1)) (by decide +kernel) ?_)
  refine va_sld hx hb hX hbl hbA hS (vin (by decide)) dL_law_1497 ?_
  have hPc := hP.sub (ws' := [(y0, .inr (12, [.int 0, .ref (v 1), .ref (v 2), .ref (v 3), .ref (v 4), .int 0, .ref (v 6), .int 0, .int 0, .int 0, .int 0, .int 0, .int 0, .int (-1), .ref (v 14), .ref (v 15), .ref (v 16), .ref (v 17), .ref (v 18), .ref (v 19), .ref (v 20), .int 0, .ref (v 22), .int 0, .ref (v 24), .ref (v 25), .int 0, .ref (v 27), .ref (v 28), .ref (v 29), .ref (v 30), .int 0, .int 0, .int 0, .int 0, .int 0, .ref (v 36), .long 0, .ref (v 38), .ref (v 39), .ref (v 40), .ref (v 41)])), (v 1, .inl (cI, 544, .inl (upd (upd (upd (fun _ => 0) 8 1) 9 1) 17 (-1)))), (v 38, .inl (cI, 4, .inl (upd (upd (upd (upd (fun _ => 0) 0 (-1)) 1 (-1)) 2 (-1)) 3 (-1))))]) [0, 1, 2] rfl
  have hDc := hD.sub (ws' := [(y0, .inr (12, [.int 0, .ref (v 1), .ref (v 2), .ref (v 3), .ref (v 4), .int 0, .ref (v 6), .int 0, .int 0, .int 0, .int 0, .int 0, .int 0, .int (-1), .ref (v 14), .ref (v 15), .ref (v 16), .ref (v 17), .ref (v 18), .ref (v 19), .ref (v 20), .int 0, .ref (v 22), .int 0, .ref (v 24), .ref (v 25), .int 0, .ref (v 27), .ref (v 28), .ref (v 29), .ref (v 30), .int 0, .int 0, .int 0, .int 0, .int 0, .ref (v 36), .long 0, .ref (v 38), .ref (v 39), .ref (v 40), .ref (v 41)])), (v 1, .inl (cI, 544, .inl (upd (upd (upd (fun _ => 0) 8 1) 9 1) 17 (-1)))), (v 38, .inl (cI, 4, .inl (upd (upd (upd (upd (fun _ => 0) 0 (-1)) 1 (-1)) 2 (-1)) 3 (-1))))]) [0, 1, 2] (by decide) rfl
  have hFc := va_free (wc := [(y0, .inr (12, [.int 0, .ref (v 1), .ref (v 2), .ref (v 3), .ref (v 4), .int 0, .ref (v 6), .int 0, .int 0, .int 0, .int 0, .int 0, .int 0, .int (-1), .ref (v 14), .ref (v 15), .ref (v 16), .ref (v 17), .ref (v 18), .ref (v 19), .ref (v 20), .int 0, .ref (v 22), .int 0, .ref (v 24), .ref (v 25), .int 0, .ref (v 27), .ref (v 28), .ref (v 29), .ref (v 30), .int 0, .int 0, .int 0, .int 0, .int 0, .ref (v 36), .long 0, .ref (v 38), .ref (v 39), .ref (v 40), .ref (v 41)])), (v 1, .inl (cI, 544, .inl (upd (upd (upd (fun _ => 0) 8 1) 9 1) 17 (-1)))), (v 38, .inl (cI, 4, .inl (upd (upd (upd (upd (fun _ => 0) 0 (-1)) 1 (-1)) 2 (-1)) 3 (-1))))]) hD hS hA [0, 1, 2] rfl
  refine va_calli (va_runV (As := [.int (xs (1 : Int32).toNatClampNeg)]) (rest := [.int r1]) ⟨hx, hb, hml, hown, hwd⟩ (c_X12_count l dC dI cI cZ cB cJ cM y0 v (xs (1 : Int32).toNatClampNeg) H.size) (cwV 1 hwd (gV kr32_6 kr32_7 kr32_8 kr1_5 kr32_9) rfl rfl rfl (by decide +kernel) ⟨Nat.le_of_ble_eq_true rfl, Nat.le_of_ble_eq_true rfl⟩) (kPreV hPc hK hDc (ci := 12) (q0 := 0) rfl rfl) rfl rfl hl.1 rfl (lv_room (Nat.le_of_ble_eq_true rfl)) dL_law_1498 ⟨Nat.le_of_ble_eq_true rfl, Nat.le_of_ble_eq_true rfl⟩) hS (fun q _ h => hFc q h) hFc (fun r4 u5 t H1 locs ht9 hvm hw hB hz1 hk1 hS => ?_)
  obtain ⟨hP, hD⟩ := va_join (wr := []) (w1 := []) hP hD [0, 1, 2] [] rfl rfl (by decide) (by decide) hk1 hFc kP0 kD0
  generalize H1 = H at hP hS ⊢
  have hP : va_P (dC, dI) vwCl [] H := hP
  have hD : va_D (fun q : Nat => s.heap.size ≤ q) [] := hD
  have hs6 := hw
  refine lv_icmp_eq (tgt := 1731) hx hb dL_law_1501 (by decide) (fun c7 => ?_) (fun c7 => absurd (by simp only [Sp_count] at hs3 hs6; rw [ki_eq]; omega) c7)
  exact law_tail C0 hS (lv_sub hl [3, 0] rfl)
set_option maxHeartbeats 4000000 in
set_option maxRecDepth 100000 in
/-- the call of keep on two fresh objects -/
theorem lcase_43 {p : Program} {l : Launch} {e : Env} {s : State} {m : MethodId} {below : List Frame} {meth : Method} {c : Code} {b : Nat} {xs : Nat → Int32} {dC : Nat → ClassId} {dI : Nat → Nat → Nat} {cI cZ cB cJ cM : ClassId} (x0 y0 : Nat) (u v : Nat → Nat) {H : Heap} {locs : List Loc} {ls : Array Slot} (C0 : lw_At p s m meth c b 6 xs) (hK : va_K (dC, dI) vwCl [(cI, .int), (cZ, .boolean), (cB, .byte), (cJ, .long), (cM, .object RX2)] s) (hP : va_P (dC, dI) vwCl [(x0, .inr (11, [.ref (u 0), .ref (u 2), .ref (u 3), .ref (u 4), .ref (u 5), .ref (u 10), .ref (u 11), .ref (u 12), .ref (u 98), .ref (u 124)])), (u 11, .inl (cM, 3, .inr (.inr (.inr (.inr (va_up (va_up (va_up (fun _ => none) 0 (some (u 20))) 1 (some (u 46))) 2 (some (u 72)))))))), (u 12, .inl (cZ, 3, .inl (fun _ => 0))), (u 20, .inr (2, [.int 0, .int 0, .int 0, .int 0, .int 0, .int 0, .int 0, .int 0, .int 0, .ref (u 21), .ref (u 29), .ref (u 39), .ref (u 44), .ref (u 45)])), (u 21, .inr (3, [.int 0, .ref (u 22), .ref (u 23), .ref (u 24), .ref (u 25), .ref (u 26), .ref (u 27), .ref (u 28)])), (u 22, .inl (cI, 24, .inl (fun _ => 0))), (u 23, .inl (cI, 24, .inl (fun _ => 0))), (u 24, .inl (cI, 24, .inl (fun _ => 0))), (u 25, .inl (cI, 24, .inl (fun _ => 0))), (u 26, .inl (cI, 24, .inl (fun _ => 0))), (u 27, .inl (cI, 24, .inl (fun _ => 0))), (u 28, .inl (cZ, 24, .inl (fun _ => 0))), (u 29, .inr (1, [.int 0, .ref (u 30), .ref (u 31), .ref (u 32), .ref (u 33), .ref (u 34), .ref (u 35), .ref (u 36), .ref (u 37), .ref (u 38)])), (u 30, .inl (cI, 10, .inl (fun _ => 0))), (u 31, .inl (cI, 10, .inl (fun _ => 0))), (u 32, .inl (cI, 10, .inl (fun _ => 0))), (u 33, .inl (cI, 10, .inl (fun _ => 0))), (u 34, .inl (cI, 10, .inl (fun _ => 0))), (u 35, .inl (cI, 10, .inl (fun _ => 0))), (u 36, .inl (cI, 10, .inl (fun _ => 0))), (u 37, .inl (cI, 10, .inl (fun _ => 0))), (u 38, .inl (cI, 210, .inl (fun _ => 0))), (u 39, .inr (4, [.int 0, .ref (u 40), .ref (u 41), .ref (u 42), .ref (u 43)])), (u 40, .inl (cI, 4, .inl (fun _ => 0))), (u 41, .inl (cI, 4, .inl (fun _ => 0))), (u 42, .inl (cI, 4, .inl (fun _ => 0))), (u 43, .inl (cI, 4, .inl (fun _ => 0))), (u 44, .inr (7, [.int 0, .int 0, .int 0, .int 0, .int 0, .int 0, .int (-1), .int 0])), (u 45, .inl (cI, 60, .inl (fun _ => 0))), (u 46, .inr (2, [.int 0, .int 0, .int 0, .int 0, .int 0, .int 0, .int 0, .int 0, .int 0, .ref (u 47), .ref (u 55), .ref (u 65), .ref (u 70), .ref (u 71)])), (u 47, .inr (3, [.int 0, .ref (u 48), .ref (u 49), .ref (u 50), .ref (u 51), .ref (u 52), .ref (u 53), .ref (u 54)])), (u 48, .inl (cI, 24, .inl (fun _ => 0))), (u 49, .inl (cI, 24, .inl (fun _ => 0))), (u 50, .inl (cI, 24, .inl (fun _ => 0))), (u 51, .inl (cI, 24, .inl (fun _ => 0))), (u 52, .inl (cI, 24, .inl (fun _ => 0))), (u 53, .inl (cI, 24, .inl (fun _ => 0))), (u 54, .inl (cZ, 24, .inl (fun _ => 0))), (u 55, .inr (1, [.int 0, .ref (u 56), .ref (u 57), .ref (u 58), .ref (u 59), .ref (u 60), .ref (u 61), .ref (u 62), .ref (u 63), .ref (u 64)])), (u 56, .inl (cI, 10, .inl (fun _ => 0))), (u 57, .inl (cI, 10, .inl (fun _ => 0))), (u 58, .inl (cI, 10, .inl (fun _ => 0))), (u 59, .inl (cI, 10, .inl (fun _ => 0))), (u 60, .inl (cI, 10, .inl (fun _ => 0))), (u 61, .inl (cI, 10, .inl (fun _ => 0))), (u 62, .inl (cI, 10, .inl (fun _ => 0))), (u 63, .inl (cI, 10, .inl (fun _ => 0))), (u 64, .inl (cI, 210, .inl (fun _ => 0))), (u 65, .inr (4, [.int 0, .ref (u 66), .ref (u 67), .ref (u 68), .ref (u 69)])), (u 66, .inl (cI, 4, .inl (fun _ => 0))), (u 67, .inl (cI, 4, .inl (fun _ => 0))), (u 68, .inl (cI, 4, .inl (fun _ => 0))), (u 69, .inl (cI, 4, .inl (fun _ => 0))), (u 70, .inr (7, [.int 0, .int 0, .int 0, .int 0, .int 0, .int 0, .int (-1), .int 0])), (u 71, .inl (cI, 60, .inl (fun _ => 0))), (u 72, .inr (2, [.int 0, .int 0, .int 0, .int 0, .int 0, .int 0, .int 0, .int 0, .int 0, .ref (u 73), .ref (u 81), .ref (u 91), .ref (u 96), .ref (u 97)])), (u 73, .inr (3, [.int 0, .ref (u 74), .ref (u 75), .ref (u 76), .ref (u 77), .ref (u 78), .ref (u 79), .ref (u 80)])), (u 74, .inl (cI, 24, .inl (fun _ => 0))), (u 75, .inl (cI, 24, .inl (fun _ => 0))), (u 76, .inl (cI, 24, .inl (fun _ => 0))), (u 77, .inl (cI, 24, .inl (fun _ => 0))), (u 78, .inl (cI, 24, .inl (fun _ => 0))), (u 79, .inl (cI, 24, .inl (fun _ => 0))), (u 80, .inl (cZ, 24, .inl (fun _ => 0))), (u 81, .inr (1, [.int 0, .ref (u 82), .ref (u 83), .ref (u 84), .ref (u 85), .ref (u 86), .ref (u 87), .ref (u 88), .ref (u 89), .ref (u 90)])), (u 82, .inl (cI, 10, .inl (fun _ => 0))), (u 83, .inl (cI, 10, .inl (fun _ => 0))), (u 84, .inl (cI, 10, .inl (fun _ => 0))), (u 85, .inl (cI, 10, .inl (fun _ => 0))), (u 86, .inl (cI, 10, .inl (fun _ => 0))), (u 87, .inl (cI, 10, .inl (fun _ => 0))), (u 88, .inl (cI, 10, .inl (fun _ => 0))), (u 89, .inl (cI, 10, .inl (fun _ => 0))), (u 90, .inl (cI, 210, .inl (fun _ => 0))), (u 91, .inr (4, [.int 0, .ref (u 92), .ref (u 93), .ref (u 94), .ref (u 95)])), (u 92, .inl (cI, 4, .inl (fun _ => 0))), (u 93, .inl (cI, 4, .inl (fun _ => 0))), (u 94, .inl (cI, 4, .inl (fun _ => 0))), (u 95, .inl (cI, 4, .inl (fun _ => 0))), (u 96, .inr (7, [.int 0, .int 0, .int 0, .int 0, .int 0, .int 0, .int (-1), .int 0])), (u 97, .inl (cI, 60, .inl (fun _ => 0))), (u 98, .inr (2, [.int 0, .int 0, .int 0, .int 0, .int 0, .int 0, .int 0, .int 0, .int 0, .ref (u 99), .ref (u 107), .ref (u 117), .ref (u 122), .ref (u 123)])), (u 99, .inr (3, [.int 0, .ref (u 100), .ref (u 101), .ref (u 102), .ref (u 103), .ref (u 104), .ref (u 105), .ref (u 106)])), (u 100, .inl (cI, 24, .inl (fun _ => 0))), (u 101, .inl (cI, 24, .inl (fun _ => 0))), (u 102, .inl (cI, 24, .inl (fun _ => 0))), (u 103, .inl (cI, 24, .inl (fun _ => 0))), (u 104, .inl (cI, 24, .inl (fun _ => 0))), (u 105, .inl (cI, 24, .inl (fun _ => 0))), (u 106, .inl (cZ, 24, .inl (fun _ => 0))), (u 107, .inr (1, [.int 0, .ref (u 108), .ref (u 109), .ref (u 110), .ref (u 111), .ref (u 112), .ref (u 113), .ref (u 114), .ref (u 115), .ref (u 116)])), (u 108, .inl (cI, 10, .inl (fun _ => 0))), (u 109, .inl (cI, 10, .inl (fun _ => 0))), (u 110, .inl (cI, 10, .inl (fun _ => 0))), (u 111, .inl (cI, 10, .inl (fun _ => 0))), (u 112, .inl (cI, 10, .inl (fun _ => 0))), (u 113, .inl (cI, 10, .inl (fun _ => 0))), (u 114, .inl (cI, 10, .inl (fun _ => 0))), (u 115, .inl (cI, 10, .inl (fun _ => 0))), (u 116, .inl (cI, 210, .inl (fun _ => 0))), (u 117, .inr (4, [.int 0, .ref (u 118), .ref (u 119), .ref (u 120), .ref (u 121)])), (u 118, .inl (cI, 4, .inl (fun _ => 0))), (u 119, .inl (cI, 4, .inl (fun _ => 0))), (u 120, .inl (cI, 4, .inl (fun _ => 0))), (u 121, .inl (cI, 4, .inl (fun _ => 0))), (u 122, .inr (7, [.int 0, .int 0, .int 0, .int 0, .int 0, .int 0, .int (-1), .int 0])), (u 123, .inl (cI, 60, .inl (fun _ => 0))), (y0, .inr (12, [.int 0, .ref (v 1), .ref (v 2), .ref (v 3), .ref (v 4), .int 0, .ref (v 6), .int 0, .int 0, .int 0, .int 0, .int 0, .int 0, .int (-1), .ref (v 14), .ref (v 15), .ref (v 16), .ref (v 17), .ref (v 18), .ref (v 19), .ref (v 20), .int 0, .ref (v 22), .int 0, .ref (v 24), .ref (v 25), .int 0, .ref (v 27), .ref (v 28), .ref (v 29), .ref (v 30), .int 0, .int 0, .int 0, .int 0, .int 0, .ref (v 36), .long 0, .ref (v 38), .ref (v 39), .ref (v 40), .ref (v 41)])), (v 1, .inl (cI, 544, .inl (upd (upd (upd (fun _ => 0) 8 1) 9 1) 17 (-1)))), (v 2, .inl (cI, 1632, .inl (fun _ => 0))), (v 3, .inl (cZ, 3, .inl (fun _ => 0)))] H) (hD : va_D (fun q : Nat => s.heap.size ≤ q) [(x0, .inr (11, [.ref (u 0), .ref (u 2), .ref (u 3), .ref (u 4), .ref (u 5), .ref (u 10), .ref (u 11), .ref (u 12), .ref (u 98), .ref (u 124)])), (u 11, .inl (cM, 3, .inr (.inr (.inr (.inr (va_up (va_up (va_up (fun _ => none) 0 (some (u 20))) 1 (some (u 46))) 2 (some (u 72)))))))), (u 12, .inl (cZ, 3, .inl (fun _ => 0))), (u 20, .inr (2, [.int 0, .int 0, .int 0, .int 0, .int 0, .int 0, .int 0, .int 0, .int 0, .ref (u 21), .ref (u 29), .ref (u 39), .ref (u 44), .ref (u 45)])), (u 21, .inr (3, [.int 0, .ref (u 22), .ref (u 23), .ref (u 24), .ref (u 25), .ref (u 26), .ref (u 27), .ref (u 28)])), (u 22, .inl (cI, 24, .inl (fun _ => 0))), (u 23, .inl (cI, 24, .inl (fun _ => 0))), (u 24, .inl (cI, 24, .inl (fun _ => 0))), (u 25, .inl (cI, 24, .inl (fun _ => 0))), (u 26, .inl (cI, 24, .inl (fun _ => 0))), (u 27, .inl (cI, 24, .inl (fun _ => 0))), (u 28, .inl (cZ, 24, .inl (fun _ => 0))), (u 29, .inr (1, [.int 0, .ref (u 30), .ref (u 31), .ref (u 32), .ref (u 33), .ref (u 34), .ref (u 35), .ref (u 36), .ref (u 37), .ref (u 38)])), (u 30, .inl (cI, 10, .inl (fun _ => 0))), (u 31, .inl (cI, 10, .inl (fun _ => 0))), (u 32, .inl (cI, 10, .inl (fun _ => 0))), (u 33, .inl (cI, 10, .inl (fun _ => 0))), (u 34, .inl (cI, 10, .inl (fun _ => 0))), (u 35, .inl (cI, 10, .inl (fun _ => 0))), (u 36, .inl (cI, 10, .inl (fun _ => 0))), (u 37, .inl (cI, 10, .inl (fun _ => 0))), (u 38, .inl (cI, 210, .inl (fun _ => 0))), (u 39, .inr (4, [.int 0, .ref (u 40), .ref (u 41), .ref (u 42), .ref (u 43)])), (u 40, .inl (cI, 4, .inl (fun _ => 0))), (u 41, .inl (cI, 4, .inl (fun _ => 0))), (u 42, .inl (cI, 4, .inl (fun _ => 0))), (u 43, .inl (cI, 4, .inl (fun _ => 0))), (u 44, .inr (7, [.int 0, .int 0, .int 0, .int 0, .int 0, .int 0, .int (-1), .int 0])), (u 45, .inl (cI, 60, .inl (fun _ => 0))), (u 46, .inr (2, [.int 0, .int 0, .int 0, .int 0, .int 0, .int 0, .int 0, .int 0, .int 0, .ref (u 47), .ref (u 55), .ref (u 65), .ref (u 70), .ref (u 71)])), (u 47, .inr (3, [.int 0, .ref (u 48), .ref (u 49), .ref (u 50), .ref (u 51), .ref (u 52), .ref (u 53), .ref (u 54)])), (u 48, .inl (cI, 24, .inl (fun _ => 0))), (u 49, .inl (cI, 24, .inl (fun _ => 0))), (u 50, .inl (cI, 24, .inl (fun _ => 0))), (u 51, .inl (cI, 24, .inl (fun _ => 0))), (u 52, .inl (cI, 24, .inl (fun _ => 0))), (u 53, .inl (cI, 24, .inl (fun _ => 0))), (u 54, .inl (cZ, 24, .inl (fun _ => 0))), (u 55, .inr (1, [.int 0, .ref (u 56), .ref (u 57), .ref (u 58), .ref (u 59), .ref (u 60), .ref (u 61), .ref (u 62), .ref (u 63), .ref (u 64)])), (u 56, .inl (cI, 10, .inl (fun _ => 0))), (u 57, .inl (cI, 10, .inl (fun _ => 0))), (u 58, .inl (cI, 10, .inl (fun _ => 0))), (u 59, .inl (cI, 10, .inl (fun _ => 0))), (u 60, .inl (cI, 10, .inl (fun _ => 0))), (u 61, .inl (cI, 10, .inl (fun _ => 0))), (u 62, .inl (cI, 10, .inl (fun _ => 0))), (u 63, .inl (cI, 10, .inl (fun _ => 0))), (u 64, .inl (cI, 210, .inl (fun _ => 0))), (u 65, .inr (4, [.int 0, .ref (u 66), .ref (u 67), .ref (u 68), .ref (u 69)])), (u 66, .inl (cI, 4, .inl (fun _ => 0))), (u 67, .inl (cI, 4, .inl (fun _ => 0))), (u 68, .inl (cI, 4, .inl (fun _ => 0))), (u 69, .inl (cI, 4, .inl (fun _ => 0))), (u 70, .inr (7, [.int 0, .int 0, .int 0, .int 0, .int 0, .int 0, .int (-1), .int 0])), (u 71, .inl (cI, 60, .inl (fun _ => 0))), (u 72, .inr (2, [.int 0, .int 0, .int 0, .int 0, .int 0, .int 0, .int 0, .int 0, .int 0, .ref (u 73), .ref (u 81), .ref (u 91), .ref (u 96), .ref (u 97)])), (u 73, .inr (3, [.int 0, .ref (u 74), .ref (u 75), .ref (u 76), .ref (u 77), .ref (u 78), .ref (u 79), .ref (u 80)])), (u 74, .inl (cI, 24, .inl (fun _ => 0))), (u 75, .inl (cI, 24, .inl (fun _ => 0))), (u 76, .inl (cI, 24, .inl (fun _ => 0))), (u 77, .inl (cI, 24, .inl (fun _ => 0))), (u 78, .inl (cI, 24, .inl (fun _ => 0))), (u 79, .inl (cI, 24, .inl (fun _ => 0))), (u 80, .inl (cZ, 24, .inl (fun _ => 0))), (u 81, .inr (1, [.int 0, .ref (u 82), .ref (u 83), .ref (u 84), .ref (u 85), .ref (u 86), .ref (u 87), .ref (u 88), .ref (u 89), .ref (u 90)])), (u 82, .inl (cI, 10, .inl (fun _ => 0))), (u 83, .inl (cI, 10, .inl (fun _ => 0))), (u 84, .inl (cI, 10, .inl (fun _ => 0))), (u 85, .inl (cI, 10, .inl (fun _ => 0))), (u 86, .inl (cI, 10, .inl (fun _ => 0))), (u 87, .inl (cI, 10, .inl (fun _ => 0))), (u 88, .inl (cI, 10, .inl (fun _ => 0))), (u 89, .inl (cI, 10, .inl (fun _ => 0))), (u 90, .inl (cI, 210, .inl (fun _ => 0))), (u 91, .inr (4, [.int 0, .ref (u 92), .ref (u 93), .ref (u 94), .ref (u 95)])), (u 92, .inl (cI, 4, .inl (fun _ => 0))), (u 93, .inl (cI, 4, .inl (fun _ => 0))), (u 94, .inl (cI, 4, .inl (fun _ => 0))), (u 95, .inl (cI, 4, .inl (fun _ => 0))), (u 96, .inr (7, [.int 0, .int 0, .int 0, .int 0, .int 0, .int 0, .int (-1), .int 0])), (u 97, .inl (cI, 60, .inl (fun _ => 0))), (u 98, .inr (2, [.int 0, .int 0, .int 0, .int 0, .int 0, .int 0, .int 0, .int 0, .int 0, .ref (u 99), .ref (u 107), .ref (u 117), .ref (u 122), .ref (u 123)])), (u 99, .inr (3, [.int 0, .ref (u 100), .ref (u 101), .ref (u 102), .ref (u 103), .ref (u 104), .ref (u 105), .ref (u 106)])), (u 100, .inl (cI, 24, .inl (fun _ => 0))), (u 101, .inl (cI, 24, .inl (fun _ => 0))), (u 102, .inl (cI, 24, .inl (fun _ => 0))), (u 103, .inl (cI, 24, .inl (fun _ => 0))), (u 104, .inl (cI, 24, .inl (fun _ => 0))), (u 105, .inl (cI, 24, .inl (fun _ => 0))), (u 106, .inl (cZ, 24, .inl (fun _ => 0))), (u 107, .inr (1, [.int 0, .ref (u 108), .ref (u 109), .ref (u 110), .ref (u 111), .ref (u 112), .ref (u 113), .ref (u 114), .ref (u 115), .ref (u 116)])), (u 108, .inl (cI, 10, .inl (fun _ => 0))), (u 109, .inl (cI, 10, .inl (fun _ => 0))), (u 110, .inl (cI, 10, .inl (fun _ => 0))), (u 111, .inl (cI, 10, .inl (fun _ => 0))), (u 112, .inl (cI, 10, .inl (fun _ => 0))), (u 113, .inl (cI, 10, .inl (fun _ => 0))), (u 114, .inl (cI, 10, .inl (fun _ => 0))), (u 115, .inl (cI, 10, .inl (fun _ => 0))), (u 116, .inl (cI, 210, .inl (fun _ => 0))), (u 117, .inr (4, [.int 0, .ref (u 118), .ref (u 119), .ref (u 120), .ref (u 121)])), (u 118, .inl (cI, 4, .inl (fun _ => 0))), (u 119, .inl (cI, 4, .inl (fun _ => 0))), (u 120, .inl (cI, 4, .inl (fun _ => 0))), (u 121, .inl (cI, 4, .inl (fun _ => 0))), (u 122, .inr (7, [.int 0, .int 0, .int 0, .int 0, .int 0, .int 0, .int (-1), .int 0])), (u 123, .inl (cI, 60, .inl (fun _ => 0))), (y0, .inr (12, [.int 0, .ref (v 1), .ref (v 2), .ref (v 3), .ref (v 4), .int 0, .ref (v 6), .int 0, .int 0, .int 0, .int 0, .int 0, .int 0, .int (-1), .ref (v 14), .ref (v 15), .ref (v 16), .ref (v 17), .ref (v 18), .ref (v 19), .ref (v 20), .int 0, .ref (v 22), .int 0, .ref (v 24), .ref (v 25), .int 0, .ref (v 27), .ref (v 28), .ref (v 29), .ref (v 30), .int 0, .int 0, .int 0, .int 0, .int 0, .ref (v 36), .long 0, .ref (v 38), .ref (v 39), .ref (v 40), .ref (v 41)])), (v 1, .inl (cI, 544, .inl (upd (upd (upd (fun _ => 0) 8 1) 9 1) 17 (-1)))), (v 2, .inl (cI, 1632, .inl (fun _ => 0))), (v 3, .inl (cZ, 3, .inl (fun _ => 0)))]) (hS : va_S (fun q : Nat => s.heap.size ≤ q) s.heap H locs) (hl : lv_has ls 4 [(3, .int 0), (2, .ref y0), (1, .ref x0), (0, .ref b)]) : W p l e room_1 s m #[Value.ref b] below meth c H locs 600000 7302250 (lw_Z below #[Value.ref b] s) (F0 m 1506 ls []) := by
  obtain ⟨hx, hb, hr, hml, hown0, hts, hX, hbl, hlocks, hgv⟩ := id C0
  have hb : c.code = cL_law := hb
  have hown : s.vm.findClass RL = some m.cls := hown0
  have hwd : ∀ wd ∈ wsL_law, wd.before #[Value.ref b] s = true := fun w h => hts w (wsL_law_in w h)
  have hA : ∀ q : Nat, s.heap.size ≤ q → (fun q : Nat => s.heap.size ≤ q) q := fun _ h => h
  have hbA : ¬ (fun q : Nat => s.heap.size ≤ q) b := Nat.not_le.mpr hbl
  refine lv_aload_n hx hb dL_law_1506 rfl (lv_at hl 2 rfl) ?_
  refine lv_aload_n hx hb dL_law_1507 rfl (lv_at hl 3 rfl) ?_
  refine lv_iload_n hx hb dL_law_1508 rfl (lv_at hl 0 rfl) ?_
  refine lv_iconst (v := 1) hx hb dL_law_1509 (by decide) ?_
  refine lv_iadd hx hb dL_law_1510 ?_
  refine lv_topi (nm_r (e' := (1)) (by decide +kernel) ?_)
  refine va_sld hx hb hX hbl hbA hS (vin (by decide)) dL_law_1511 ?_
  have hPc := hP.sub (ws' := [(x0, .inr (11, [.ref (u 0), .ref (u 2), .ref (u 3), .ref (u 4), .ref (u 5), .ref (u 10), .ref (u 11), .ref (u 12), .ref (u 98), .ref (u 124)])), (u 11, .inl (cM, 3, .inr (.inr (.inr (.inr (va_up (va_up (va_up (fun _ => none) 0 (some (u 20))) 1 (some (u 46))) 2 (some (u 72)))))))), (u 12, .inl (cZ, 3, .inl (fun _ => 0))), (u 20, .inr (2, [.int 0, .int 0, .int 0, .int 0, .int 0, .int 0, .int 0, .int 0, .int 0, .ref (u 21), .ref (u 29), .ref (u 39), .ref (u 44), .ref (u 45)])), (u 21, .inr (3, [.int 0, .ref (u 22), .ref (u 23), .ref (u 24), .ref (u 25), .ref (u 26), .ref (u 27), .ref (u 28)])), (u 22, .inl (cI, 24, .inl (fun _ => 0))), (u 23, .inl (cI, 24, .inl (fun _ => 0))), (u 24, .inl (cI, 24, .inl (fun _ => 0))), (u 25, .inl (cI, 24, .inl (fun _ => 0))), (u 26, .inl (cI, 24, .inl (fun _ => 0))), (u 27, .inl (cI, 24, .inl (fun _ => 0))), (u 28, .inl (cZ, 24, .inl (fun _ => 0))), (u 29, .inr (1, [.int 0, .ref (u 30), .ref (u 31), .ref (u 32), .ref (u 33), .ref (u 34), .ref (u 35), .ref (u 36), .ref (u 37), .ref (u 38)])), (u 30, .inl (cI, 10, .inl (fun _ => 0))), (u 31, .inl (cI, 10, .inl (fun _ => 0))), (u 32, .inl (cI, 10, .inl (fun _ => 0))), (u 33, .inl (cI, 10, .inl (fun _ => 0))), (u 34, .inl (cI, 10, .inl (fun _ => 0))), (u 35, .inl (cI, 10, .inl (fun _ => 0))), (u 36, .inl (cI, 10, .inl (fun _ => 0))), (u 37, .inl (cI, 10, .inl (fun _ => 0))), (u 38, .inl (cI, 210, .inl (fun _ => 0))), (u 39, .inr (4, [.int 0, .ref (u 40), .ref (u 41), .ref (u 42), .ref (u 43)])), (u 40, .inl (cI, 4, .inl (fun _ => 0))), (u 41, .inl (cI, 4, .inl (fun _ => 0))), (u 42, .inl (cI, 4, .inl (fun _ => 0))), (u 43, .inl (cI, 4, .inl (fun _ => 0))), (u 44, .inr (7, [.int 0, .int 0, .int 0, .int 0, .int 0, .int 0, .int (-1), .int 0])), (u 45, .inl (cI, 60, .inl (fun _ => 0))), (u 46, .inr (2, [.int 0, .int 0, .int 0, .int 0, .int 0, .int 0, .int 0, .int 0, .int 0, .ref (u 47), .ref (u 55), .ref (u 65), .ref (u 70), .ref (u 71)])), (u 47, .inr (3, [.int 0, .ref (u 48), .ref (u 49), .ref (u 50), .ref (u 51), .ref (u 52), .ref (u 53), .ref (u 54)])), (u 48, .inl (cI, 24, .inl (fun _ => 0))), (u 49, .inl (cI, 24, .inl (fun _ => 0))), (u 50, .inl (cI, 24, .inl (fun _ => 0))), (u 51, .inl (cI, 24, .inl (fun _ => 0))), (u 52, .inl (cI, 24, .inl (fun _ => 0))), (u 53, .inl (cI, 24, .inl (fun _ => 0))), (u 54, .inl (cZ, 24, .inl (fun _ => 0))), (u 55, .inr (1, [.int 0, .ref (u 56), .ref (u 57), .ref (u 58), .ref (u 59), .ref (u 60), .ref (u 61), .ref (u 62), .ref (u 63), .ref (u 64)])), (u 56, .inl (cI, 10, .inl (fun _ => 0))), (u 57, .inl (cI, 10, .inl (fun _ => 0))), (u 58, .inl (cI, 10, .inl (fun _ => 0))), (u 59, .inl (cI, 10, .inl (fun _ => 0))), (u 60, .inl (cI, 10, .inl (fun _ => 0))), (u 61, .inl (cI, 10, .inl (fun _ => 0))), (u 62, .inl (cI, 10, .inl (fun _ => 0))), (u 63, .inl (cI, 10, .inl (fun _ => 0))), (u 64, .inl (cI, 210, .inl (fun _ => 0))), (u 65, .inr (4, [.int 0, .ref (u 66), .ref (u 67), .ref (u 68), .ref (u 69)])), (u 66, .inl (cI, 4, .inl (fun _ => 0))), (u 67, .inl (cI, 4, .inl (fun _ => 0))), (u 68, .inl (cI, 4, .inl (fun _ => 0))), (u 69, .inl (cI, 4, .inl (fun _ => 0))), (u 70, .inr (7, [.int 0, .int 0, .int 0, .int 0, .int 0, .int 0, .int (-1), .int 0])), (u 71, .inl (cI, 60, .inl (fun _ => 0))), (u 72, .inr (2, [.int 0, .int 0, .int 0, .int 0, .int 0, .int 0, .int 0, .int 0, .int 0, .ref (u 73), .ref (u 81), .ref (u 91), .ref (u 96), .ref (u 97)])), (u 73, .inr (3, [.int 0, .ref (u 74), .ref (u 75), .ref (u 76), .ref (u 77), .ref (u 78), .ref (u 79), .ref (u 80)])), (u 74, .inl (cI, 24, .inl (fun _ => 0))), (u 75, .inl (cI, 24, .inl (fun _ => 0))), (u 76, .inl (cI, 24, .inl (fun _ => 0))), (u 77, .inl (cI, 24, .inl (fun _ => 0))), (u 78, .inl (cI, 24, .inl (fun _ => 0))), (u 79, .inl (cI, 24, .inl (fun _ => 0))), (u 80, .inl (cZ, 24, .inl (fun _ => 0))), (u 81, .inr (1, [.int 0, .ref (u 82), .ref (u 83), .ref (u 84), .ref (u 85), .ref (u 86), .ref (u 87), .ref (u 88), .ref (u 89), .ref (u 90)])), (u 82, .inl (cI, 10, .inl (fun _ => 0))), (u 83, .inl (cI, 10, .inl (fun _ => 0))), (u 84, .inl (cI, 10, .inl (fun _ => 0))), (u 85, .inl (cI, 10, .inl (fun _ => 0))), (u 86, .inl (cI, 10, .inl (fun _ => 0))), (u 87, .inl (cI, 10, .inl (fun _ => 0))), (u 88, .inl (cI, 10, .inl (fun _ => 0))), (u 89, .inl (cI, 10, .inl (fun _ => 0))), (u 90, .inl (cI, 210, .inl (fun _ => 0))), (u 91, .inr (4, [.int 0, .ref (u 92), .ref (u 93), .ref (u 94), .ref (u 95)])), (u 92, .inl (cI, 4, .inl (fun _ => 0))), (u 93, .inl (cI, 4, .inl (fun _ => 0))), (u 94, .inl (cI, 4, .inl (fun _ => 0))), (u 95, .inl (cI, 4, .inl (fun _ => 0))), (u 96, .inr (7, [.int 0, .int 0, .int 0, .int 0, .int 0, .int 0, .int (-1), .int 0])), (u 97, .inl (cI, 60, .inl (fun _ => 0))), (u 98, .inr (2, [.int 0, .int 0, .int 0, .int 0, .int 0, .int 0, .int 0, .int 0, .int 0, .ref (u 99), .ref (u 107), .ref (u 117), .ref (u 122), .ref (u 123)])), (u 99, .inr (3, [.int 0, .ref (u 100), .ref (u 101), .ref (u 102), .ref (u 103), .ref (u 104), .ref (u 105), .ref (u 106)])), (u 100, .inl (cI, 24, .inl (fun _ => 0))), (u 101, .inl (cI, 24, .inl (fun _ => 0))), (u 102, .inl (cI, 24, .inl (fun _ => 0))), (u 103, .inl (cI, 24, .inl (fun _ => 0))), (u 104, .inl (cI, 24, .inl (fun _ => 0))), (u 105, .inl (cI, 24, .inl (fun _ => 0))), (u 106, .inl (cZ, 24, .inl (fun _ => 0))), (u 107, .inr (1, [.int 0, .ref (u 108), .ref (u 109), .ref (u 110), .ref (u 111), .ref (u 112), .ref (u 113), .ref (u 114), .ref (u 115), .ref (u 116)])), (u 108, .inl (cI, 10, .inl (fun _ => 0))), (u 109, .inl (cI, 10, .inl (fun _ => 0))), (u 110, .inl (cI, 10, .inl (fun _ => 0))), (u 111, .inl (cI, 10, .inl (fun _ => 0))), (u 112, .inl (cI, 10, .inl (fun _ => 0))), (u 113, .inl (cI, 10, .inl (fun _ => 0))), (u 114, .inl (cI, 10, .inl (fun _ => 0))), (u 115, .inl (cI, 10, .inl (fun _ => 0))), (u 116, .inl (cI, 210, .inl (fun _ => 0))), (u 117, .inr (4, [.int 0, .ref (u 118), .ref (u 119), .ref (u 120), .ref (u 121)])), (u 118, .inl (cI, 4, .inl (fun _ => 0))), (u 119, .inl (cI, 4, .inl (fun _ => 0))), (u 120, .inl (cI, 4, .inl (fun _ => 0))), (u 121, .inl (cI, 4, .inl (fun _ => 0))), (u 122, .inr (7, [.int 0, .int 0, .int 0, .int 0, .int 0, .int 0, .int (-1), .int 0])), (u 123, .inl (cI, 60, .inl (fun _ => 0)))]) [0, 1, 2, 3, 4, 5, 6, 7, 8, 9, 10, 11, 12, 13, 14, 15, 16, 17, 18, 19, 20, 21, 22, 23, 24, 25, 26, 27, 28, 29, 30, 31, 32, 33, 34, 35, 36, 37, 38, 39, 40, 41, 42, 43, 44, 45, 46, 47, 48, 49, 50, 51, 52, 53, 54, 55, 56, 57, 58, 59, 60, 61, 62, 63, 64, 65, 66, 67, 68, 69, 70, 71, 72, 73, 74, 75, 76, 77, 78, 79, 80, 81, 82, 83, 84, 85, 86, 87, 88, 89, 90, 91, 92, 93, 94, 95, 96, 97, 98, 99, 100, 101, 102, 103, 104, 105, 106] rfl
  have hDc := hD.sub (ws' := [(x0, .inr (11, [.ref (u 0), .ref (u 2), .ref (u 3), .ref (u 4), .ref (u 5), .ref (u 10), .ref (u 11), .ref (u 12), .ref (u 98), .ref (u 124)])), (u 11, .inl (cM, 3, .inr (.inr (.inr (.inr (va_up (va_up (va_up (fun _ => none) 0 (some (u 20))) 1 (some (u 46))) 2 (some (u 72)))))))), (u 12, .inl (cZ, 3, .inl (fun _ => 0))), (u 20, .inr (2, [.int 0, .int 0, .int 0, .int 0, .int 0, .int 0, .int 0, .int 0, .int 0, .ref (u 21), .ref (u 29), .ref (u 39), .ref (u 44), .ref (u 45)])), (u 21, .inr (3, [.int 0, .ref (u 22), .ref (u 23), .ref (u 24), .ref (u 25), .ref (u 26), .ref (u 27), .ref (u 28)])), (u 22, .inl (cI, 24, .inl (fun _ => 0))), (u 23, .inl (cI, 24, .inl (fun _ => 0))), (u 24, .inl (cI, 24, .inl (fun _ => 0))), (u 25, .inl (cI, 24, .inl (fun _ => 0))), (u 26, .inl (cI, 24, .inl (fun _ => 0))), (u 27, .inl (cI, 24, .inl (fun _ => 0))), (u 28, .inl (cZ, 24, .inl (fun _ => 0))), (u 29, .inr (1, [.int 0, .ref (u 30), .ref (u 31), .ref (u 32), .ref (u 33), .ref (u 34), .ref (u 35), .ref (u 36), .ref (u 37), .ref (u 38)])), (u 30, .inl (cI, 10, .inl (fun _ => 0))), (u 31, .inl (cI, 10, .inl (fun _ => 0))), (u 32, .inl (cI, 10, .inl (fun _ => 0))), (u 33, .inl (cI, 10, .inl (fun _ => 0))), (u 34, .inl (cI, 10, .inl (fun _ => 0))), (u 35, .inl (cI, 10, .inl (fun _ => 0))), (u 36, .inl (cI, 10, .inl (fun _ => 0))), (u 37, .inl (cI, 10, .inl (fun _ => 0))), (u 38, .inl (cI, 210, .inl (fun _ => 0))), (u 39, .inr (4, [.int 0, .ref (u 40), .ref (u 41), .ref (u 42), .ref (u 43)])), (u 40, .inl (cI, 4, .inl (fun _ => 0))), (u 41, .inl (cI, 4, .inl (fun _ => 0))), (u 42, .inl (cI, 4, .inl (fun _ => 0))), (u 43, .inl (cI, 4, .inl (fun _ => 0))), (u 44, .inr (7, [.int 0, .int 0, .int 0, .int 0, .int 0, .int 0, .int (-1), .int 0])), (u 45, .inl (cI, 60, .inl (fun _ => 0))), (u 46, .inr (2, [.int 0, .int 0, .int 0, .int 0, .int 0, .int 0, .int 0, .int 0, .int 0, .ref (u 47), .ref (u 55), .ref (u 65), .ref (u 70), .ref (u 71)])), (u 47, .inr (3, [.int 0, .ref (u 48), .ref (u 49), .ref (u 50), .ref (u 51), .ref (u 52), .ref (u 53), .ref (u 54)])), (u 48, .inl (cI, 24, .inl (fun _ => 0))), (u 49, .inl (cI, 24, .inl (fun _ => 0))), (u 50, .inl (cI, 24, .inl (fun _ => 0))), (u 51, .inl (cI, 24, .inl (fun _ => 0))), (u 52, .inl (cI, 24, .inl (fun _ => 0))), (u 53, .inl (cI, 24, .inl (fun _ => 0))), (u 54, .inl (cZ, 24, .inl (fun _ => 0))), (u 55, .inr (1, [.int 0, .ref (u 56), .ref (u 57), .ref (u 58), .ref (u 59), .ref (u 60), .ref (u 61), .ref (u 62), .ref (u 63), .ref (u 64)])), (u 56, .inl (cI, 10, .inl (fun _ => 0))), (u 57, .inl (cI, 10, .inl (fun _ => 0))), (u 58, .inl (cI, 10, .inl (fun _ => 0))), (u 59, .inl (cI, 10, .inl (fun _ => 0))), (u 60, .inl (cI, 10, .inl (fun _ => 0))), (u 61, .inl (cI, 10, .inl (fun _ => 0))), (u 62, .inl (cI, 10, .inl (fun _ => 0))), (u 63, .inl (cI, 10, .inl (fun _ => 0))), (u 64, .inl (cI, 210, .inl (fun _ => 0))), (u 65, .inr (4, [.int 0, .ref (u 66), .ref (u 67), .ref (u 68), .ref (u 69)])), (u 66, .inl (cI, 4, .inl (fun _ => 0))), (u 67, .inl (cI, 4, .inl (fun _ => 0))), (u 68, .inl (cI, 4, .inl (fun _ => 0))), (u 69, .inl (cI, 4, .inl (fun _ => 0))), (u 70, .inr (7, [.int 0, .int 0, .int 0, .int 0, .int 0, .int 0, .int (-1), .int 0])), (u 71, .inl (cI, 60, .inl (fun _ => 0))), (u 72, .inr (2, [.int 0, .int 0, .int 0, .int 0, .int 0, .int 0, .int 0, .int 0, .int 0, .ref (u 73), .ref (u 81), .ref (u 91), .ref (u 96), .ref (u 97)])), (u 73, .inr (3, [.int 0, .ref (u 74), .ref (u 75), .ref (u 76), .ref (u 77), .ref (u 78), .ref (u 79), .ref (u 80)])), (u 74, .inl (cI, 24, .inl (fun _ => 0))), (u 75, .inl (cI, 24, .inl (fun _ => 0))), (u 76, .inl (cI, 24, .inl (fun _ => 0))), (u 77, .inl (cI, 24, .inl (fun _ => 0))), (u 78, .inl (cI, 24, .inl (fun _ => 0))), (u 79, .inl (cI, 24, .inl (fun _ => 0))), (u 80, .inl (cZ, 24, .inl (fun _ => 0))), (u 81, .inr (1, [.int 0, .ref (u 82), .ref (u 83), .ref (u 84), .ref (u 85), .ref (u 86), .ref (u 87), .ref (u 88), .ref (u 89), .ref (u 90)])), (u 82, .inl (cI, 10, .inl (fun _ => 0))), (u 83, .inl (cI, 10, .inl (fun _ => 0))), (u 84, .inl (cI, 10, .inl (fun _ => 0))), (u 85, .inl (cI, 10, .inl (fun _ => 0))), (u 86, .inl (cI, 10, .inl (fun _ => 0))), (u 87, .inl (cI, 10, .inl (fun _ => 0))), (u 88, .inl (cI, 10, .inl (fun _ => 0))), (u 89, .inl (cI, 10, .inl (fun _ => 0))), (u 90, .inl (cI, 210, .inl (fun _ => 0))), (u 91, .inr (4, [.int 0, .ref (u 92), .ref (u 93), .ref (u 94), .ref (u 95)])), (u 92, .inl (cI, 4, .inl (fun _ => 0))), (u 93, .inl (cI, 4, .inl (fun _ => 0))), (u 94, .inl (cI, 4, .inl (fun _ => 0))), (u 95, .inl (cI, 4, .inl (fun _ => 0))), (u 96, .inr (7, [.int 0, .int 0, .int 0, .int 0, .int 0, .int 0, .int (-1), .int 0])), (u 97, .inl (cI, 60, .inl (fun _ => 0))), (u 98, .inr (2, [.int 0, .int 0, .int 0, .int 0, .int 0, .int 0, .int 0, .int 0, .int 0, .ref (u 99), .ref (u 107), .ref (u 117), .ref (u 122), .ref (u 123)])), (u 99, .inr (3, [.int 0, .ref (u 100), .ref (u 101), .ref (u 102), .ref (u 103), .ref (u 104), .ref (u 105), .ref (u 106)])), (u 100, .inl (cI, 24, .inl (fun _ => 0))), (u 101, .inl (cI, 24, .inl (fun _ => 0))), (u 102, .inl (cI, 24, .inl (fun _ => 0))), (u 103, .inl (cI, 24, .inl (fun _ => 0))), (u 104, .inl (cI, 24, .inl (fun _ => 0))), (u 105, .inl (cI, 24, .inl (fun _ => 0))), (u 106, .inl (cZ, 24, .inl (fun _ => 0))), (u 107, .inr (1, [.int 0, .ref (u 108), .ref (u 109), .ref (u 110), .ref (u 111), .ref (u 112), .ref (u 113), .ref (u 114), .ref (u 115), .ref (u 116)])), (u 108, .inl (cI, 10, .inl (fun _ => 0))), (u 109, .inl (cI, 10, .inl (fun _ => 0))), (u 110, .inl (cI, 10, .inl (fun _ => 0))), (u 111, .inl (cI, 10, .inl (fun _ => 0))), (u 112, .inl (cI, 10, .inl (fun _ => 0))), (u 113, .inl (cI, 10, .inl (fun _ => 0))), (u 114, .inl (cI, 10, .inl (fun _ => 0))), (u 115, .inl (cI, 10, .inl (fun _ => 0))), (u 116, .inl (cI, 210, .inl (fun _ => 0))), (u 117, .inr (4, [.int 0, .ref (u 118), .ref (u 119), .ref (u 120), .ref (u 121)])), (u 118, .inl (cI, 4, .inl (fun _ => 0))), (u 119, .inl (cI, 4, .inl (fun _ => 0))), (u 120, .inl (cI, 4, .inl (fun _ => 0))), (u 121, .inl (cI, 4, .inl (fun _ => 0))), (u 122, .inr (7, [.int 0, .int 0, .int 0, .int 0, .int 0, .int 0, .int (-1), .int 0])), (u 123, .inl (cI, 60, .inl (fun _ => 0)))]) [0, 1, 2, 3, 4, 5, 6, 7, 8, 9, 10, 11, 12, 13, 14, 15, 16, 17, 18, 19, 20, 21, 22, 23, 24, 25, 26, 27, 28, 29, 30, 31, 32, 33, 34, 35, 36, 37, 38, 39, 40, 41, 42, 43, 44, 45, 46, 47, 48, 49, 50, 51, 52, 53, 54, 55, 56, 57, 58, 59, 60, 61, 62, 63, 64, 65, 66, 67, 68, 69, 70, 71, 72, 73, 74, 75, 76, 77, 78, 79, 80, 81, 82, 83, 84, 85, 86, 87, 88, 89, 90, 91, 92, 93, 94, 95, 96, 97, 98, 99, 100, 101, 102, 103, 104, 105, 106] (by decide) rfl
  have hFc := va_free (wc := [(x0, .inr (11, [.ref (u 0), .ref (u 2), .ref (u 3), .ref (u 4), .ref (u 5), .ref (u 10), .ref (u 11), .ref (u 12), .ref (u 98), .ref (u 124)])), (u 11, .inl (cM, 3, .inr (.inr (.inr (.inr (va_up (va_up (va_up (fun _ => none) 0 (some (u 20))) 1 (some (u 46))) 2 (some (u 72)))))))), (u 12, .inl (cZ, 3, .inl (fun _ => 0))), (u 20, .inr (2, [.int 0, .int 0, .int 0, .int 0, .int 0, .int 0, .int 0, .int 0, .int 0, .ref (u 21), .ref (u 29), .ref (u 39), .ref (u 44), .ref (u 45)])), (u 21, .inr (3, [.int 0, .ref (u 22), .ref (u 23), .ref (u 24), .ref (u 25), .ref (u 26), .ref (u 27), .ref (u 28)])), (u 22, .inl (cI, 24, .inl (fun _ => 0))), (u 23, .inl (cI, 24, .inl (fun _ => 0))), (u 24, .inl (cI, 24, .inl (fun _ => 0))), (u 25, .inl (cI, 24, .inl (fun _ => 0))), (u 26, .inl (cI, 24, .inl (fun _ => 0))), (u 27, .inl (cI, 24, .inl (fun _ => 0))), (u 28, .inl (cZ, 24, .inl (fun _ => 0))), (u 29, .inr (1, [.int 0, .ref (u 30), .ref (u 31), .ref (u 32), .ref (u 33), .ref (u 34), .ref (u 35), .ref (u 36), .ref (u 37), .ref (u 38)])), (u 30, .inl (cI, 10, .inl (fun _ => 0))), (u 31, .inl (cI, 10, .inl (fun _ => 0))), (u 32, .inl (cI, 10, .inl (fun _ => 0))), (u 33, .inl (cI, 10, .inl (fun _ => 0))), (u 34, .inl (cI, 10, .inl (fun _ => 0))), (u 35, .inl (cI, 10, .inl (fun _ => 0))), (u 36, .inl (cI, 10, .inl (fun _ => 0))), (u 37, .inl (cI, 10, .inl (fun _ => 0))), (u 38, .inl (cI, 210, .inl (fun _ => 0))), (u 39, .inr (4, [.int 0, .ref (u 40), .ref (u 41), .ref (u 42), .ref (u 43)])), (u 40, .inl (cI, 4, .inl (fun _ => 0))), (u 41, .inl (cI, 4, .inl (fun _ => 0))), (u 42, .inl (cI, 4, .inl (fun _ => 0))), (u 43, .inl (cI, 4, .inl (fun _ => 0))), (u 44, .inr (7, [.int 0, .int 0, .int 0, .int 0, .int 0, .int 0, .int (-1), .int 0])), (u 45, .inl (cI, 60, .inl (fun _ => 0))), (u 46, .inr (2, [.int 0, .int 0, .int 0, .int 0, .int 0, .int 0, .int 0, .int 0, .int 0, .ref (u 47), .ref (u 55), .ref (u 65), .ref (u 70), .ref (u 71)])), (u 47, .inr (3, [.int 0, .ref (u 48), .ref (u 49), .ref (u 50), .ref (u 51), .ref (u 52), .ref (u 53), .ref (u 54)])), (u 48, .inl (cI, 24, .inl (fun _ => 0))), (u 49, .inl (cI, 24, .inl (fun _ => 0))), (u 50, .inl (cI, 24, .inl (fun _ => 0))), (u 51, .inl (cI, 24, .inl (fun _ => 0))), (u 52, .inl (cI, 24, .inl (fun _ => 0))), (u 53, .inl (cI, 24, .inl (fun _ => 0))), (u 54, .inl (cZ, 24, .inl (fun _ => 0))), (u 55, .inr (1, [.int 0, .ref (u 56), .ref (u 57), .ref (u 58), .ref (u 59), .ref (u 60), .ref (u 61), .ref (u 62), .ref (u 63), .ref (u 64)])), (u 56, .inl (cI, 10, .inl (fun _ => 0))), (u 57, .inl (cI, 10, .inl (fun _ => 0))), (u 58, .inl (cI, 10, .inl (fun _ => 0))), (u 59, .inl (cI, 10, .inl (fun _ => 0))), (u 60, .inl (cI, 10, .inl (fun _ => 0))), (u 61, .inl (cI, 10, .inl (fun _ => 0))), (u 62, .inl (cI, 10, .inl (fun _ => 0))), (u 63, .inl (cI, 10, .inl (fun _ => 0))), (u 64, .inl (cI, 210, .inl (fun _ => 0))), (u 65, .inr (4, [.int 0, .ref (u 66), .ref (u 67), .ref (u 68), .ref (u 69)])), (u 66, .inl (cI, 4, .inl (fun _ => 0))), (u 67, .inl (cI, 4, .inl (fun _ => 0))), (u 68, .inl (cI, 4, .inl (fun _ => 0))), (u 69, .inl (cI, 4, .inl (fun _ => 0))), (u 70, .inr (7, [.int 0, .int 0, .int 0, .int 0, .int 0, .int 0, .int (-1), .int 0])), (u 71, .inl (cI, 60, .inl (fun _ => 0))), (u 72, .inr (2, [.int 0, .int 0, .int 0, .int 0, .int 0, .int 0, .int 0, .int 0, .int 0, .ref (u 73), .ref (u 81), .ref (u 91), .ref (u 96), .ref (u 97)])), (u 73, .inr (3, [.int 0, .ref (u 74), .ref (u 75), .ref (u 76), .ref (u 77), .ref (u 78), .ref (u 79), .ref (u 80)])), (u 74, .inl (cI, 24, .inl (fun _ => 0))), (u 75, .inl (cI, 24, .inl (fun _ => 0))), (u 76, .inl (cI, 24, .inl (fun _ => 0))), (u 77, .inl (cI, 24, .inl (fun _ => 0))), (u 78, .inl (cI, 24, .inl (fun _ => 0))), (u 79, .inl (cI, 24, .inl (fun _ => 0))), (u 80, .inl (cZ, 24, .inl (fun _ => 0))), (u 81, .inr (1, [.int 0, .ref (u 82), .ref (u 83), .ref (u 84), .ref (u 85), .ref (u 86), .ref (u 87), .ref (u 88), .ref (u 89), .ref (u 90)])), (u 82, .inl (cI, 10, .inl (fun _ => 0))), (u 83, .inl (cI, 10, .inl (fun _ => 0))), (u 84, .inl (cI, 10, .inl (fun _ => 0))), (u 85, .inl (cI, 10, .inl (fun _ => 0))), (u 86, .inl (cI, 10, .inl (fun _ => 0))), (u 87, .inl (cI, 10, .inl (fun _ => 0))), (u 88, .inl (cI, 10, .inl (fun _ => 0))), (u 89, .inl (cI, 10, .inl (fun _ => 0))), (u 90, .inl (cI, 210, .inl (fun _ => 0))), (u 91, .inr (4, [.int 0, .ref (u 92), .ref (u 93), .ref (u 94), .ref (u 95)])), (u 92, .inl (cI, 4, .inl (fun _ => 0))), (u 93, .inl (cI, 4, .inl (fun _ => 0))), (u 94, .inl (cI, 4, .inl (fun _ => 0))), (u 95, .inl (cI, 4, .inl (fun _ => 0))), (u 96, .inr (7, [.int 0, .int 0, .int 0, .int 0, .int 0, .int 0, .int (-1), .int 0])), (u 97, .inl (cI, 60, .inl (fun _ => 0))), (u 98, .inr (2, [.int 0, .int 0, .int 0, .int 0, .int 0, .int 0, .int 0, .int 0, .int 0, .ref (u 99), .ref (u 107), .ref (u 117), .ref (u 122), .ref (u 123)])), (u 99, .inr (3, [.int 0, .ref (u 100), .ref (u 101), .ref (u 102), .ref (u 103), .ref (u 104), .ref (u 105), .ref (u 106)])), (u 100, .inl (cI, 24, .inl (fun _ => 0))), (u 101, .inl (cI, 24, .inl (fun _ => 0))), (u 102, .inl (cI, 24, .inl (fun _ => 0))), (u 103, .inl (cI, 24, .inl (fun _ => 0))), (u 104, .inl (cI, 24, .inl (fun _ => 0))), (u 105, .inl (cI, 24, .inl (fun _ => 0))), (u 106, .inl (cZ, 24, .inl (fun _ => 0))), (u 107, .inr (1, [.int 0, .ref (u 108), .ref (u 109), .ref (u 110), .ref (u 111), .ref (u 112), .ref (u 113), .ref (u 114), .ref (u 115), .ref (u 116)])), (u 108, .inl (cI, 10, .inl (fun _ => 0))), (u 109, .inl (cI, 10, .inl (fun _ => 0))), (u 110, .inl (cI, 10, .inl (fun _ => 0))), (u 111, .inl (cI, 10, .inl (fun _ => 0))), (u 112, .inl (cI, 10, .inl (fun _ => 0))), (u 113, .inl (cI, 10, .inl (fun _ => 0))), (u 114, .inl (cI, 10, .inl (fun _ => 0))), (u 115, .inl (cI, 10, .inl (fun _ => 0))), (u 116, .inl (cI, 210, .inl (fun _ => 0))), (u 117, .inr (4, [.int 0, .ref (u 118), .ref (u 119), .ref (u 120), .ref (u 121)])), (u 118, .inl (cI, 4, .inl (fun _ => 0))), (u 119, .inl (cI, 4, .inl (fun _ => 0))), (u 120, .inl (cI, 4, .inl (fun _ => 0))), (u 121, .inl (cI, 4, .inl (fun _ => 0))), (u 122, .inr (7, [.int 0, .int 0, .int 0, .int 0, .int 0, .int 0, .int (-1), .int 0])), (u 123, .inl (cI, 60, .inl (fun _ => 0)))]) hD hS hA [0, 1, 2, 3, 4, 5, 6, 7, 8, 9, 10, 11, 12, 13, 14, 15, 16, 17, 18, 19, 20, 21, 22, 23, 24, 25, 26, 27, 28, 29, 30, 31, 32, 33, 34, 35, 36, 37, 38, 39, 40, 41, 42, 43, 44, 45, 46, 47, 48, 49, 50, 51, 52, 53, 54, 55, 56, 57, 58, 59, 60, 61, 62, 63, 64, 65, 66, 67, 68, 69, 70, 71, 72, 73, 74, 75, 76, 77, 78, 79, 80, 81, 82, 83, 84, 85, 86, 87, 88, 89, 90, 91, 92, 93, 94, 95, 96, 97, 98, 99, 100, 101, 102, 103, 104, 105, 106] rfl
  refine va_calli (va_runV (As := [.int (xs (1 : Int32).toNatClampNeg)]) (rest := []) ⟨hx, hb, hml, hown, hwd⟩ (c_X11_keep l dC dI cI cZ cB cJ cM x0 (u 0) (u 2) (u 3) (u 4) (u 5) (u 10) (u 11) (u 12) (u 98) (u 124) (u 20) (u 46) (u 72) (u 21) (u 29) (u 39) (u 44) (u 45) (u 22) (u 23) (u 24) (u 25) (u 26) (u 27) (u 28) (u 30) (u 31) (u 32) (u 33) (u 34) (u 35) (u 36) (u 37) (u 38) (u 40) (u 41) (u 42) (u 43) (u 47) (u 55) (u 65) (u 70) (u 71) (u 48) (u 49) (u 50) (u 51) (u 52) (u 53) (u 54) (u 56) (u 57) (u 58) (u 59) (u 60) (u 61) (u 62) (u 63) (u 64) (u 66) (u 67) (u 68) (u 69) (u 73) (u 81) (u 91) (u 96) (u 97) (u 74) (u 75) (u 76) (u 77) (u 78) (u 79) (u 80) (u 82) (u 83) (u 84) (u 85) (u 86) (u 87) (u 88) (u 89) (u 90) (u 92) (u 93) (u 94) (u 95) (u 99) (u 107) (u 117) (u 122) (u 123) (u 100) (u 101) (u 102) (u 103) (u 104) (u 105) (u 106) (u 108) (u 109) (u 110) (u 111) (u 112) (u 113) (u 114) (u 115) (u 116) (u 118) (u 119) (u 120) (u 121) (xs (1 : Int32).toNatClampNeg) H.size) (cwV 1 hwd (gV kr32_10 kr32_11 kr32_12 kr1_2 kr32_13) rfl rfl rfl (by decide +kernel) ⟨Nat.le_of_ble_eq_true rfl, Nat.le_of_ble_eq_true rfl⟩) (kPreV hPc hK hDc (ci := 11) (q0 := 0) rfl rfl) rfl rfl hl.1 rfl (lv_room (Nat.le_of_ble_eq_true rfl)) dL_law_1512 ⟨Nat.le_of_ble_eq_true rfl, Nat.le_of_ble_eq_true rfl⟩) hS (fun q _ h => hFc q h) hFc (fun r1 u2 t H1 locs ht9 hvm hw hB hz1 hk1 hS => ?_)
  obtain ⟨hP, hD⟩ := va_join (wr := [(y0, .inr (12, [.int 0, .ref (v 1), .ref (v 2), .ref (v 3), .ref (v 4), .int 0, .ref (v 6), .int 0, .int 0, .int 0, .int 0, .int 0, .int 0, .int (-1), .ref (v 14), .ref (v 15), .ref (v 16), .ref (v 17), .ref (v 18), .ref (v 19), .ref (v 20), .int 0, .ref (v 22), .int 0, .ref (v 24), .ref (v 25), .int 0, .ref (v 27), .ref (v 28), .ref (v 29), .ref (v 30), .int 0, .int 0, .int 0, .int 0, .int 0, .ref (v 36), .long 0, .ref (v 38), .ref (v 39), .ref (v 40), .ref (v 41)])), (v 1, .inl (cI, 544, .inl (upd (upd (upd (fun _ => 0) 8 1) 9 1) 17 (-1)))), (v 2, .inl (cI, 1632, .inl (fun _ => 0))), (v 3, .inl (cZ, 3, .inl (fun _ => 0)))]) (w1 := []) hP hD [0, 1, 2, 3, 4, 5, 6, 7, 8, 9, 10, 11, 12, 13, 14, 15, 16, 17, 18, 19, 20, 21, 22, 23, 24, 25, 26, 27, 28, 29, 30, 31, 32, 33, 34, 35, 36, 37, 38, 39, 40, 41, 42, 43, 44, 45, 46, 47, 48, 49, 50, 51, 52, 53, 54, 55, 56, 57, 58, 59, 60, 61, 62, 63, 64, 65, 66, 67, 68, 69, 70, 71, 72, 73, 74, 75, 76, 77, 78, 79, 80, 81, 82, 83, 84, 85, 86, 87, 88, 89, 90, 91, 92, 93, 94, 95, 96, 97, 98, 99, 100, 101, 102, 103, 104, 105, 106] [107, 108, 109, 110] rfl rfl (by decide) (by decide) hk1 hFc kP0 kD0
  generalize H1 = H at hP hS ⊢
  have hP : va_P (dC, dI) vwCl [(y0, .inr (12, [.int 0, .ref (v 1), .ref (v 2), .ref (v 3), .ref (v 4), .int 0, .ref (v 6), .int 0, .int 0, .int 0, .int 0, .int 0, .int 0, .int (-1), .ref (v 14), .ref (v 15), .ref (v 16), .ref (v 17), .ref (v 18), .ref (v 19), .ref (v 20), .int 0, .ref (v 22), .int 0, .ref (v 24), .ref (v 25), .int 0, .ref (v 27), .ref (v 28), .ref (v 29), .ref (v 30), .int 0, .int 0, .int 0, .int 0, .int 0, .ref (v 36), .long 0, .ref (v 38), .ref (v 39), .ref (v 40), .ref (v 41)])), (v 1, .inl (cI, 544, .inl (upd (upd (upd (fun _ => 0) 8 1) 9 1) 17 (-1)))), (v 2, .inl (cI, 1632, .inl (fun _ => 0))), (v 3, .inl (cZ, 3, .inl (fun _ => 0)))] H := hP
  have hD : va_D (fun q : Nat => s.heap.size ≤ q) [(y0, .inr (12, [.int 0, .ref (v 1), .ref (v 2), .ref (v 3), .ref (v 4), .int 0, .ref (v 6), .int 0, .int 0, .int 0, .int 0, .int 0, .int 0, .int (-1), .ref (v 14), .ref (v 15), .ref (v 16), .ref (v 17), .ref (v 18), .ref (v 19), .ref (v 20), .int 0, .ref (v 22), .int 0, .ref (v 24), .ref (v 25), .int 0, .ref (v 27), .ref (v 28), .ref (v 29), .ref (v 30), .int 0, .int 0, .int 0, .int 0, .int 0, .ref (v 36), .long 0, .ref (v 38), .ref (v 39), .ref (v 40), .ref (v 41)])), (v 1, .inl (cI, 544, .inl (upd (upd (upd (fun _ => 0) 8 1) 9 1) 17 (-1)))), (v 2, .inl (cI, 1632, .inl (fun _ => 0))), (v 3, .inl (cZ, 3, .inl (fun _ => 0)))] := hD
  have hs3 := hw
  refine lv_aload_n hx hb dL_law_1515 rfl (lv_at hl 1 rfl) ?_
  refine lv_aload_n hx hb dL_law_1516 rfl (lv_at hl 3 rfl) ?_
  refine lv_iload_n hx hb dL_law_1517 rfl (lv_at hl 0 rfl) ?_
  refine lv_iconst (v := 1) hx hb dL_law_1518 (by decide) ?_
  refine lv_iadd hx hb dL_law_1519 ?_
  refine lv_topi (nm_r (e' := (1)) (by decide +kernel) ?_)
  refine va_sld hx hb hX hbl hbA hS (vin (by decide)) dL_law_1520 ?_
  have hPc := hP.sub (ws' := [(y0, .inr (12, [.int 0, .ref (v 1), .ref (v 2), .ref (v 3), .ref (v 4), .int 0, .ref (v 6), .int 0, .int 0, .int 0, .int 0, .int 0, .int 0, .int (-1), .ref (v 14), .ref (v 15), .ref (v 16), .ref (v 17), .ref (v 18), .ref (v 19), .ref (v 20), .int 0, .ref (v 22), .int 0, .ref (v 24), .ref (v 25), .int 0, .ref (v 27), .ref (v 28), .ref (v 29), .ref (v 30), .int 0, .int 0, .int 0, .int 0, .int 0, .ref (v 36), .long 0, .ref (v 38), .ref (v 39), .ref (v 40), .ref (v 41)])), (v 1, .inl (cI, 544, .inl (upd (upd (upd (fun _ => 0) 8 1) 9 1) 17 (-1)))), (v 2, .inl (cI, 1632, .inl (fun _ => 0))), (v 3, .inl (cZ, 3, .inl (fun _ => 0)))]) [0, 1, 2, 3] rfl
  have hDc := hD.sub (ws' := [(y0, .inr (12, [.int 0, .ref (v 1), .ref (v 2), .ref (v 3), .ref (v 4), .int 0, .ref (v 6), .int 0, .int 0, .int 0, .int 0, .int 0, .int 0, .int (-1), .ref (v 14), .ref (v 15), .ref (v 16), .ref (v 17), .ref (v 18), .ref (v 19), .ref (v 20), .int 0, .ref (v 22), .int 0, .ref (v 24), .ref (v 25), .int 0, .ref (v 27), .ref (v 28), .ref (v 29), .ref (v 30), .int 0, .int 0, .int 0, .int 0, .int 0, .ref (v 36), .long 0, .ref (v 38), .ref (v 39), .ref (v 40), .ref (v 41)])), (v 1, .inl (cI, 544, .inl (upd (upd (upd (fun _ => 0) 8 1) 9 1) 17 (-1)))), (v 2, .inl (cI, 1632, .inl (fun _ => 0))), (v 3, .inl (cZ, 3, .inl (fun _ => 0)))]) [0, 1, 2, 3] (by decide) rfl
  have hFc := va_free (wc := [(y0, .inr (12, [.int 0, .ref (v 1), .ref (v 2), .ref (v 3), .ref (v 4), .int 0, .ref (v 6), .int 0, .int 0, .int 0, .int 0, .int 0, .int 0, .int (-1), .ref (v 14), .ref (v 15), .ref (v 16), .ref (v 17), .ref (v 18), .ref (v 19), .ref (v 20), .int 0, .ref (v 22), .int 0, .ref (v 24), .ref (v 25), .int 0, .ref (v 27), .ref (v 28), .ref (v 29), .ref (v 30), .int 0, .int 0, .int 0, .int 0, .int 0, .ref (v 36), .long 0, .ref (v 38), .ref (v 39), .ref (v 40), .ref (v 41)])), (v 1, .inl (cI, 544, .inl (upd (upd (upd (fun _ => 0) 8 1) 9 1) 17 (-1)))), (v 2, .inl (cI, 1632, .inl (fun _ => 0))), (v 3, .inl (cZ, 3, .inl (fun _ => 0)))]) hD hS hA [0, 1, 2, 3] rfl
  refine va_calli (va_runV (As := [.int (xs (1 : Int32).toNatClampNeg)]) (rest := [.int r1]) ⟨hx, hb, hml, hown, hwd⟩ (c_X12_keep l dC dI cI cZ cB cJ cM y0 v (xs (1 : Int32).toNatClampNeg) H.size) (cwV 1 hwd (gV kr33_14 kr33_15 kr33_16 kr1_5 kr33_17) rfl rfl rfl (by decide +kernel) ⟨Nat.le_of_ble_eq_true rfl, Nat.le_of_ble_eq_true rfl⟩) (kPreV hPc hK hDc (ci := 12) (q0 := 0) rfl rfl) rfl rfl hl.1 rfl (lv_room (Nat.le_of_ble_eq_true rfl)) dL_law_1521 ⟨Nat.le_of_ble_eq_true rfl, Nat.le_of_ble_eq_true rfl⟩) hS (fun q _ h => hFc q h) hFc (fun r4 u5 t H1 locs ht9 hvm hw hB hz1 hk1 hS => ?_)
  obtain ⟨hP, hD⟩ := va_join (wr := []) (w1 := []) hP hD [0, 1, 2, 3] [] rfl rfl (by decide) (by decide) hk1 hFc kP0 kD0
  generalize H1 = H at hP hS ⊢
  have hP : va_P (dC, dI) vwCl [] H := hP
  have hD : va_D (fun q : Nat => s.heap.size ≤ q) [] := hD
  have hs6 := hw
  refine lv_icmp_eq (tgt := 1731) hx hb dL_law_1524 (by decide) (fun c7 => ?_) (fun c7 => absurd (by simp only [Sp_keep] at hs3 hs6; rw [ki_eq]; omega) c7)
  exact law_tail C0 hS (lv_sub hl [3, 0] rfl)
set_option maxHeartbeats 4000000 in
set_option maxRecDepth 100000 in
/-- the call of back on two fresh objects -/
theorem lcase_44 {p : Program} {l : Launch} {e : Env} {s : State} {m : MethodId} {below : List Frame} {meth : Method} {c : Code} {b : Nat} {xs : Nat → Int32} {dC : Nat → ClassId} {dI : Nat → Nat → Nat} {cI cZ cB cJ cM : ClassId} (x0 y0 : Nat) (u v : Nat → Nat) {H : Heap} {locs : List Loc} {ls : Array Slot} (C0 : lw_At p s m meth c b 6 xs) (hK : va_K (dC, dI) vwCl [(cI, .int), (cZ, .boolean), (cB, .byte), (cJ, .long), (cM, .object RX2)] s) (hP : va_P (dC, dI) vwCl [(x0, .inr (11, [.ref (u 0), .ref (u 2), .ref (u 3), .ref (u 4), .ref (u 5), .ref (u 10), .ref (u 11), .ref (u 12), .ref (u 98), .ref (u 124)])), (u 12, .inl (cZ, 3, .inl (fun _ => 0))), (y0, .inr (12, [.int 0, .ref (v 1), .ref (v 2), .ref (v 3), .ref (v 4), .int 0, .ref (v 6), .int 0, .int 0, .int 0, .int 0, .int 0, .int 0, .int (-1), .ref (v 14), .ref (v 15), .ref (v 16), .ref (v 17), .ref (v 18), .ref (v 19), .ref (v 20), .int 0, .ref (v 22), .int 0, .ref (v 24), .ref (v 25), .int 0, .ref (v 27), .ref (v 28), .ref (v 29), .ref (v 30), .int 0, .int 0, .int 0, .int 0, .int 0, .ref (v 36), .long 0, .ref (v 38), .ref (v 39), .ref (v 40), .ref (v 41)])), (v 3, .inl (cZ, 3, .inl (fun _ => 0)))] H) (hD : va_D (fun q : Nat => s.heap.size ≤ q) [(x0, .inr (11, [.ref (u 0), .ref (u 2), .ref (u 3), .ref (u 4), .ref (u 5), .ref (u 10), .ref (u 11), .ref (u 12), .ref (u 98), .ref (u 124)])), (u 12, .inl (cZ, 3, .inl (fun _ => 0))), (y0, .inr (12, [.int 0, .ref (v 1), .ref (v 2), .ref (v 3), .ref (v 4), .int 0, .ref (v 6), .int 0, .int 0, .int 0, .int 0, .int 0, .int 0, .int (-1), .ref (v 14), .ref (v 15), .ref (v 16), .ref (v 17), .ref (v 18), .ref (v 19), .ref (v 20), .int 0, .ref (v 22), .int 0, .ref (v 24), .ref (v 25), .int 0, .ref (v 27), .ref (v 28), .ref (v 29), .ref (v 30), .int 0, .int 0, .int 0, .int 0, .int 0, .ref (v 36), .long 0, .ref (v 38), .ref (v 39), .ref (v 40), .ref (v 41)])), (v 3, .inl (cZ, 3, .inl (fun _ => 0)))]) (hS : va_S (fun q : Nat => s.heap.size ≤ q) s.heap H locs) (hl : lv_has ls 4 [(3, .int 0), (2, .ref y0), (1, .ref x0), (0, .ref b)]) : W p l e room_1 s m #[Value.ref b] below meth c H locs 600000 7302250 (lw_Z below #[Value.ref b] s) (F0 m 1529 ls []) := by
  obtain ⟨hx, hb, hr, hml, hown0, hts, hX, hbl, hlocks, hgv⟩ := id C0
  have hb : c.code = cL_law := hb
  have hown : s.vm.findClass RL = some m.cls := hown0
  have hwd : ∀ wd ∈ wsL_law, wd.before #[Value.ref b] s = true := fun w h => hts w (wsL_law_in w h)
  have hA : ∀ q : Nat, s.heap.size ≤ q → (fun q : Nat => s.heap.size ≤ q) q := fun _ h => h
  have hbA : ¬ (fun q : Nat => s.heap.size ≤ q) b := Nat.not_le.mpr hbl
  refine lv_aload_n hx hb dL_law_1529 rfl (lv_at hl 2 rfl) ?_
  refine lv_aload_n hx hb dL_law_1530 rfl (lv_at hl 3 rfl) ?_
  refine lv_iload_n hx hb dL_law_1531 rfl (lv_at hl 0 rfl) ?_
  refine lv_iconst (v := 1) hx hb dL_law_1532 (by decide) ?_
  refine lv_iadd hx hb dL_law_1533 ?_
  refine lv_topi (nm_r (e' := (1)) (by decide +kernel) ?_)
  refine va_sld hx hb hX hbl hbA hS (vin (by decide)) dL_law_1534 ?_
  have hPc := hP.sub (ws' := [(x0, .inr (11, [.ref (u 0), .ref (u 2), .ref (u 3), .ref (u 4), .ref (u 5), .ref (u 10), .ref (u 11), .ref (u 12), .ref (u 98), .ref (u 124)])), (u 12, .inl (cZ, 3, .inl (fun _ => 0)))]) [0, 1] rfl
  have hDc := hD.sub (ws' := [(x0, .inr (11, [.ref (u 0), .ref (u 2), .ref (u 3), .ref (u 4), .ref (u 5), .ref (u 10), .ref (u 11), .ref (u 12), .ref (u 98), .ref (u 124)])), (u 12, .inl (cZ, 3, .inl (fun _ => 0)))]) [0, 1] (by decide) rfl
  have hFc := va_free (wc := [(x0, .inr (11, [.ref (u 0), .ref (u 2), .ref (u 3), .ref (u 4), .ref (u 5), .ref (u 10), .ref (u 11), .ref (u 12), .ref (u 98), .ref (u 124)])), (u 12, .inl (cZ, 3, .inl (fun _ => 0)))]) hD hS hA [0, 1] rfl
  refine va_calli (va_runV (As := [.int (xs (1 : Int32).toNatClampNeg)]) (rest := []) ⟨hx, hb, hml, hown, hwd⟩ (c_X11_back l dC dI cI cZ cB cJ cM x0 (u 0) (u 2) (u 3) (u 4) (u 5) (u 10) (u 11) (u 12) (u 98) (u 124) (xs (1 : Int32).toNatClampNeg) H.size) (cwV 1 hwd (gV kr33_18 kr33_19 kr33_20 kr1_2 kr33_21) rfl rfl rfl (by decide +kernel) ⟨Nat.le_of_ble_eq_true rfl, Nat.le_of_ble_eq_true rfl⟩) (kPreV hPc hK hDc (ci := 11) (q0 := 0) rfl rfl) rfl rfl hl.1 rfl (lv_room (Nat.le_of_ble_eq_true rfl)) dL_law_1535 ⟨Nat.le_of_ble_eq_true rfl, Nat.le_of_ble_eq_true rfl⟩) hS (fun q _ h => hFc q h) hFc (fun r1 u2 t H1 locs ht9 hvm hw hB hz1 hk1 hS => ?_)
  obtain ⟨hP, hD⟩ := va_join (wr := [(y0, .inr (12, [.int 0, .ref (v 1), .ref (v 2), .ref (v 3), .ref (v 4), .int 0, .ref (v 6), .int 0, .int 0, .int 0, .int 0, .int 0, .int 0, .int (-1), .ref (v 14), .ref (v 15), .ref (v 16), .ref (v 17), .ref (v 18), .ref (v 19), .ref (v 20), .int 0, .ref (v 22), .int 0, .ref (v 24), .ref (v 25), .int 0, .ref (v 27), .ref (v 28), .ref (v 29), .ref (v 30), .int 0, .int 0, .int 0, .int 0, .int 0, .ref (v 36), .long 0, .ref (v 38), .ref (v 39), .ref (v 40), .ref (v 41)])), (v 3, .inl (cZ, 3, .inl (fun _ => 0)))]) (w1 := []) hP hD [0, 1] [2, 3] rfl rfl (by decide) (by decide) hk1 hFc kP0 kD0
  generalize H1 = H at hP hS ⊢
  have hP : va_P (dC, dI) vwCl [(y0, .inr (12, [.int 0, .ref (v 1), .ref (v 2), .ref (v 3), .ref (v 4), .int 0, .ref (v 6), .int 0, .int 0, .int 0, .int 0, .int 0, .int 0, .int (-1), .ref (v 14), .ref (v 15), .ref (v 16), .ref (v 17), .ref (v 18), .ref (v 19), .ref (v 20), .int 0, .ref (v 22), .int 0, .ref (v 24), .ref (v 25), .int 0, .ref (v 27), .ref (v 28), .ref (v 29), .ref (v 30), .int 0, .int 0, .int 0, .int 0, .int 0, .ref (v 36), .long 0, .ref (v 38), .ref (v 39), .ref (v 40), .ref (v 41)])), (v 3, .inl (cZ, 3, .inl (fun _ => 0)))] H := hP
  have hD : va_D (fun q : Nat => s.heap.size ≤ q) [(y0, .inr (12, [.int 0, .ref (v 1), .ref (v 2), .ref (v 3), .ref (v 4), .int 0, .ref (v 6), .int 0, .int 0, .int 0, .int 0, .int 0, .int 0, .int (-1), .ref (v 14), .ref (v 15), .ref (v 16), .ref (v 17), .ref (v 18), .ref (v 19), .ref (v 20), .int 0, .ref (v 22), .int 0, .ref (v 24), .ref (v 25), .int 0, .ref (v 27), .ref (v 28), .ref (v 29), .ref (v 30), .int 0, .int 0, .int 0, .int 0, .int 0, .ref (v 36), .long 0, .ref (v 38), .ref (v 39), .ref (v 40), .ref (v 41)])), (v 3, .inl (cZ, 3, .inl (fun _ => 0)))] := hD
  have hs3 := hw
  refine lv_aload_n hx hb dL_law_1538 rfl (lv_at hl 1 rfl) ?_
  refine lv_aload_n hx hb dL_law_1539 rfl (lv_at hl 3 rfl) ?_
  refine lv_iload_n hx hb dL_law_1540 rfl (lv_at hl 0 rfl) ?_
  refine lv_iconst (v := 1) hx hb dL_law_1541 (by decide) ?_
  refine lv_iadd hx hb dL_law_1542 ?_
  refine lv_topi (nm_r (e' := (1)) (by decide +kernel) ?_)
  refine va_sld hx hb hX hbl hbA hS (vin (by decide)) dL_law_1543 ?_
  have hPc := hP.sub (ws' := [(y0, .inr (12, [.int 0, .ref (v 1), .ref (v 2), .ref (v 3), .ref (v 4), .int 0, .ref (v 6), .int 0, .int 0, .int 0, .int 0, .int 0, .int 0, .int (-1), .ref (v 14), .ref (v 15), .ref (v 16), .ref (v 17), .ref (v 18), .ref (v 19), .ref (v 20), .int 0, .ref (v 22), .int 0, .ref (v 24), .ref (v 25), .int 0, .ref (v 27), .ref (v 28), .ref (v 29), .ref (v 30), .int 0, .int 0, .int 0, .int 0, .int 0, .ref (v 36), .long 0, .ref (v 38), .ref (v 39), .ref (v 40), .ref (v 41)])), (v 3, .inl (cZ, 3, .inl (fun _ => 0)))]) [0, 1] rfl
  have hDc := hD.sub (ws' := [(y0, .inr (12, [.int 0, .ref (v 1), .ref (v 2), .ref (v 3), .ref (v 4), .int 0, .ref (v 6), .int 0, .int 0, .int 0, .int 0, .int 0, .int 0, .int (-1), .ref (v 14), .ref (v 15), .ref (v 16), .ref (v 17), .ref (v 18), .ref (v 19), .ref (v 20), .int 0, .ref (v 22), .int 0, .ref (v 24), .ref (v 25), .int 0, .ref (v 27), .ref (v 28), .ref (v 29), .ref (v 30), .int 0, .int 0, .int 0, .int 0, .int 0, .ref (v 36), .long 0, .ref (v 38), .ref (v 39), .ref (v 40), .ref (v 41)])), (v 3, .inl (cZ, 3, .inl (fun _ => 0)))]) [0, 1] (by decide) rfl
  have hFc := va_free (wc := [(y0, .inr (12, [.int 0, .ref (v 1), .ref (v 2), .ref (v 3), .ref (v 4), .int 0, .ref (v 6), .int 0, .int 0, .int 0, .int 0, .int 0, .int 0, .int (-1), .ref (v 14), .ref (v 15), .ref (v 16), .ref (v 17), .ref (v 18), .ref (v 19), .ref (v 20), .int 0, .ref (v 22), .int 0, .ref (v 24), .ref (v 25), .int 0, .ref (v 27), .ref (v 28), .ref (v 29), .ref (v 30), .int 0, .int 0, .int 0, .int 0, .int 0, .ref (v 36), .long 0, .ref (v 38), .ref (v 39), .ref (v 40), .ref (v 41)])), (v 3, .inl (cZ, 3, .inl (fun _ => 0)))]) hD hS hA [0, 1] rfl
  refine va_calli (va_runV (As := [.int (xs (1 : Int32).toNatClampNeg)]) (rest := [.int r1]) ⟨hx, hb, hml, hown, hwd⟩ (c_X12_back l dC dI cI cZ cB cJ cM y0 v (xs (1 : Int32).toNatClampNeg) H.size) (cwV 1 hwd (gV kr33_22 kr33_23 kr34_0 kr1_5 kr34_1) rfl rfl rfl (by decide +kernel) ⟨Nat.le_of_ble_eq_true rfl, Nat.le_of_ble_eq_true rfl⟩) (kPreV hPc hK hDc (ci := 12) (q0 := 0) rfl rfl) rfl rfl hl.1 rfl (lv_room (Nat.le_of_ble_eq_true rfl)) dL_law_1544 ⟨Nat.le_of_ble_eq_true rfl, Nat.le_of_ble_eq_true rfl⟩) hS (fun q _ h => hFc q h) hFc (fun r4 u5 t H1 locs ht9 hvm hw hB hz1 hk1 hS => ?_)
  obtain ⟨hP, hD⟩ := va_join (wr := []) (w1 := []) hP hD [0, 1] [] rfl rfl (by decide) (by decide) hk1 hFc kP0 kD0
  generalize H1 = H at hP hS ⊢
  have hP : va_P (dC, dI) vwCl [] H := hP
  have hD : va_D (fun q : Nat => s.heap.size ≤ q) [] := hD
  have hs6 := hw
  refine lv_icmp_eq (tgt := 1731) hx hb dL_law_1547 (by decide) (fun c7 => ?_) (fun c7 => absurd (by simp only [Sp_back] at hs3 hs6; rw [ki_eq]; omega) c7)
  exact law_tail C0 hS (lv_sub hl [3, 0] rfl)
set_option maxHeartbeats 4000000 in
set_option maxRecDepth 100000 in
/-- the call of row on two fresh objects -/
theorem lcase_45 {p : Program} {l : Launch} {e : Env} {s : State} {m : MethodId} {below : List Frame} {meth : Method} {c : Code} {b : Nat} {xs : Nat → Int32} {dC : Nat → ClassId} {dI : Nat → Nat → Nat} {cI cZ cB cJ cM : ClassId} (x0 y0 : Nat) (u v : Nat → Nat) {H : Heap} {locs : List Loc} {ls : Array Slot} (C0 : lw_At p s m meth c b 6 xs) (hK : va_K (dC, dI) vwCl [(cI, .int), (cZ, .boolean), (cB, .byte), (cJ, .long), (cM, .object RX2)] s) (hP : va_P (dC, dI) vwCl [(x0, .inr (11, [.ref (u 0), .ref (u 2), .ref (u 3), .ref (u 4), .ref (u 5), .ref (u 10), .ref (u 11), .ref (u 12), .ref (u 98), .ref (u 124)])), (u 5, .inr (8, [.ref (u 6), .ref (u 7), .ref (u 8), .ref (u 9)])), (u 6, .inl (cI, 4, .inl (fun _ => 0))), (u 7, .inl (cI, 4, .inl (fun _ => 0))), (u 8, .inl (cZ, 4, .inl (fun _ => 0))), (u 9, .inl (cJ, 240, .inr (.inl (fun _ => 0)))), (y0, .inr (12, [.int 0, .ref (v 1), .ref (v 2), .ref (v 3), .ref (v 4), .int 0, .ref (v 6), .int 0, .int 0, .int 0, .int 0, .int 0, .int 0, .int (-1), .ref (v 14), .ref (v 15), .ref (v 16), .ref (v 17), .ref (v 18), .ref (v 19), .ref (v 20), .int 0, .ref (v 22), .int 0, .ref (v 24), .ref (v 25), .int 0, .ref (v 27), .ref (v 28), .ref (v 29), .ref (v 30), .int 0, .int 0, .int 0, .int 0, .int 0, .ref (v 36), .long 0, .ref (v 38), .ref (v 39), .ref (v 40), .ref (v 41)])), (v 38, .inl (cI, 4, .inl (upd (upd (upd (upd (fun _ => 0) 0 (-1)) 1 (-1)) 2 (-1)) 3 (-1)))), (v 39, .inl (cI, 4, .inl (fun _ => 0))), (v 40, .inl (cJ, 240, .inr (.inl (fun _ => 0))))] H) (hD : va_D (fun q : Nat => s.heap.size ≤ q) [(x0, .inr (11, [.ref (u 0), .ref (u 2), .ref (u 3), .ref (u 4), .ref (u 5), .ref (u 10), .ref (u 11), .ref (u 12), .ref (u 98), .ref (u 124)])), (u 5, .inr (8, [.ref (u 6), .ref (u 7), .ref (u 8), .ref (u 9)])), (u 6, .inl (cI, 4, .inl (fun _ => 0))), (u 7, .inl (cI, 4, .inl (fun _ => 0))), (u 8, .inl (cZ, 4, .inl (fun _ => 0))), (u 9, .inl (cJ, 240, .inr (.inl (fun _ => 0)))), (y0, .inr (12, [.int 0, .ref (v 1), .ref (v 2), .ref (v 3), .ref (v 4), .int 0, .ref (v 6), .int 0, .int 0, .int 0, .int 0, .int 0, .int 0, .int (-1), .ref (v 14), .ref (v 15), .ref (v 16), .ref (v 17), .ref (v 18), .ref (v 19), .ref (v 20), .int 0, .ref (v 22), .int 0, .ref (v 24), .ref (v 25), .int 0, .ref (v 27), .ref (v 28), .ref (v 29), .ref (v 30), .int 0, .int 0, .int 0, .int 0, .int 0, .ref (v 36), .long 0, .ref (v 38), .ref (v 39), .ref (v 40), .ref (v 41)])), (v 38, .inl (cI, 4, .inl (upd (upd (upd (upd (fun _ => 0) 0 (-1)) 1 (-1)) 2 (-1)) 3 (-1)))), (v 39, .inl (cI, 4, .inl (fun _ => 0))), (v 40, .inl (cJ, 240, .inr (.inl (fun _ => 0))))]) (hS : va_S (fun q : Nat => s.heap.size ≤ q) s.heap H locs) (hl : lv_has ls 4 [(3, .int 0), (2, .ref y0), (1, .ref x0), (0, .ref b)]) : W p l e room_1 s m #[Value.ref b] below meth c H locs 600000 7302250 (lw_Z below #[Value.ref b] s) (F0 m 1552 ls []) := by
  obtain ⟨hx, hb, hr, hml, hown0, hts, hX, hbl, hlocks, hgv⟩ := id C0
  have hb : c.code = cL_law := hb
  have hown : s.vm.findClass RL = some m.cls := hown0
  have hwd : ∀ wd ∈ wsL_law, wd.before #[Value.ref b] s = true := fun w h => hts w (wsL_law_in w h)
  have hA : ∀ q : Nat, s.heap.size ≤ q → (fun q : Nat => s.heap.size ≤ q) q := fun _ h => h
  have hbA : ¬ (fun q : Nat => s.heap.size ≤ q) b := Nat.not_le.mpr hbl
  refine lv_aload_n hx hb dL_law_1552 rfl (lv_at hl 2 rfl) ?_
  refine lv_aload_n hx hb dL_law_1553 rfl (lv_at hl 3 rfl) ?_
  refine lv_iload_n hx hb dL_law_1554 rfl (lv_at hl 0 rfl) ?_
  refine lv_iconst (v := 1) hx hb dL_law_1555 (by decide) ?_
  refine lv_iadd hx hb dL_law_1556 ?_
  refine lv_topi (nm_r (e' := (1)) (by decide +kernel) ?_)
  refine va_sld hx hb hX hbl hbA hS (vin (by decide)) dL_law_1557 ?_
  refine lv_aload_n hx hb dL_law_1558 rfl (lv_at hl 3 rfl) ?_
  refine lv_iload_n hx hb dL_law_1559 rfl (lv_at hl 0 rfl) ?_
  refine lv_iconst (v := 2) hx hb dL_law_1560 (by decide) ?_
  refine lv_iadd hx hb dL_law_1561 ?_
  refine lv_topi (nm_r (e' := (2)) (by decide +kernel) ?_)
  refine va_sld hx hb hX hbl hbA hS (vin (by decide)) dL_law_1562 ?_
  refine lv_aload_n hx hb dL_law_1563 rfl (lv_at hl 3 rfl) ?_
  refine lv_iload_n hx hb dL_law_1564 rfl (lv_at hl 0 rfl) ?_
  refine lv_iconst (v := 3) hx hb dL_law_1565 (by decide) ?_
  refine lv_iadd hx hb dL_law_1566 ?_
  refine lv_topi (nm_r (e' := (3)) (by decide +kernel) ?_)
  refine va_sld hx hb hX hbl hbA hS (vin (by decide)) dL_law_1567 ?_
  have hPc := hP.sub (ws' := [(x0, .inr (11, [.ref (u 0), .ref (u 2), .ref (u 3), .ref (u 4), .ref (u 5), .ref (u 10), .ref (u 11), .ref (u 12), .ref (u 98), .ref (u 124)])), (u 5, .inr (8, [.ref (u 6), .ref (u 7), .ref (u 8), .ref (u 9)])), (u 6, .inl (cI, 4, .inl (fun _ => 0))), (u 7, .inl (cI, 4, .inl (fun _ => 0))), (u 8, .inl (cZ, 4, .inl (fun _ => 0))), (u 9, .inl (cJ, 240, .inr (.inl (fun _ => 0))))]) [0, 1, 2, 3, 4, 5] rfl
  have hDc := hD.sub (ws' := [(x0, .inr (11, [.ref (u 0), .ref (u 2), .ref (u 3), .ref (u 4), .ref (u 5), .ref (u 10), .ref (u 11), .ref (u 12), .ref (u 98), .ref (u 124)])), (u 5, .inr (8, [.ref (u 6), .ref (u 7), .ref (u 8), .ref (u 9)])), (u 6, .inl (cI, 4, .inl (fun _ => 0))), (u 7, .inl (cI, 4, .inl (fun _ => 0))), (u 8, .inl (cZ, 4, .inl (fun _ => 0))), (u 9, .inl (cJ, 240, .inr (.inl (fun _ => 0))))]) [0, 1, 2, 3, 4, 5] (by decide) rfl
  have hFc := va_free (wc := [(x0, .inr (11, [.ref (u 0), .ref (u 2), .ref (u 3), .ref (u 4), .ref (u 5), .ref (u 10), .ref (u 11), .ref (u 12), .ref (u 98), .ref (u 124)])), (u 5, .inr (8, [.ref (u 6), .ref (u 7), .ref (u 8), .ref (u 9)])), (u 6, .inl (cI, 4, .inl (fun _ => 0))), (u 7, .inl (cI, 4, .inl (fun _ => 0))), (u 8, .inl (cZ, 4, .inl (fun _ => 0))), (u 9, .inl (cJ, 240, .inr (.inl (fun _ => 0))))]) hD hS hA [0, 1, 2, 3, 4, 5] rfl
  refine va_calli (va_runV (As := [.int (xs (1 : Int32).toNatClampNeg), .int (xs (2 : Int32).toNatClampNeg), .int (xs (3 : Int32).toNatClampNeg)]) (rest := []) ⟨hx, hb, hml, hown, hwd⟩ (c_X11_row l dC dI cI cZ cB cJ cM x0 (u 0) (u 2) (u 3) (u 4) (u 5) (u 10) (u 11) (u 12) (u 98) (u 124) (u 6) (u 7) (u 8) (u 9) (xs (1 : Int32).toNatClampNeg) (xs (2 : Int32).toNatClampNeg) (xs (3 : Int32).toNatClampNeg) H.size) (cwV 3 hwd (gV kr34_2 kr34_3 kr34_4 kr1_2 kr34_5) rfl rfl rfl (by decide +kernel) ⟨Nat.le_of_ble_eq_true rfl, Nat.le_of_ble_eq_true rfl⟩) (kPreV hPc hK hDc (ci := 11) (q0 := 0) rfl rfl) rfl rfl hl.1 rfl (lv_room (Nat.le_of_ble_eq_true rfl)) dL_law_1568 ⟨Nat.le_of_ble_eq_true rfl, Nat.le_of_ble_eq_true rfl⟩) hS (fun q _ h => hFc q h) hFc (fun r1 u2 t H1 locs ht9 hvm hw hB hz1 hk1 hS => ?_)
  obtain ⟨hP, hD⟩ := va_join (wr := [(y0, .inr (12, [.int 0, .ref (v 1), .ref (v 2), .ref (v 3), .ref (v 4), .int 0, .ref (v 6), .int 0, .int 0, .int 0, .int 0, .int 0, .int 0, .int (-1), .ref (v 14), .ref (v 15), .ref (v 16), .ref (v 17), .ref (v 18), .ref (v 19), .ref (v 20), .int 0, .ref (v 22), .int 0, .ref (v 24), .ref (v 25), .int 0, .ref (v 27), .ref (v 28), .ref (v 29), .ref (v 30), .int 0, .int 0, .int 0, .int 0, .int 0, .ref (v 36), .long 0, .ref (v 38), .ref (v 39), .ref (v 40), .ref (v 41)])), (v 38, .inl (cI, 4, .inl (upd (upd (upd (upd (fun _ => 0) 0 (-1)) 1 (-1)) 2 (-1)) 3 (-1)))), (v 39, .inl (cI, 4, .inl (fun _ => 0))), (v 40, .inl (cJ, 240, .inr (.inl (fun _ => 0))))]) (w1 := []) hP hD [0, 1, 2, 3, 4, 5] [6, 7, 8, 9] rfl rfl (by decide) (by decide) hk1 hFc kP0 kD0
  generalize H1 = H at hP hS ⊢
  have hP : va_P (dC, dI) vwCl [(y0, .inr (12, [.int 0, .ref (v 1), .ref (v 2), .ref (v 3), .ref (v 4), .int 0, .ref (v 6), .int 0, .int 0, .int 0, .int 0, .int 0, .int 0, .int (-1), .ref (v 14), .ref (v 15), .ref (v 16), .ref (v 17), .ref (v 18), .ref (v 19), .ref (v 20), .int 0, .ref (v 22), .int 0, .ref (v 24), .ref (v 25), .int 0, .ref (v 27), .ref (v 28), .ref (v 29), .ref (v 30), .int 0, .int 0, .int 0, .int 0, .int 0, .ref (v 36), .long 0, .ref (v 38), .ref (v 39), .ref (v 40), .ref (v 41)])), (v 38, .inl (cI, 4, .inl (upd (upd (upd (upd (fun _ => 0) 0 (-1)) 1 (-1)) 2 (-1)) 3 (-1)))), (v 39, .inl (cI, 4, .inl (fun _ => 0))), (v 40, .inl (cJ, 240, .inr (.inl (fun _ => 0))))] H := hP
  have hD : va_D (fun q : Nat => s.heap.size ≤ q) [(y0, .inr (12, [.int 0, .ref (v 1), .ref (v 2), .ref (v 3), .ref (v 4), .int 0, .ref (v 6), .int 0, .int 0, .int 0, .int 0, .int 0, .int 0, .int (-1), .ref (v 14), .ref (v 15), .ref (v 16), .ref (v 17), .ref (v 18), .ref (v 19), .ref (v 20), .int 0, .ref (v 22), .int 0, .ref (v 24), .ref (v 25), .int 0, .ref (v 27), .ref (v 28), .ref (v 29), .ref (v 30), .int 0, .int 0, .int 0, .int 0, .int 0, .ref (v 36), .long 0, .ref (v 38), .ref (v 39), .ref (v 40), .ref (v 41)])), (v 38, .inl (cI, 4, .inl (upd (upd (upd (upd (fun _ => 0) 0 (-1)) 1 (-1)) 2 (-1)) 3 (-1)))), (v 39, .inl (cI, 4, .inl (fun _ => 0))), (v 40, .inl (cJ, 240, .inr (.inl (fun _ => 0))))] := hD
  have hs3 := hw
  refine lv_aload_n hx hb dL_law_1571 rfl (lv_at hl 1 rfl) ?_
  refine lv_aload_n hx hb dL_law_1572 rfl (lv_at hl 3 rfl) ?_
  refine lv_iload_n hx hb dL_law_1573 rfl (lv_at hl 0 rfl) ?_
  refine lv_iconst (v := 1) hx hb dL_law_1574 (by decide) ?_
  refine lv_iadd hx hb dL_law_1575 ?_
  refine lv_topi (nm_r (e' := (1)) (by decide +kernel) ?_)
  refine va_sld hx hb hX hbl hbA hS (vin (by decide)) dL_law_1576 ?_
  refine lv_aload_n hx hb dL_law_1577 rfl (lv_at hl 3 rfl) ?_
  refine lv_iload_n hx hb dL_law_1578 rfl (lv_at hl 0 rfl) ?_
  refine lv_iconst (v := 2) hx hb dL_law_1579 (by decide) ?_
  refine lv_iadd hx hb dL_law_1580 ?_
  refine lv_topi (nm_r (e' := (2)) (by decide +kernel) ?_)
  refine va_sld hx hb hX hbl hbA hS (vin (by decide)) dL_law_1581 ?_
  refine lv_aload_n hx hb dL_law_1582 rfl (lv_at hl 3 rfl) ?_
  refine lv_iload_n hx hb dL_law_1583 rfl (lv_at hl 0 rfl) ?_
  refine lv_iconst (v := 3) hx hb dL_law_1584 (by decide) ?_
  refine lv_iadd hx hb dL_law_1585 ?_
  refine lv_topi (nm_r (e' := (3)) (by decide +kernel) ?_)
  refine va_sld hx hb hX hbl hbA hS (vin (by decide)) dL_law_1586 ?_
  have hPc := hP.sub (ws' := [(y0, .inr (12, [.int 0, .ref (v 1), .ref (v 2), .ref (v 3), .ref (v 4), .int 0, .ref (v 6), .int 0, .int 0, .int 0, .int 0, .int 0, .int 0, .int (-1), .ref (v 14), .ref (v 15), .ref (v 16), .ref (v 17), .ref (v 18), .ref (v 19), .ref (v 20), .int 0, .ref (v 22), .int 0, .ref (v 24), .ref (v 25), .int 0, .ref (v 27), .ref (v 28), .ref (v 29), .ref (v 30), .int 0, .int 0, .int 0, .int 0, .int 0, .ref (v 36), .long 0, .ref (v 38), .ref (v 39), .ref (v 40), .ref (v 41)])), (v 38, .inl (cI, 4, .inl (upd (upd (upd (upd (fun _ => 0) 0 (-1)) 1 (-1)) 2 (-1)) 3 (-1)))), (v 39, .inl (cI, 4, .inl (fun _ => 0))), (v 40, .inl (cJ, 240, .inr (.inl (fun _ => 0))))]) [0, 1, 2, 3] rfl
  have hDc := hD.sub (ws' := [(y0, .inr (12, [.int 0, .ref (v 1), .ref (v 2), .ref (v 3), .ref (v 4), .int 0, .ref (v 6), .int 0, .int 0, .int 0, .int 0, .int 0, .int 0, .int (-1), .ref (v 14), .ref (v 15), .ref (v 16), .ref (v 17), .ref (v 18), .ref (v 19), .ref (v 20), .int 0, .ref (v 22), .int 0, .ref (v 24), .ref (v 25), .int 0, .ref (v 27), .ref (v 28), .ref (v 29), .ref (v 30), .int 0, .int 0, .int 0, .int 0, .int 0, .ref (v 36), .long 0, .ref (v 38), .ref (v 39), .ref (v 40), .ref (v 41)])), (v 38, .inl (cI, 4, .inl (upd (upd (upd (upd (fun _ => 0) 0 (-1)) 1 (-1)) 2 (-1)) 3 (-1)))), (v 39, .inl (cI, 4, .inl (fun _ => 0))), (v 40, .inl (cJ, 240, .inr (.inl (fun _ => 0))))]) [0, 1, 2, 3] (by decide) rfl
  have hFc := va_free (wc := [(y0, .inr (12, [.int 0, .ref (v 1), .ref (v 2), .ref (v 3), .ref (v 4), .int 0, .ref (v 6), .int 0, .int 0, .int 0, .int 0, .int 0, .int 0, .int (-1), .ref (v 14), .ref (v 15), .ref (v 16), .ref (v 17), .ref (v 18), .ref (v 19), .ref (v 20), .int 0, .ref (v 22), .int 0, .ref (v 24), .ref (v 25), .int 0, .ref (v 27), .ref (v 28), .ref (v 29), .ref (v 30), .int 0, .int 0, .int 0, .int 0, .int 0, .ref (v 36), .long 0, .ref (v 38), .ref (v 39), .ref (v 40), .ref (v 41)])), (v 38, .inl (cI, 4, .inl (upd (upd (upd (upd (fun _ => 0) 0 (-1)) 1 (-1)) 2 (-1)) 3 (-1)))), (v 39, .inl (cI, 4, .inl (fun _ => 0))), (v 40, .inl (cJ, 240, .inr (.inl (fun _ => 0))))]) hD hS hA [0, 1, 2, 3] rfl
  refine va_calli (va_runV (As := [.int (xs (1 : Int32).toNatClampNeg), .int (xs (2 : Int32).toNatClampNeg), .int (xs (3 : Int32).toNatClampNeg)]) (rest := [.int r1]) ⟨hx, hb, hml, hown, hwd⟩ (c_X12_row l dC dI cI cZ cB cJ cM y0 v (xs (1 : Int32).toNatClampNeg) (xs (2 : Int32).toNatClampNeg) (xs (3 : Int32).toNatClampNeg) H.size) (cwV 3 hwd (gV kr34_10 kr34_11 kr34_12 kr1_5 kr34_13) rfl rfl rfl (by decide +kernel) ⟨Nat.le_of_ble_eq_true rfl, Nat.le_of_ble_eq_true rfl⟩) (kPreV hPc hK hDc (ci := 12) (q0 := 0) rfl rfl) rfl rfl hl.1 rfl (lv_room (Nat.le_of_ble_eq_true rfl)) dL_law_1587 ⟨Nat.le_of_ble_eq_true rfl, Nat.le_of_ble_eq_true rfl⟩) hS (fun q _ h => hFc q h) hFc (fun r4 u5 t H1 locs ht9 hvm hw hB hz1 hk1 hS => ?_)
  obtain ⟨hP, hD⟩ := va_join (wr := []) (w1 := []) hP hD [0, 1, 2, 3] [] rfl rfl (by decide) (by decide) hk1 hFc kP0 kD0
  generalize H1 = H at hP hS ⊢
  have hP : va_P (dC, dI) vwCl [] H := hP
  have hD : va_D (fun q : Nat => s.heap.size ≤ q) [] := hD
  have hs6 := hw
  refine lv_icmp_eq (tgt := 1731) hx hb dL_law_1590 (by decide) (fun c7 => ?_) (fun c7 => absurd (by simp only [Sp_row] at hs3 hs6; rw [ki_eq]; omega) c7)
  exact law_tail C0 hS (lv_sub hl [3, 0] rfl)
set_option maxHeartbeats 4000000 in
set_option maxRecDepth 100000 in
/-- the call of write on two fresh objects -/
theorem lcase_46 {p : Program} {l : Launch} {e : Env} {s : State} {m : MethodId} {below : List Frame} {meth : Method} {c : Code} {b : Nat} {xs : Nat → Int32} {dC : Nat → ClassId} {dI : Nat → Nat → Nat} {cI cZ cB cJ cM : ClassId} (x0 y0 : Nat) (u v : Nat → Nat) {H : Heap} {locs : List Loc} {ls : Array Slot} (C0 : lw_At p s m meth c b 6 xs) (hK : va_K (dC, dI) vwCl [(cI, .int), (cZ, .boolean), (cB, .byte), (cJ, .long), (cM, .object RX2)] s) (hP : va_P (dC, dI) vwCl [(x0, .inr (11, [.ref (u 0), .ref (u 2), .ref (u 3), .ref (u 4), .ref (u 5), .ref (u 10), .ref (u 11), .ref (u 12), .ref (u 98), .ref (u 124)])), (u 5, .inr (8, [.ref (u 6), .ref (u 7), .ref (u 8), .ref (u 9)])), (u 8, .inl (cZ, 4, .inl (fun _ => 0))), (y0, .inr (12, [.int 0, .ref (v 1), .ref (v 2), .ref (v 3), .ref (v 4), .int 0, .ref (v 6), .int 0, .int 0, .int 0, .int 0, .int 0, .int 0, .int (-1), .ref (v 14), .ref (v 15), .ref (v 16), .ref (v 17), .ref (v 18), .ref (v 19), .ref (v 20), .int 0, .ref (v 22), .int 0, .ref (v 24), .ref (v 25), .int 0, .ref (v 27), .ref (v 28), .ref (v 29), .ref (v 30), .int 0, .int 0, .int 0, .int 0, .int 0, .ref (v 36), .long 0, .ref (v 38), .ref (v 39), .ref (v 40), .ref (v 41)])), (v 38, .inl (cI, 4, .inl (upd (upd (upd (upd (fun _ => 0) 0 (-1)) 1 (-1)) 2 (-1)) 3 (-1))))] H) (hD : va_D (fun q : Nat => s.heap.size ≤ q) [(x0, .inr (11, [.ref (u 0), .ref (u 2), .ref (u 3), .ref (u 4), .ref (u 5), .ref (u 10), .ref (u 11), .ref (u 12), .ref (u 98), .ref (u 124)])), (u 5, .inr (8, [.ref (u 6), .ref (u 7), .ref (u 8), .ref (u 9)])), (u 8, .inl (cZ, 4, .inl (fun _ => 0))), (y0, .inr (12, [.int 0, .ref (v 1), .ref (v 2), .ref (v 3), .ref (v 4), .int 0, .ref (v 6), .int 0, .int 0, .int 0, .int 0, .int 0, .int 0, .int (-1), .ref (v 14), .ref (v 15), .ref (v 16), .ref (v 17), .ref (v 18), .ref (v 19), .ref (v 20), .int 0, .ref (v 22), .int 0, .ref (v 24), .ref (v 25), .int 0, .ref (v 27), .ref (v 28), .ref (v 29), .ref (v 30), .int 0, .int 0, .int 0, .int 0, .int 0, .ref (v 36), .long 0, .ref (v 38), .ref (v 39), .ref (v 40), .ref (v 41)])), (v 38, .inl (cI, 4, .inl (upd (upd (upd (upd (fun _ => 0) 0 (-1)) 1 (-1)) 2 (-1)) 3 (-1))))]) (hS : va_S (fun q : Nat => s.heap.size ≤ q) s.heap H locs) (hl : lv_has ls 4 [(3, .int 0), (2, .ref y0), (1, .ref x0), (0, .ref b)]) : W p l e room_1 s m #[Value.ref b] below meth c H locs 600000 7302250 (lw_Z below #[Value.ref b] s) (F0 m 1595 ls []) := by
  obtain ⟨hx, hb, hr, hml, hown0, hts, hX, hbl, hlocks, hgv⟩ := id C0
  have hb : c.code = cL_law := hb
  have hown : s.vm.findClass RL = some m.cls := hown0
  have hwd : ∀ wd ∈ wsL_law, wd.before #[Value.ref b] s = true := fun w h => hts w (wsL_law_in w h)
  have hA : ∀ q : Nat, s.heap.size ≤ q → (fun q : Nat => s.heap.size ≤ q) q := fun _ h => h
  have hbA : ¬ (fun q : Nat => s.heap.size ≤ q) b := Nat.not_le.mpr hbl
  refine lv_aload_n hx hb dL_law_1595 rfl (lv_at hl 2 rfl) ?_
  refine lv_aload_n hx hb dL_law_1596 rfl (lv_at hl 3 rfl) ?_
  refine lv_iload_n hx hb dL_law_1597 rfl (lv_at hl 0 rfl) ?_
  refine lv_iconst (v := 1) hx hb dL_law_1598 (by decide) ?_
  refine lv_iadd hx hb dL_law_1599 ?_
  refine lv_topi (nm_r (e' := (1)) (by decide +kernel) ?_)
  refine va_sld hx hb hX hbl hbA hS (vin (by decide)) dL_law_1600 ?_
  refine lv_aload_n hx hb dL_law_1601 rfl (lv_at hl 3 rfl) ?_
  refine lv_iload_n hx hb dL_law_1602 rfl (lv_at hl 0 rfl) ?_
  refine lv_iconst (v := 2) hx hb dL_law_1603 (by decide) ?_
  refine lv_iadd hx hb dL_law_1604 ?_
  refine lv_topi (nm_r (e' := (2)) (by decide +kernel) ?_)
  refine va_sld hx hb hX hbl hbA hS (vin (by decide)) dL_law_1605 ?_
  refine lv_aload_n hx hb dL_law_1606 rfl (lv_at hl 3 rfl) ?_
  refine lv_iload_n hx hb dL_law_1607 rfl (lv_at hl 0 rfl) ?_
  refine lv_iconst (v := 3) hx hb dL_law_1608 (by decide) ?_
  refine lv_iadd hx hb dL_law_1609 ?_
  refine lv_topi (nm_r (e' := (3)) (by decide +kernel) ?_)
  refine va_sld hx hb hX hbl hbA hS (vin (by decide)) dL_law_1610 ?_
  refine lv_i2l hx hb dL_law_1611 rfl ?_
  refine lv_bipush (v := 32) hx hb dL_law_1612 (by decide) ?_
  refine lv_lshl hx hb dL_law_1614 rfl ?_
  refine lv_topl (fun x1 ex1 => ?_)
  refine lv_aload_n hx hb dL_law_1615 rfl (lv_at hl 3 rfl) ?_
  refine lv_iload_n hx hb dL_law_1616 rfl (lv_at hl 0 rfl) ?_
  refine lv_iconst (v := 4) hx hb dL_law_1617 (by decide) ?_
  refine lv_iadd hx hb dL_law_1618 ?_
  refine lv_topi (nm_r (e' := (4)) (by decide +kernel) ?_)
  refine va_sld hx hb hX hbl hbA hS (vin (by decide)) dL_law_1619 ?_
  refine lv_i2l hx hb dL_law_1620 rfl ?_
  refine lv_ldc2 (v := 4294967295) hx hb hown (hwd _ kr1_6) dL_law_1621 ?_
  refine lv_land hx hb dL_law_1624 ?_
  refine lv_topl (fun x2 ex2 => ?_)
  refine lv_lor hx hb dL_law_1625 ?_
  refine lv_topl (fun x3 ex3 => ?_)
  have hPc := hP.sub (ws' := [(x0, .inr (11, [.ref (u 0), .ref (u 2), .ref (u 3), .ref (u 4), .ref (u 5), .ref (u 10), .ref (u 11), .ref (u 12), .ref (u 98), .ref (u 124)])), (u 5, .inr (8, [.ref (u 6), .ref (u 7), .ref (u 8), .ref (u 9)])), (u 8, .inl (cZ, 4, .inl (fun _ => 0)))]) [0, 1, 2] rfl
  have hDc := hD.sub (ws' := [(x0, .inr (11, [.ref (u 0), .ref (u 2), .ref (u 3), .ref (u 4), .ref (u 5), .ref (u 10), .ref (u 11), .ref (u 12), .ref (u 98), .ref (u 124)])), (u 5, .inr (8, [.ref (u 6), .ref (u 7), .ref (u 8), .ref (u 9)])), (u 8, .inl (cZ, 4, .inl (fun _ => 0)))]) [0, 1, 2] (by decide) rfl
  have hFc := va_free (wc := [(x0, .inr (11, [.ref (u 0), .ref (u 2), .ref (u 3), .ref (u 4), .ref (u 5), .ref (u 10), .ref (u 11), .ref (u 12), .ref (u 98), .ref (u 124)])), (u 5, .inr (8, [.ref (u 6), .ref (u 7), .ref (u 8), .ref (u 9)])), (u 8, .inl (cZ, 4, .inl (fun _ => 0)))]) hD hS hA [0, 1, 2] rfl
  refine va_calli (va_runV (As := [.int (xs (1 : Int32).toNatClampNeg), .int (xs (2 : Int32).toNatClampNeg), .long x3]) (rest := []) ⟨hx, hb, hml, hown, hwd⟩ (c_X11_write l dC dI cI cZ cB cJ cM x0 (u 0) (u 2) (u 3) (u 4) (u 5) (u 10) (u 11) (u 12) (u 98) (u 124) (u 6) (u 7) (u 8) (u 9) (xs (1 : Int32).toNatClampNeg) (xs (2 : Int32).toNatClampNeg) x3 H.size) (cwV 3 hwd (gV kr34_14 kr34_15 kr34_16 kr1_2 kr34_17) rfl rfl rfl (by decide +kernel) ⟨Nat.le_of_ble_eq_true rfl, Nat.le_of_ble_eq_true rfl⟩) (kPreV hPc hK hDc (ci := 11) (q0 := 0) rfl rfl) rfl rfl hl.1 rfl (lv_room (Nat.le_of_ble_eq_true rfl)) dL_law_1626 ⟨Nat.le_of_ble_eq_true rfl, Nat.le_of_ble_eq_true rfl⟩) hS (fun q _ h => hFc q h) hFc (fun r4 u5 t H1 locs ht9 hvm hw hB hz1 hk1 hS => ?_)
  obtain ⟨hP, hD⟩ := va_join (wr := [(y0, .inr (12, [.int 0, .ref (v 1), .ref (v 2), .ref (v 3), .ref (v 4), .int 0, .ref (v 6), .int 0, .int 0, .int 0, .int 0, .int 0, .int 0, .int (-1), .ref (v 14), .ref (v 15), .ref (v 16), .ref (v 17), .ref (v 18), .ref (v 19), .ref (v 20), .int 0, .ref (v 22), .int 0, .ref (v 24), .ref (v 25), .int 0, .ref (v 27), .ref (v 28), .ref (v 29), .ref (v 30), .int 0, .int 0, .int 0, .int 0, .int 0, .ref (v 36), .long 0, .ref (v 38), .ref (v 39), .ref (v 40), .ref (v 41)])), (v 38, .inl (cI, 4, .inl (upd (upd (upd (upd (fun _ => 0) 0 (-1)) 1 (-1)) 2 (-1)) 3 (-1))))]) (w1 := []) hP hD [0, 1, 2] [3, 4] rfl rfl (by decide) (by decide) hk1 hFc kP0 kD0
  generalize H1 = H at hP hS ⊢
  have hP : va_P (dC, dI) vwCl [(y0, .inr (12, [.int 0, .ref (v 1), .ref (v 2), .ref (v 3), .ref (v 4), .int 0, .ref (v 6), .int 0, .int 0, .int 0, .int 0, .int 0, .int 0, .int (-1), .ref (v 14), .ref (v 15), .ref (v 16), .ref (v 17), .ref (v 18), .ref (v 19), .ref (v 20), .int 0, .ref (v 22), .int 0, .ref (v 24), .ref (v 25), .int 0, .ref (v 27), .ref (v 28), .ref (v 29), .ref (v 30), .int 0, .int 0, .int 0, .int 0, .int 0, .ref (v 36), .long 0, .ref (v 38), .ref (v 39), .ref (v 40), .ref (v 41)])), (v 38, .inl (cI, 4, .inl (upd (upd (upd (upd (fun _ => 0) 0 (-1)) 1 (-1)) 2 (-1)) 3 (-1))))] H := hP
  have hD : va_D (fun q : Nat => s.heap.size ≤ q) [(y0, .inr (12, [.int 0, .ref (v 1), .ref (v 2), .ref (v 3), .ref (v 4), .int 0, .ref (v 6), .int 0, .int 0, .int 0, .int 0, .int 0, .int 0, .int (-1), .ref (v 14), .ref (v 15), .ref (v 16), .ref (v 17), .ref (v 18), .ref (v 19), .ref (v 20), .int 0, .ref (v 22), .int 0, .ref (v 24), .ref (v 25), .int 0, .ref (v 27), .ref (v 28), .ref (v 29), .ref (v 30), .int 0, .int 0, .int 0, .int 0, .int 0, .ref (v 36), .long 0, .ref (v 38), .ref (v 39), .ref (v 40), .ref (v 41)])), (v 38, .inl (cI, 4, .inl (upd (upd (upd (upd (fun _ => 0) 0 (-1)) 1 (-1)) 2 (-1)) 3 (-1))))] := hD
  have hs6 := hw
  refine lv_aload_n hx hb dL_law_1629 rfl (lv_at hl 1 rfl) ?_
  refine lv_aload_n hx hb dL_law_1630 rfl (lv_at hl 3 rfl) ?_
  refine lv_iload_n hx hb dL_law_1631 rfl (lv_at hl 0 rfl) ?_
  refine lv_iconst (v := 1) hx hb dL_law_1632 (by decide) ?_
  refine lv_iadd hx hb dL_law_1633 ?_
  refine lv_topi (nm_r (e' := (1)) (by decide +kernel) ?_)
  refine va_sld hx hb hX hbl hbA hS (vin (by decide)) dL_law_1634 ?_
  refine lv_aload_n hx hb dL_law_1635 rfl (lv_at hl 3 rfl) ?_
  refine lv_iload_n hx hb dL_law_1636 rfl (lv_at hl 0 rfl) ?_
  refine lv_iconst (v := 2) hx hb dL_law_1637 (by decide) ?_
  refine lv_iadd hx hb dL_law_1638 ?_
  refine lv_topi (nm_r (e' := (2)) (by decide +kernel) ?_)
  refine va_sld hx hb hX hbl hbA hS (vin (by decide)) dL_law_1639 ?_
  refine lv_aload_n hx hb dL_law_1640 rfl (lv_at hl 3 rfl) ?_
  refine lv_iload_n hx hb dL_law_1641 rfl (lv_at hl 0 rfl) ?_
  refine lv_iconst (v := 3) hx hb dL_law_1642 (by decide) ?_
  refine lv_iadd hx hb dL_law_1643 ?_
  refine lv_topi (nm_r (e' := (3)) (by decide +kernel) ?_)
  refine va_sld hx hb hX hbl hbA hS (vin (by decide)) dL_law_1644 ?_
  refine lv_i2l hx hb dL_law_1645 rfl ?_
  refine lv_bipush (v := 32) hx hb dL_law_1646 (by decide) ?_
  refine lv_lshl hx hb dL_law_1648 rfl ?_
  refine lv_topl (fun x7 ex7 => ?_)
  refine lv_aload_n hx hb dL_law_1649 rfl (lv_at hl 3 rfl) ?_
  refine lv_iload_n hx hb dL_law_1650 rfl (lv_at hl 0 rfl) ?_
  refine lv_iconst (v := 4) hx hb dL_law_1651 (by decide) ?_
  refine lv_iadd hx hb dL_law_1652 ?_
  refine lv_topi (nm_r (e' := (4)) (by decide +kernel) ?_)
  refine va_sld hx hb hX hbl hbA hS (vin (by decide)) dL_law_1653 ?_
  refine lv_i2l hx hb dL_law_1654 rfl ?_
  refine lv_ldc2 (v := 4294967295) hx hb hown (hwd _ kr1_6) dL_law_1655 ?_
  refine lv_land hx hb dL_law_1658 ?_
  refine lv_topl (fun x8 ex8 => ?_)
  refine lv_lor hx hb dL_law_1659 ?_
  refine lv_topl (fun x9 ex9 => ?_)
  have hPc := hP.sub (ws' := [(y0, .inr (12, [.int 0, .ref (v 1), .ref (v 2), .ref (v 3), .ref (v 4), .int 0, .ref (v 6), .int 0, .int 0, .int 0, .int 0, .int 0, .int 0, .int (-1), .ref (v 14), .ref (v 15), .ref (v 16), .ref (v 17), .ref (v 18), .ref (v 19), .ref (v 20), .int 0, .ref (v 22), .int 0, .ref (v 24), .ref (v 25), .int 0, .ref (v 27), .ref (v 28), .ref (v 29), .ref (v 30), .int 0, .int 0, .int 0, .int 0, .int 0, .ref (v 36), .long 0, .ref (v 38), .ref (v 39), .ref (v 40), .ref (v 41)])), (v 38, .inl (cI, 4, .inl (upd (upd (upd (upd (fun _ => 0) 0 (-1)) 1 (-1)) 2 (-1)) 3 (-1))))]) [0, 1] rfl
  have hDc := hD.sub (ws' := [(y0, .inr (12, [.int 0, .ref (v 1), .ref (v 2), .ref (v 3), .ref (v 4), .int 0, .ref (v 6), .int 0, .int 0, .int 0, .int 0, .int 0, .int 0, .int (-1), .ref (v 14), .ref (v 15), .ref (v 16), .ref (v 17), .ref (v 18), .ref (v 19), .ref (v 20), .int 0, .ref (v 22), .int 0, .ref (v 24), .ref (v 25), .int 0, .ref (v 27), .ref (v 28), .ref (v 29), .ref (v 30), .int 0, .int 0, .int 0, .int 0, .int 0, .ref (v 36), .long 0, .ref (v 38), .ref (v 39), .ref (v 40), .ref (v 41)])), (v 38, .inl (cI, 4, .inl (upd (upd (upd (upd (fun _ => 0) 0 (-1)) 1 (-1)) 2 (-1)) 3 (-1))))]) [0, 1] (by decide) rfl
  have hFc := va_free (wc := [(y0, .inr (12, [.int 0, .ref (v 1), .ref (v 2), .ref (v 3), .ref (v 4), .int 0, .ref (v 6), .int 0, .int 0, .int 0, .int 0, .int 0, .int 0, .int (-1), .ref (v 14), .ref (v 15), .ref (v 16), .ref (v 17), .ref (v 18), .ref (v 19), .ref (v 20), .int 0, .ref (v 22), .int 0, .ref (v 24), .ref (v 25), .int 0, .ref (v 27), .ref (v 28), .ref (v 29), .ref (v 30), .int 0, .int 0, .int 0, .int 0, .int 0, .ref (v 36), .long 0, .ref (v 38), .ref (v 39), .ref (v 40), .ref (v 41)])), (v 38, .inl (cI, 4, .inl (upd (upd (upd (upd (fun _ => 0) 0 (-1)) 1 (-1)) 2 (-1)) 3 (-1))))]) hD hS hA [0, 1] rfl
  refine va_calli (va_runV (As := [.int (xs (1 : Int32).toNatClampNeg), .int (xs (2 : Int32).toNatClampNeg), .long x9]) (rest := [.int r4]) ⟨hx, hb, hml, hown, hwd⟩ (c_X12_write l dC dI cI cZ cB cJ cM y0 v (xs (1 : Int32).toNatClampNeg) (xs (2 : Int32).toNatClampNeg) x9 H.size) (cwV 3 hwd (gV kr34_18 kr34_19 kr34_20 kr1_5 kr34_21) rfl rfl rfl (by decide +kernel) ⟨Nat.le_of_ble_eq_true rfl, Nat.le_of_ble_eq_true rfl⟩) (kPreV hPc hK hDc (ci := 12) (q0 := 0) rfl rfl) rfl rfl hl.1 rfl (lv_room (Nat.le_of_ble_eq_true rfl)) dL_law_1660 ⟨Nat.le_of_ble_eq_true rfl, Nat.le_of_ble_eq_true rfl⟩) hS (fun q _ h => hFc q h) hFc (fun r10 u11 t H1 locs ht9 hvm hw hB hz1 hk1 hS => ?_)
  obtain ⟨hP, hD⟩ := va_join (wr := []) (w1 := []) hP hD [0, 1] [] rfl rfl (by decide) (by decide) hk1 hFc kP0 kD0
  generalize H1 = H at hP hS ⊢
  have hP : va_P (dC, dI) vwCl [] H := hP
  have hD : va_D (fun q : Nat => s.heap.size ≤ q) [] := hD
  have hs12 := hw
  refine lv_icmp_eq (tgt := 1731) hx hb dL_law_1663 (by decide) (fun c13 => ?_) (fun c13 => absurd (by simp only [Sp_write] at hs6 hs12; rw [ki_eq]; omega) c13)
  exact law_tail C0 hS (lv_sub hl [3, 0] rfl)
set_option maxHeartbeats 4000000 in
set_option maxRecDepth 100000 in
/-- the call of paste on two fresh objects -/
theorem lcase_47 {p : Program} {l : Launch} {e : Env} {s : State} {m : MethodId} {below : List Frame} {meth : Method} {c : Code} {b : Nat} {xs : Nat → Int32} {dC : Nat → ClassId} {dI : Nat → Nat → Nat} {cI cZ cB cJ cM : ClassId} (x0 y0 : Nat) (u v : Nat → Nat) {H : Heap} {locs : List Loc} {ls : Array Slot} (C0 : lw_At p s m meth c b 6 xs) (hK : va_K (dC, dI) vwCl [(cI, .int), (cZ, .boolean), (cB, .byte), (cJ, .long), (cM, .object RX2)] s) (hP : va_P (dC, dI) vwCl [(x0, .inr (11, [.ref (u 0), .ref (u 2), .ref (u 3), .ref (u 4), .ref (u 5), .ref (u 10), .ref (u 11), .ref (u 12), .ref (u 98), .ref (u 124)])), (u 5, .inr (8, [.ref (u 6), .ref (u 7), .ref (u 8), .ref (u 9)])), (u 8, .inl (cZ, 4, .inl (fun _ => 0))), (y0, .inr (12, [.int 0, .ref (v 1), .ref (v 2), .ref (v 3), .ref (v 4), .int 0, .ref (v 6), .int 0, .int 0, .int 0, .int 0, .int 0, .int 0, .int (-1), .ref (v 14), .ref (v 15), .ref (v 16), .ref (v 17), .ref (v 18), .ref (v 19), .ref (v 20), .int 0, .ref (v 22), .int 0, .ref (v 24), .ref (v 25), .int 0, .ref (v 27), .ref (v 28), .ref (v 29), .ref (v 30), .int 0, .int 0, .int 0, .int 0, .int 0, .ref (v 36), .long 0, .ref (v 38), .ref (v 39), .ref (v 40), .ref (v 41)])), (v 38, .inl (cI, 4, .inl (upd (upd (upd (upd (fun _ => 0) 0 (-1)) 1 (-1)) 2 (-1)) 3 (-1))))] H) (hD : va_D (fun q : Nat => s.heap.size ≤ q) [(x0, .inr (11, [.ref (u 0), .ref (u 2), .ref (u 3), .ref (u 4), .ref (u 5), .ref (u 10), .ref (u 11), .ref (u 12), .ref (u 98), .ref (u 124)])), (u 5, .inr (8, [.ref (u 6), .ref (u 7), .ref (u 8), .ref (u 9)])), (u 8, .inl (cZ, 4, .inl (fun _ => 0))), (y0, .inr (12, [.int 0, .ref (v 1), .ref (v 2), .ref (v 3), .ref (v 4), .int 0, .ref (v 6), .int 0, .int 0, .int 0, .int 0, .int 0, .int 0, .int (-1), .ref (v 14), .ref (v 15), .ref (v 16), .ref (v 17), .ref (v 18), .ref (v 19), .ref (v 20), .int 0, .ref (v 22), .int 0, .ref (v 24), .ref (v 25), .int 0, .ref (v 27), .ref (v 28), .ref (v 29), .ref (v 30), .int 0, .int 0, .int 0, .int 0, .int 0, .ref (v 36), .long 0, .ref (v 38), .ref (v 39), .ref (v 40), .ref (v 41)])), (v 38, .inl (cI, 4, .inl (upd (upd (upd (upd (fun _ => 0) 0 (-1)) 1 (-1)) 2 (-1)) 3 (-1))))]) (hS : va_S (fun q : Nat => s.heap.size ≤ q) s.heap H locs) (hl : lv_has ls 4 [(3, .int 0), (2, .ref y0), (1, .ref x0), (0, .ref b)]) : W p l e room_1 s m #[Value.ref b] below meth c H locs 600000 7302250 (lw_Z below #[Value.ref b] s) (F0 m 1668 ls []) := by
  obtain ⟨hx, hb, hr, hml, hown0, hts, hX, hbl, hlocks, hgv⟩ := id C0
  have hb : c.code = cL_law := hb
  have hown : s.vm.findClass RL = some m.cls := hown0
  have hwd : ∀ wd ∈ wsL_law, wd.before #[Value.ref b] s = true := fun w h => hts w (wsL_law_in w h)
  have hA : ∀ q : Nat, s.heap.size ≤ q → (fun q : Nat => s.heap.size ≤ q) q := fun _ h => h
  have hbA : ¬ (fun q : Nat => s.heap.size ≤ q) b := Nat.not_le.mpr hbl
  refine lv_aload_n hx hb dL_law_1668 rfl (lv_at hl 2 rfl) ?_
  refine lv_aload_n hx hb dL_law_1669 rfl (lv_at hl 3 rfl) ?_
  refine lv_iload_n hx hb dL_law_1670 rfl (lv_at hl 0 rfl) ?_
  refine lv_iconst (v := 1) hx hb dL_law_1671 (by decide) ?_
  refine lv_iadd hx hb dL_law_1672 ?_
  refine lv_topi (nm_r (e' := (1)) (by decide +kernel) ?_)
  refine va_sld hx hb hX hbl hbA hS (vin (by decide)) dL_law_1673 ?_
  refine lv_aload_n hx hb dL_law_1674 rfl (lv_at hl 3 rfl) ?_
  refine lv_iload_n hx hb dL_law_1675 rfl (lv_at hl 0 rfl) ?_
  refine lv_iconst (v := 2) hx hb dL_law_1676 (by decide) ?_
  refine lv_iadd hx hb dL_law_1677 ?_
  refine lv_topi (nm_r (e' := (2)) (by decide +kernel) ?_)
  refine va_sld hx hb hX hbl hbA hS (vin (by decide)) dL_law_1678 ?_
  refine lv_aload_n hx hb dL_law_1679 rfl (lv_at hl 3 rfl) ?_
  refine lv_iload_n hx hb dL_law_1680 rfl (lv_at hl 0 rfl) ?_
  refine lv_iconst (v := 3) hx hb dL_law_1681 (by decide) ?_
  refine lv_iadd hx hb dL_law_1682 ?_
  refine lv_topi (nm_r (e' := (3)) (by decide +kernel) ?_)
  refine va_sld hx hb hX hbl hbA hS (vin (by decide)) dL_law_1683 ?_
  refine lv_aload_n hx hb dL_law_1684 rfl (lv_at hl 3 rfl) ?_
  refine lv_iload_n hx hb dL_law_1685 rfl (lv_at hl 0 rfl) ?_
  refine lv_iconst (v := 4) hx hb dL_law_1686 (by decide) ?_
  refine lv_iadd hx hb dL_law_1687 ?_
  refine lv_topi (nm_r (e' := (4)) (by decide +kernel) ?_)
  refine va_sld hx hb hX hbl hbA hS (vin (by decide)) dL_law_1688 ?_
  refine lv_aload_n hx hb dL_law_1689 rfl (lv_at hl 3 rfl) ?_
  refine lv_iload_n hx hb dL_law_1690 rfl (lv_at hl 0 rfl) ?_
  refine lv_iconst (v := 5) hx hb dL_law_1691 (by decide) ?_
  refine lv_iadd hx hb dL_law_1692 ?_
  refine lv_topi (nm_r (e' := (5)) (by decide +kernel) ?_)
  refine va_sld hx hb hX hbl hbA hS (vin (by decide)) dL_law_1693 ?_
  have hPc := hP.sub (ws' := [(x0, .inr (11, [.ref (u 0), .ref (u 2), .ref (u 3), .ref (u 4), .ref (u 5), .ref (u 10), .ref (u 11), .ref (u 12), .ref (u 98), .ref (u 124)])), (u 5, .inr (8, [.ref (u 6), .ref (u 7), .ref (u 8), .ref (u 9)])), (u 8, .inl (cZ, 4, .inl (fun _ => 0)))]) [0, 1, 2] rfl
  have hDc := hD.sub (ws' := [(x0, .inr (11, [.ref (u 0), .ref (u 2), .ref (u 3), .ref (u 4), .ref (u 5), .ref (u 10), .ref (u 11), .ref (u 12), .ref (u 98), .ref (u 124)])), (u 5, .inr (8, [.ref (u 6), .ref (u 7), .ref (u 8), .ref (u 9)])), (u 8, .inl (cZ, 4, .inl (fun _ => 0)))]) [0, 1, 2] (by decide) rfl
  have hFc := va_free (wc := [(x0, .inr (11, [.ref (u 0), .ref (u 2), .ref (u 3), .ref (u 4), .ref (u 5), .ref (u 10), .ref (u 11), .ref (u 12), .ref (u 98), .ref (u 124)])), (u 5, .inr (8, [.ref (u 6), .ref (u 7), .ref (u 8), .ref (u 9)])), (u 8, .inl (cZ, 4, .inl (fun _ => 0)))]) hD hS hA [0, 1, 2] rfl
  refine va_calli (va_runV (As := [.int (xs (1 : Int32).toNatClampNeg), .int (xs (2 : Int32).toNatClampNeg), .int (xs (3 : Int32).toNatClampNeg), .int (xs (4 : Int32).toNatClampNeg), .int (xs (5 : Int32).toNatClampNeg)]) (rest := []) ⟨hx, hb, hml, hown, hwd⟩ (c_X11_paste l dC dI cI cZ cB cJ cM x0 (u 0) (u 2) (u 3) (u 4) (u 5) (u 10) (u 11) (u 12) (u 98) (u 124) (u 6) (u 7) (u 8) (u 9) (xs (1 : Int32).toNatClampNeg) (xs (2 : Int32).toNatClampNeg) (xs (3 : Int32).toNatClampNeg) (xs (4 : Int32).toNatClampNeg) (xs (5 : Int32).toNatClampNeg) H.size) (cwV 5 hwd (gV kr34_22 kr34_23 kr35_0 kr1_2 kr35_1) rfl rfl rfl (by decide +kernel) ⟨Nat.le_of_ble_eq_true rfl, Nat.le_of_ble_eq_true rfl⟩) (kPreV hPc hK hDc (ci := 11) (q0 := 0) rfl rfl) rfl rfl hl.1 rfl (lv_room (Nat.le_of_ble_eq_true rfl)) dL_law_1694 ⟨Nat.le_of_ble_eq_true rfl, Nat.le_of_ble_eq_true rfl⟩) hS (fun q _ h => hFc q h) hFc (fun r1 u2 t H1 locs ht9 hvm hw hB hz1 hk1 hS => ?_)
  obtain ⟨hP, hD⟩ := va_join (wr := [(y0, .inr (12, [.int 0, .ref (v 1), .ref (v 2), .ref (v 3), .ref (v 4), .int 0, .ref (v 6), .int 0, .int 0, .int 0, .int 0, .int 0, .int 0, .int (-1), .ref (v 14), .ref (v 15), .ref (v 16), .ref (v 17), .ref (v 18), .ref (v 19), .ref (v 20), .int 0, .ref (v 22), .int 0, .ref (v 24), .ref (v 25), .int 0, .ref (v 27), .ref (v 28), .ref (v 29), .ref (v 30), .int 0, .int 0, .int 0, .int 0, .int 0, .ref (v 36), .long 0, .ref (v 38), .ref (v 39), .ref (v 40), .ref (v 41)])), (v 38, .inl (cI, 4, .inl (upd (upd (upd (upd (fun _ => 0) 0 (-1)) 1 (-1)) 2 (-1)) 3 (-1))))]) (w1 := []) hP hD [0, 1, 2] [3, 4] rfl rfl (by decide) (by decide) hk1 hFc kP0 kD0
  generalize H1 = H at hP hS ⊢
  have hP : va_P (dC, dI) vwCl [(y0, .inr (12, [.int 0, .ref (v 1), .ref (v 2), .ref (v 3), .ref (v 4), .int 0, .ref (v 6), .int 0, .int 0, .int 0, .int 0, .int 0, .int 0, .int (-1), .ref (v 14), .ref (v 15), .ref (v 16), .ref (v 17), .ref (v 18), .ref (v 19), .ref (v 20), .int 0, .ref (v 22), .int 0, .ref (v 24), .ref (v 25), .int 0, .ref (v 27), .ref (v 28), .ref (v 29), .ref (v 30), .int 0, .int 0, .int 0, .int 0, .int 0, .ref (v 36), .long 0, .ref (v 38), .ref (v 39), .ref (v 40), .ref (v 41)])), (v 38, .inl (cI, 4, .inl (upd (upd (upd (upd (fun _ => 0) 0 (-1)) 1 (-1)) 2 (-1)) 3 (-1))))] H := hP
  have hD : va_D (fun q : Nat => s.heap.size ≤ q) [(y0, .inr (12, [.int 0, .ref (v 1), .ref (v 2), .ref (v 3), .ref (v 4), .int 0, .ref (v 6), .int 0, .int 0, .int 0, .int 0, .int 0, .int 0, .int (-1), .ref (v 14), .ref (v 15), .ref (v 16), .ref (v 17), .ref (v 18), .ref (v 19), .ref (v 20), .int 0, .ref (v 22), .int 0, .ref (v 24), .ref (v 25), .int 0, .ref (v 27), .ref (v 28), .ref (v 29), .ref (v 30), .int 0, .int 0, .int 0, .int 0, .int 0, .ref (v 36), .long 0, .ref (v 38), .ref (v 39), .ref (v 40), .ref (v 41)])), (v 38, .inl (cI, 4, .inl (upd (upd (upd (upd (fun _ => 0) 0 (-1)) 1 (-1)) 2 (-1)) 3 (-1))))] := hD
  have hs3 := hw
  refine lv_aload_n hx hb dL_law_1697 rfl (lv_at hl 1 rfl) ?_
  refine lv_aload_n hx hb dL_law_1698 rfl (lv_at hl 3 rfl) ?_
  refine lv_iload_n hx hb dL_law_1699 rfl (lv_at hl 0 rfl) ?_
  refine lv_iconst (v := 1) hx hb dL_law_1700 (by decide) ?_
  refine lv_iadd hx hb dL_law_1701 ?_
  refine lv_topi (nm_r (e' := (1)) (by decide +kernel) ?_)
  refine va_sld hx hb hX hbl hbA hS (vin (by decide)) dL_law_1702 ?_
  refine lv_aload_n hx hb dL_law_1703 rfl (lv_at hl 3 rfl) ?_
  refine lv_iload_n hx hb dL_law_1704 rfl (lv_at hl 0 rfl) ?_
  refine lv_iconst (v := 2) hx hb dL_law_1705 (by decide) ?_
  refine lv_iadd hx hb dL_law_1706 ?_
  refine lv_topi (nm_r (e' := (2)) (by decide +kernel) ?_)
  refine va_sld hx hb hX hbl hbA hS (vin (by decide)) dL_law_1707 ?_
  refine lv_aload_n hx hb dL_law_1708 rfl (lv_at hl 3 rfl) ?_
  refine lv_iload_n hx hb dL_law_1709 rfl (lv_at hl 0 rfl) ?_
  refine lv_iconst (v := 3) hx hb dL_law_1710 (by decide) ?_
  refine lv_iadd hx hb dL_law_1711 ?_
  refine lv_topi (nm_r (e' := (3)) (by decide +kernel) ?_)
  refine va_sld hx hb hX hbl hbA hS (vin (by decide)) dL_law_1712 ?_
  refine lv_aload_n hx hb dL_law_1713 rfl (lv_at hl 3 rfl) ?_
  refine lv_iload_n hx hb dL_law_1714 rfl (lv_at hl 0 rfl) ?_
  refine lv_iconst (v := 4) hx hb dL_law_1715 (by decide) ?_
  refine lv_iadd hx hb dL_law_1716 ?_
  refine lv_topi (nm_r (e' := (4)) (by decide +kernel) ?_)
  refine va_sld hx hb hX hbl hbA hS (vin (by decide)) dL_law_1717 ?_
  refine lv_aload_n hx hb dL_law_1718 rfl (lv_at hl 3 rfl) ?_
  refine lv_iload_n hx hb dL_law_1719 rfl (lv_at hl 0 rfl) ?_
  refine lv_iconst (v := 5) hx hb dL_law_1720 (by decide) ?_
  refine lv_iadd hx hb dL_law_1721 ?_
  refine lv_topi (nm_r (e' := (5)) (by decide +kernel) ?_)
  refine va_sld hx hb hX hbl hbA hS (vin (by decide)) dL_law_1722 ?_
  have hPc := hP.sub (ws' := [(y0, .inr (12, [.int 0, .ref (v 1), .ref (v 2), .ref (v 3), .ref (v 4), .int 0, .ref (v 6), .int 0, .int 0, .int 0, .int 0, .int 0, .int 0, .int (-1), .ref (v 14), .ref (v 15), .ref (v 16), .ref (v 17), .ref (v 18), .ref (v 19), .ref (v 20), .int 0, .ref (v 22), .int 0, .ref (v 24), .ref (v 25), .int 0, .ref (v 27), .ref (v 28), .ref (v 29), .ref (v 30), .int 0, .int 0, .int 0, .int 0, .int 0, .ref (v 36), .long 0, .ref (v 38), .ref (v 39), .ref (v 40), .ref (v 41)])), (v 38, .inl (cI, 4, .inl (upd (upd (upd (upd (fun _ => 0) 0 (-1)) 1 (-1)) 2 (-1)) 3 (-1))))]) [0, 1] rfl
  have hDc := hD.sub (ws' := [(y0, .inr (12, [.int 0, .ref (v 1), .ref (v 2), .ref (v 3), .ref (v 4), .int 0, .ref (v 6), .int 0, .int 0, .int 0, .int 0, .int 0, .int 0, .int (-1), .ref (v 14), .ref (v 15), .ref (v 16), .ref (v 17), .ref (v 18), .ref (v 19), .ref (v 20), .int 0, .ref (v 22), .int 0, .ref (v 24), .ref (v 25), .int 0, .ref (v 27), .ref (v 28), .ref (v 29), .ref (v 30), .int 0, .int 0, .int 0, .int 0, .int 0, .ref (v 36), .long 0, .ref (v 38), .ref (v 39), .ref (v 40), .ref (v 41)])), (v 38, .inl (cI, 4, .inl (upd (upd (upd (upd (fun _ => 0) 0 (-1)) 1 (-1)) 2 (-1)) 3 (-1))))]) [0, 1] (by decide) rfl
  have hFc := va_free (wc := [(y0, .inr (12, [.int 0, .ref (v 1), .ref (v 2), .ref (v 3), .ref (v 4), .int 0, .ref (v 6), .int 0, .int 0, .int 0, .int 0, .int 0, .int 0, .int (-1), .ref (v 14), .ref (v 15), .ref (v 16), .ref (v 17), .ref (v 18), .ref (v 19), .ref (v 20), .int 0, .ref (v 22), .int 0, .ref (v 24), .ref (v 25), .int 0, .ref (v 27), .ref (v 28), .ref (v 29), .ref (v 30), .int 0, .int 0, .int 0, .int 0, .int 0, .ref (v 36), .long 0, .ref (v 38), .ref (v 39), .ref (v 40), .ref (v 41)])), (v 38, .inl (cI, 4, .inl (upd (upd (upd (upd (fun _ => 0) 0 (-1)) 1 (-1)) 2 (-1)) 3 (-1))))]) hD hS hA [0, 1] rfl
  refine va_calli (va_runV (As := [.int (xs (1 : Int32).toNatClampNeg), .int (xs (2 : Int32).toNatClampNeg), .int (xs (3 : Int32).toNatClampNeg), .int (xs (4 : Int32).toNatClampNeg), .int (xs (5 : Int32).toNatClampNeg)]) (rest := [.int r1]) ⟨hx, hb, hml, hown, hwd⟩ (c_X12_paste l dC dI cI cZ cB cJ cM y0 v (xs (1 : Int32).toNatClampNeg) (xs (2 : Int32).toNatClampNeg) (xs (3 : Int32).toNatClampNeg) (xs (4 : Int32).toNatClampNeg) (xs (5 : Int32).toNatClampNeg) H.size) (cwV 5 hwd (gV kr35_2 kr35_3 kr35_4 kr1_5 kr35_5) rfl rfl rfl (by decide +kernel) ⟨Nat.le_of_ble_eq_true rfl, Nat.le_of_ble_eq_true rfl⟩) (kPreV hPc hK hDc (ci := 12) (q0 := 0) rfl rfl) rfl rfl hl.1 rfl (lv_room (Nat.le_of_ble_eq_true rfl)) dL_law_1723 ⟨Nat.le_of_ble_eq_true rfl, Nat.le_of_ble_eq_true rfl⟩) hS (fun q _ h => hFc q h) hFc (fun r4 u5 t H1 locs ht9 hvm hw hB hz1 hk1 hS => ?_)
  obtain ⟨hP, hD⟩ := va_join (wr := []) (w1 := []) hP hD [0, 1] [] rfl rfl (by decide) (by decide) hk1 hFc kP0 kD0
  generalize H1 = H at hP hS ⊢
  have hP : va_P (dC, dI) vwCl [] H := hP
  have hD : va_D (fun q : Nat => s.heap.size ≤ q) [] := hD
  have hs6 := hw
  refine lv_icmp_eq (tgt := 1731) hx hb dL_law_1726 (by decide) (fun c7 => ?_) (fun c7 => absurd (by simp only [Sp_paste] at hs3 hs6; rw [ki_eq]; omega) c7)
  exact law_tail C0 hS (lv_sub hl [3, 0] rfl)
