theorem nd_Law_law_1252 : decode nC_Law_law 1252 = .ok (.ifCond .eq 5, 3) := by decide +kernel
theorem nd_Law_law_1255 : decode nC_Law_law 1255 = .ok (.iconst 0, 1) := by decide +kernel
theorem nd_Law_law_1256 : decode nC_Law_law 1256 = .ok (.ireturn, 1) := by decide +kernel
theorem nd_Law_law_1257 : decode nC_Law_law 1257 = .ok (.goto 195, 3) := by decide +kernel
theorem nd_Law_law_1260 : decode nC_Law_law 1260 = .ok (.aload_n 1, 1) := by decide +kernel
theorem nd_Law_law_1261 : decode nC_Law_law 1261 = .ok (.aload_n 0, 1) := by decide +kernel
theorem nd_Law_law_1262 : decode nC_Law_law 1262 = .ok (.iload 4, 2) := by decide +kernel
theorem nd_Law_law_1264 : decode nC_Law_law 1264 = .ok (.iconst 1, 1) := by decide +kernel
theorem nd_Law_law_1265 : decode nC_Law_law 1265 = .ok (.iadd, 1) := by decide +kernel
theorem nd_Law_law_1266 : decode nC_Law_law 1266 = .ok (.iaload, 1) := by decide +kernel
theorem nd_Law_law_1267 : decode nC_Law_law 1267 = .ok (.aload_n 3, 1) := by decide +kernel
theorem nd_Law_law_1268 : decode nC_Law_law 1268 = .ok (.invokestatic 160, 3) := by decide +kernel
theorem nd_Law_law_1271 : decode nC_Law_law 1271 = .ok (.istore 5, 2) := by decide +kernel
theorem nd_Law_law_1273 : decode nC_Law_law 1273 = .ok (.aload_n 2, 1) := by decide +kernel
theorem nd_Law_law_1274 : decode nC_Law_law 1274 = .ok (.aload_n 0, 1) := by decide +kernel
theorem nd_Law_law_1275 : decode nC_Law_law 1275 = .ok (.iload 4, 2) := by decide +kernel
theorem nd_Law_law_1277 : decode nC_Law_law 1277 = .ok (.iconst 1, 1) := by decide +kernel
theorem nd_Law_law_1278 : decode nC_Law_law 1278 = .ok (.iadd, 1) := by decide +kernel
theorem nd_Law_law_1279 : decode nC_Law_law 1279 = .ok (.iaload, 1) := by decide +kernel
theorem nd_Law_law_1280 : decode nC_Law_law 1280 = .ok (.invokevirtual 162, 3) := by decide +kernel
theorem nd_Law_law_1283 : decode nC_Law_law 1283 = .ok (.istore 6, 2) := by decide +kernel
theorem nd_Law_law_1285 : decode nC_Law_law 1285 = .ok (.aload_n 2, 1) := by decide +kernel
theorem nd_Law_law_1286 : decode nC_Law_law 1286 = .ok (.invokevirtual 92, 3) := by decide +kernel
theorem nd_Law_law_1289 : decode nC_Law_law 1289 = .ok (.iload 5, 2) := by decide +kernel
theorem nd_Law_law_1291 : decode nC_Law_law 1291 = .ok (.if_icmp .eq 5, 3) := by decide +kernel
theorem nd_Law_law_1294 : decode nC_Law_law 1294 = .ok (.iconst 0, 1) := by decide +kernel
theorem nd_Law_law_1295 : decode nC_Law_law 1295 = .ok (.ireturn, 1) := by decide +kernel
theorem nd_Law_law_1296 : decode nC_Law_law 1296 = .ok (.iload 5, 2) := by decide +kernel
theorem nd_Law_law_1298 : decode nC_Law_law 1298 = .ok (.ifCond .ne 15, 3) := by decide +kernel
theorem nd_Law_law_1301 : decode nC_Law_law 1301 = .ok (.aload_n 3, 1) := by decide +kernel
theorem nd_Law_law_1302 : decode nC_Law_law 1302 = .ok (.iconst 0, 1) := by decide +kernel
theorem nd_Law_law_1303 : decode nC_Law_law 1303 = .ok (.laload, 1) := by decide +kernel
theorem nd_Law_law_1304 : decode nC_Law_law 1304 = .ok (.iload 6, 2) := by decide +kernel
theorem nd_Law_law_1306 : decode nC_Law_law 1306 = .ok (.i2l, 1) := by decide +kernel
theorem nd_Law_law_1307 : decode nC_Law_law 1307 = .ok (.lcmp, 1) := by decide +kernel
theorem nd_Law_law_1308 : decode nC_Law_law 1308 = .ok (.ifCond .eq 5, 3) := by decide +kernel
theorem nd_Law_law_1311 : decode nC_Law_law 1311 = .ok (.iconst 0, 1) := by decide +kernel
theorem nd_Law_law_1312 : decode nC_Law_law 1312 = .ok (.ireturn, 1) := by decide +kernel
theorem nd_Law_law_1313 : decode nC_Law_law 1313 = .ok (.goto 139, 3) := by decide +kernel
theorem nd_Law_law_1316 : decode nC_Law_law 1316 = .ok (.aload_n 1, 1) := by decide +kernel
theorem nd_Law_law_1317 : decode nC_Law_law 1317 = .ok (.aload_n 0, 1) := by decide +kernel
theorem nd_Law_law_1318 : decode nC_Law_law 1318 = .ok (.iload 4, 2) := by decide +kernel
theorem nd_Law_law_1320 : decode nC_Law_law 1320 = .ok (.iconst 1, 1) := by decide +kernel
theorem nd_Law_law_1321 : decode nC_Law_law 1321 = .ok (.iadd, 1) := by decide +kernel
theorem nd_Law_law_1322 : decode nC_Law_law 1322 = .ok (.iaload, 1) := by decide +kernel
theorem nd_Law_law_1323 : decode nC_Law_law 1323 = .ok (.aload_n 0, 1) := by decide +kernel
theorem nd_Law_law_1324 : decode nC_Law_law 1324 = .ok (.iload 4, 2) := by decide +kernel
theorem nd_Law_law_1326 : decode nC_Law_law 1326 = .ok (.iconst 2, 1) := by decide +kernel
theorem nd_Law_law_1327 : decode nC_Law_law 1327 = .ok (.iadd, 1) := by decide +kernel
theorem nd_Law_law_1328 : decode nC_Law_law 1328 = .ok (.iaload, 1) := by decide +kernel
theorem nd_Law_law_1329 : decode nC_Law_law 1329 = .ok (.aload_n 0, 1) := by decide +kernel
theorem nd_Law_law_1330 : decode nC_Law_law 1330 = .ok (.iload 4, 2) := by decide +kernel
theorem nd_Law_law_1332 : decode nC_Law_law 1332 = .ok (.iconst 3, 1) := by decide +kernel
theorem nd_Law_law_1333 : decode nC_Law_law 1333 = .ok (.iadd, 1) := by decide +kernel
theorem nd_Law_law_1334 : decode nC_Law_law 1334 = .ok (.iaload, 1) := by decide +kernel
theorem nd_Law_law_1335 : decode nC_Law_law 1335 = .ok (.aload_n 3, 1) := by decide +kernel
theorem nd_Law_law_1336 : decode nC_Law_law 1336 = .ok (.invokestatic 163, 3) := by decide +kernel
theorem nd_Law_law_1339 : decode nC_Law_law 1339 = .ok (.istore 5, 2) := by decide +kernel
theorem nd_Law_law_1341 : decode nC_Law_law 1341 = .ok (.aload_n 2, 1) := by decide +kernel
theorem nd_Law_law_1342 : decode nC_Law_law 1342 = .ok (.aload_n 0, 1) := by decide +kernel
theorem nd_Law_law_1343 : decode nC_Law_law 1343 = .ok (.iload 4, 2) := by decide +kernel
theorem nd_Law_law_1345 : decode nC_Law_law 1345 = .ok (.iconst 1, 1) := by decide +kernel
theorem nd_Law_law_1346 : decode nC_Law_law 1346 = .ok (.iadd, 1) := by decide +kernel
theorem nd_Law_law_1347 : decode nC_Law_law 1347 = .ok (.iaload, 1) := by decide +kernel
theorem nd_Law_law_1348 : decode nC_Law_law 1348 = .ok (.aload_n 0, 1) := by decide +kernel
theorem nd_Law_law_1349 : decode nC_Law_law 1349 = .ok (.iload 4, 2) := by decide +kernel
theorem nd_Law_law_1351 : decode nC_Law_law 1351 = .ok (.iconst 2, 1) := by decide +kernel
theorem nd_Law_law_1352 : decode nC_Law_law 1352 = .ok (.iadd, 1) := by decide +kernel
theorem nd_Law_law_1353 : decode nC_Law_law 1353 = .ok (.iaload, 1) := by decide +kernel
theorem nd_Law_law_1354 : decode nC_Law_law 1354 = .ok (.aload_n 0, 1) := by decide +kernel
theorem nd_Law_law_1355 : decode nC_Law_law 1355 = .ok (.iload 4, 2) := by decide +kernel
theorem nd_Law_law_1357 : decode nC_Law_law 1357 = .ok (.iconst 3, 1) := by decide +kernel
theorem nd_Law_law_1358 : decode nC_Law_law 1358 = .ok (.iadd, 1) := by decide +kernel
theorem nd_Law_law_1359 : decode nC_Law_law 1359 = .ok (.iaload, 1) := by decide +kernel
theorem nd_Law_law_1360 : decode nC_Law_law 1360 = .ok (.invokevirtual 165, 3) := by decide +kernel
theorem nd_Law_law_1363 : decode nC_Law_law 1363 = .ok (.istore 6, 2) := by decide +kernel
theorem nd_Law_law_1365 : decode nC_Law_law 1365 = .ok (.aload_n 2, 1) := by decide +kernel
theorem nd_Law_law_1366 : decode nC_Law_law 1366 = .ok (.invokevirtual 92, 3) := by decide +kernel
theorem nd_Law_law_1369 : decode nC_Law_law 1369 = .ok (.iload 5, 2) := by decide +kernel
theorem nd_Law_law_1371 : decode nC_Law_law 1371 = .ok (.if_icmp .eq 5, 3) := by decide +kernel
theorem nd_Law_law_1374 : decode nC_Law_law 1374 = .ok (.iconst 0, 1) := by decide +kernel
theorem nd_Law_law_1375 : decode nC_Law_law 1375 = .ok (.ireturn, 1) := by decide +kernel
theorem nd_Law_law_1376 : decode nC_Law_law 1376 = .ok (.iload 5, 2) := by decide +kernel
theorem nd_Law_law_1378 : decode nC_Law_law 1378 = .ok (.ifCond .ne 15, 3) := by decide +kernel
theorem nd_Law_law_1381 : decode nC_Law_law 1381 = .ok (.aload_n 3, 1) := by decide +kernel
theorem nd_Law_law_1382 : decode nC_Law_law 1382 = .ok (.iconst 0, 1) := by decide +kernel
theorem nd_Law_law_1383 : decode nC_Law_law 1383 = .ok (.laload, 1) := by decide +kernel
theorem nd_Law_law_1384 : decode nC_Law_law 1384 = .ok (.iload 6, 2) := by decide +kernel
theorem nd_Law_law_1386 : decode nC_Law_law 1386 = .ok (.i2l, 1) := by decide +kernel
theorem nd_Law_law_1387 : decode nC_Law_law 1387 = .ok (.lcmp, 1) := by decide +kernel
theorem nd_Law_law_1388 : decode nC_Law_law 1388 = .ok (.ifCond .eq 5, 3) := by decide +kernel
theorem nd_Law_law_1391 : decode nC_Law_law 1391 = .ok (.iconst 0, 1) := by decide +kernel
theorem nd_Law_law_1392 : decode nC_Law_law 1392 = .ok (.ireturn, 1) := by decide +kernel
theorem nd_Law_law_1393 : decode nC_Law_law 1393 = .ok (.goto 59, 3) := by decide +kernel
theorem nd_Law_law_1396 : decode nC_Law_law 1396 = .ok (.aload_n 1, 1) := by decide +kernel
theorem nd_Law_law_1397 : decode nC_Law_law 1397 = .ok (.aload_n 0, 1) := by decide +kernel
theorem nd_Law_law_1398 : decode nC_Law_law 1398 = .ok (.iload 4, 2) := by decide +kernel
theorem nd_Law_law_1400 : decode nC_Law_law 1400 = .ok (.iconst 1, 1) := by decide +kernel
theorem nd_Law_law_1401 : decode nC_Law_law 1401 = .ok (.iadd, 1) := by decide +kernel
theorem nd_Law_law_1402 : decode nC_Law_law 1402 = .ok (.iaload, 1) := by decide +kernel
theorem nd_Law_law_1403 : decode nC_Law_law 1403 = .ok (.aload_n 3, 1) := by decide +kernel
theorem nd_Law_law_1404 : decode nC_Law_law 1404 = .ok (.invokestatic 166, 3) := by decide +kernel
theorem nd_Law_law_1407 : decode nC_Law_law 1407 = .ok (.istore 5, 2) := by decide +kernel
theorem nd_Law_law_1409 : decode nC_Law_law 1409 = .ok (.aload_n 2, 1) := by decide +kernel
theorem nd_Law_law_1410 : decode nC_Law_law 1410 = .ok (.aload_n 0, 1) := by decide +kernel
theorem nd_Law_law_1411 : decode nC_Law_law 1411 = .ok (.iload 4, 2) := by decide +kernel
theorem nd_Law_law_1413 : decode nC_Law_law 1413 = .ok (.iconst 1, 1) := by decide +kernel
theorem nd_Law_law_1414 : decode nC_Law_law 1414 = .ok (.iadd, 1) := by decide +kernel
theorem nd_Law_law_1415 : decode nC_Law_law 1415 = .ok (.iaload, 1) := by decide +kernel
theorem nd_Law_law_1416 : decode nC_Law_law 1416 = .ok (.invokevirtual 168, 3) := by decide +kernel
theorem nd_Law_law_1419 : decode nC_Law_law 1419 = .ok (.istore 6, 2) := by decide +kernel
theorem nd_Law_law_1421 : decode nC_Law_law 1421 = .ok (.aload_n 2, 1) := by decide +kernel
theorem nd_Law_law_1422 : decode nC_Law_law 1422 = .ok (.invokevirtual 92, 3) := by decide +kernel
theorem nd_Law_law_1425 : decode nC_Law_law 1425 = .ok (.iload 5, 2) := by decide +kernel
theorem nd_Law_law_1427 : decode nC_Law_law 1427 = .ok (.if_icmp .eq 5, 3) := by decide +kernel
theorem nd_Law_law_1430 : decode nC_Law_law 1430 = .ok (.iconst 0, 1) := by decide +kernel
theorem nd_Law_law_1431 : decode nC_Law_law 1431 = .ok (.ireturn, 1) := by decide +kernel
theorem nd_Law_law_1432 : decode nC_Law_law 1432 = .ok (.iload 5, 2) := by decide +kernel
theorem nd_Law_law_1434 : decode nC_Law_law 1434 = .ok (.ifCond .ne 15, 3) := by decide +kernel
theorem nd_Law_law_1437 : decode nC_Law_law 1437 = .ok (.aload_n 3, 1) := by decide +kernel
theorem nd_Law_law_1438 : decode nC_Law_law 1438 = .ok (.iconst 0, 1) := by decide +kernel
theorem nd_Law_law_1439 : decode nC_Law_law 1439 = .ok (.laload, 1) := by decide +kernel
theorem nd_Law_law_1440 : decode nC_Law_law 1440 = .ok (.iload 6, 2) := by decide +kernel
theorem nd_Law_law_1442 : decode nC_Law_law 1442 = .ok (.i2l, 1) := by decide +kernel
theorem nd_Law_law_1443 : decode nC_Law_law 1443 = .ok (.lcmp, 1) := by decide +kernel
theorem nd_Law_law_1444 : decode nC_Law_law 1444 = .ok (.ifCond .eq 5, 3) := by decide +kernel
theorem nd_Law_law_1447 : decode nC_Law_law 1447 = .ok (.iconst 0, 1) := by decide +kernel
theorem nd_Law_law_1448 : decode nC_Law_law 1448 = .ok (.ireturn, 1) := by decide +kernel
theorem nd_Law_law_1449 : decode nC_Law_law 1449 = .ok (.goto 3, 3) := by decide +kernel
theorem nd_Law_law_1452 : decode nC_Law_law 1452 = .ok (.iinc 4 5, 3) := by decide +kernel
theorem nd_Law_law_1455 : decode nC_Law_law 1455 = .ok (.goto (-1432), 3) := by decide +kernel
theorem nd_Law_law_1458 : decode nC_Law_law 1458 = .ok (.iconst 1, 1) := by decide +kernel
theorem nd_Law_law_1459 : decode nC_Law_law 1459 = .ok (.ireturn, 1) := by decide +kernel
