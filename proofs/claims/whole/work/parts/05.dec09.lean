/-! the instructions -/
theorem d_law_1259 : decode code 1259 = .ok (.istore 5, 2) := by decide +kernel
theorem d_law_1261 : decode code 1261 = .ok (.aload_n 2, 1) := by decide +kernel
theorem d_law_1262 : decode code 1262 = .ok (.aload_n 0, 1) := by decide +kernel
theorem d_law_1263 : decode code 1263 = .ok (.iload 4, 2) := by decide +kernel
theorem d_law_1265 : decode code 1265 = .ok (.iconst 1, 1) := by decide +kernel
theorem d_law_1266 : decode code 1266 = .ok (.iadd, 1) := by decide +kernel
theorem d_law_1267 : decode code 1267 = .ok (.iaload, 1) := by decide +kernel
theorem d_law_1268 : decode code 1268 = .ok (.aload_n 0, 1) := by decide +kernel
theorem d_law_1269 : decode code 1269 = .ok (.iload 4, 2) := by decide +kernel
theorem d_law_1271 : decode code 1271 = .ok (.iconst 2, 1) := by decide +kernel
theorem d_law_1272 : decode code 1272 = .ok (.iadd, 1) := by decide +kernel
theorem d_law_1273 : decode code 1273 = .ok (.iaload, 1) := by decide +kernel
theorem d_law_1274 : decode code 1274 = .ok (.invokevirtual 155, 3) := by decide +kernel
theorem d_law_1277 : decode code 1277 = .ok (.istore 6, 2) := by decide +kernel
theorem d_law_1279 : decode code 1279 = .ok (.aload_n 2, 1) := by decide +kernel
theorem d_law_1280 : decode code 1280 = .ok (.invokevirtual 96, 3) := by decide +kernel
theorem d_law_1283 : decode code 1283 = .ok (.iload 5, 2) := by decide +kernel
theorem d_law_1285 : decode code 1285 = .ok (.if_icmp .eq 5, 3) := by decide +kernel
theorem d_law_1288 : decode code 1288 = .ok (.iconst 0, 1) := by decide +kernel
theorem d_law_1289 : decode code 1289 = .ok (.ireturn, 1) := by decide +kernel
theorem d_law_1290 : decode code 1290 = .ok (.iload 5, 2) := by decide +kernel
theorem d_law_1292 : decode code 1292 = .ok (.ifCond .ne 15, 3) := by decide +kernel
theorem d_law_1295 : decode code 1295 = .ok (.aload_n 3, 1) := by decide +kernel
theorem d_law_1296 : decode code 1296 = .ok (.iconst 0, 1) := by decide +kernel
theorem d_law_1297 : decode code 1297 = .ok (.laload, 1) := by decide +kernel
theorem d_law_1298 : decode code 1298 = .ok (.iload 6, 2) := by decide +kernel
theorem d_law_1300 : decode code 1300 = .ok (.i2l, 1) := by decide +kernel
theorem d_law_1301 : decode code 1301 = .ok (.lcmp, 1) := by decide +kernel
theorem d_law_1302 : decode code 1302 = .ok (.ifCond .eq 5, 3) := by decide +kernel
theorem d_law_1305 : decode code 1305 = .ok (.iconst 0, 1) := by decide +kernel
theorem d_law_1306 : decode code 1306 = .ok (.ireturn, 1) := by decide +kernel
theorem d_law_1307 : decode code 1307 = .ok (.goto 439, 3) := by decide +kernel
theorem d_law_1310 : decode code 1310 = .ok (.aload_n 1, 1) := by decide +kernel
theorem d_law_1311 : decode code 1311 = .ok (.aload_n 0, 1) := by decide +kernel
theorem d_law_1312 : decode code 1312 = .ok (.iload 4, 2) := by decide +kernel
theorem d_law_1314 : decode code 1314 = .ok (.iconst 1, 1) := by decide +kernel
theorem d_law_1315 : decode code 1315 = .ok (.iadd, 1) := by decide +kernel
theorem d_law_1316 : decode code 1316 = .ok (.iaload, 1) := by decide +kernel
theorem d_law_1317 : decode code 1317 = .ok (.aload_n 0, 1) := by decide +kernel
theorem d_law_1318 : decode code 1318 = .ok (.iload 4, 2) := by decide +kernel
theorem d_law_1320 : decode code 1320 = .ok (.iconst 2, 1) := by decide +kernel
theorem d_law_1321 : decode code 1321 = .ok (.iadd, 1) := by decide +kernel
theorem d_law_1322 : decode code 1322 = .ok (.iaload, 1) := by decide +kernel
theorem d_law_1323 : decode code 1323 = .ok (.aload_n 3, 1) := by decide +kernel
theorem d_law_1324 : decode code 1324 = .ok (.invokestatic 156, 3) := by decide +kernel
theorem d_law_1327 : decode code 1327 = .ok (.istore 5, 2) := by decide +kernel
theorem d_law_1329 : decode code 1329 = .ok (.aload_n 2, 1) := by decide +kernel
theorem d_law_1330 : decode code 1330 = .ok (.aload_n 0, 1) := by decide +kernel
theorem d_law_1331 : decode code 1331 = .ok (.iload 4, 2) := by decide +kernel
theorem d_law_1333 : decode code 1333 = .ok (.iconst 1, 1) := by decide +kernel
theorem d_law_1334 : decode code 1334 = .ok (.iadd, 1) := by decide +kernel
theorem d_law_1335 : decode code 1335 = .ok (.iaload, 1) := by decide +kernel
theorem d_law_1336 : decode code 1336 = .ok (.aload_n 0, 1) := by decide +kernel
theorem d_law_1337 : decode code 1337 = .ok (.iload 4, 2) := by decide +kernel
theorem d_law_1339 : decode code 1339 = .ok (.iconst 2, 1) := by decide +kernel
theorem d_law_1340 : decode code 1340 = .ok (.iadd, 1) := by decide +kernel
theorem d_law_1341 : decode code 1341 = .ok (.iaload, 1) := by decide +kernel
theorem d_law_1342 : decode code 1342 = .ok (.invokevirtual 158, 3) := by decide +kernel
theorem d_law_1345 : decode code 1345 = .ok (.istore 6, 2) := by decide +kernel
theorem d_law_1347 : decode code 1347 = .ok (.aload_n 2, 1) := by decide +kernel
theorem d_law_1348 : decode code 1348 = .ok (.invokevirtual 96, 3) := by decide +kernel
theorem d_law_1351 : decode code 1351 = .ok (.iload 5, 2) := by decide +kernel
theorem d_law_1353 : decode code 1353 = .ok (.if_icmp .eq 5, 3) := by decide +kernel
theorem d_law_1356 : decode code 1356 = .ok (.iconst 0, 1) := by decide +kernel
theorem d_law_1357 : decode code 1357 = .ok (.ireturn, 1) := by decide +kernel
theorem d_law_1358 : decode code 1358 = .ok (.iload 5, 2) := by decide +kernel
theorem d_law_1360 : decode code 1360 = .ok (.ifCond .ne 22, 3) := by decide +kernel
theorem d_law_1363 : decode code 1363 = .ok (.aload_n 3, 1) := by decide +kernel
theorem d_law_1364 : decode code 1364 = .ok (.iconst 0, 1) := by decide +kernel
theorem d_law_1365 : decode code 1365 = .ok (.laload, 1) := by decide +kernel
theorem d_law_1366 : decode code 1366 = .ok (.iload 6, 2) := by decide +kernel
theorem d_law_1368 : decode code 1368 = .ok (.ifCond .eq 7, 3) := by decide +kernel
theorem d_law_1371 : decode code 1371 = .ok (.lconst 1, 1) := by decide +kernel
theorem d_law_1372 : decode code 1372 = .ok (.goto 4, 3) := by decide +kernel
theorem d_law_1375 : decode code 1375 = .ok (.lconst 0, 1) := by decide +kernel
theorem d_law_1376 : decode code 1376 = .ok (.lcmp, 1) := by decide +kernel
theorem d_law_1377 : decode code 1377 = .ok (.ifCond .eq 5, 3) := by decide +kernel
theorem d_law_1380 : decode code 1380 = .ok (.iconst 0, 1) := by decide +kernel
theorem d_law_1381 : decode code 1381 = .ok (.ireturn, 1) := by decide +kernel
theorem d_law_1382 : decode code 1382 = .ok (.goto 364, 3) := by decide +kernel
theorem d_law_1385 : decode code 1385 = .ok (.aload_n 1, 1) := by decide +kernel
theorem d_law_1386 : decode code 1386 = .ok (.aload_n 0, 1) := by decide +kernel
theorem d_law_1387 : decode code 1387 = .ok (.iload 4, 2) := by decide +kernel
theorem d_law_1389 : decode code 1389 = .ok (.iconst 1, 1) := by decide +kernel
theorem d_law_1390 : decode code 1390 = .ok (.iadd, 1) := by decide +kernel
theorem d_law_1391 : decode code 1391 = .ok (.iaload, 1) := by decide +kernel
theorem d_law_1392 : decode code 1392 = .ok (.aload_n 0, 1) := by decide +kernel
theorem d_law_1393 : decode code 1393 = .ok (.iload 4, 2) := by decide +kernel
theorem d_law_1395 : decode code 1395 = .ok (.iconst 2, 1) := by decide +kernel
theorem d_law_1396 : decode code 1396 = .ok (.iadd, 1) := by decide +kernel
theorem d_law_1397 : decode code 1397 = .ok (.iaload, 1) := by decide +kernel
theorem d_law_1398 : decode code 1398 = .ok (.aload_n 3, 1) := by decide +kernel
theorem d_law_1399 : decode code 1399 = .ok (.invokestatic 159, 3) := by decide +kernel
theorem d_law_1402 : decode code 1402 = .ok (.istore 5, 2) := by decide +kernel
theorem d_law_1404 : decode code 1404 = .ok (.aload_n 2, 1) := by decide +kernel
theorem d_law_1405 : decode code 1405 = .ok (.aload_n 0, 1) := by decide +kernel
theorem d_law_1406 : decode code 1406 = .ok (.iload 4, 2) := by decide +kernel
theorem d_law_1408 : decode code 1408 = .ok (.iconst 1, 1) := by decide +kernel
theorem d_law_1409 : decode code 1409 = .ok (.iadd, 1) := by decide +kernel
theorem d_law_1410 : decode code 1410 = .ok (.iaload, 1) := by decide +kernel
theorem d_law_1411 : decode code 1411 = .ok (.aload_n 0, 1) := by decide +kernel
theorem d_law_1412 : decode code 1412 = .ok (.iload 4, 2) := by decide +kernel
theorem d_law_1414 : decode code 1414 = .ok (.iconst 2, 1) := by decide +kernel
theorem d_law_1415 : decode code 1415 = .ok (.iadd, 1) := by decide +kernel
theorem d_law_1416 : decode code 1416 = .ok (.iaload, 1) := by decide +kernel
theorem d_law_1417 : decode code 1417 = .ok (.invokevirtual 161, 3) := by decide +kernel
theorem d_law_1420 : decode code 1420 = .ok (.istore 6, 2) := by decide +kernel
theorem d_law_1422 : decode code 1422 = .ok (.aload_n 2, 1) := by decide +kernel
theorem d_law_1423 : decode code 1423 = .ok (.invokevirtual 96, 3) := by decide +kernel
theorem d_law_1426 : decode code 1426 = .ok (.iload 5, 2) := by decide +kernel
theorem d_law_1428 : decode code 1428 = .ok (.if_icmp .eq 5, 3) := by decide +kernel
theorem d_law_1431 : decode code 1431 = .ok (.iconst 0, 1) := by decide +kernel
theorem d_law_1432 : decode code 1432 = .ok (.ireturn, 1) := by decide +kernel
theorem d_law_1433 : decode code 1433 = .ok (.iload 5, 2) := by decide +kernel
theorem d_law_1435 : decode code 1435 = .ok (.ifCond .ne 22, 3) := by decide +kernel
theorem d_law_1438 : decode code 1438 = .ok (.aload_n 3, 1) := by decide +kernel
theorem d_law_1439 : decode code 1439 = .ok (.iconst 0, 1) := by decide +kernel
theorem d_law_1440 : decode code 1440 = .ok (.laload, 1) := by decide +kernel
theorem d_law_1441 : decode code 1441 = .ok (.iload 6, 2) := by decide +kernel
theorem d_law_1443 : decode code 1443 = .ok (.ifCond .eq 7, 3) := by decide +kernel
theorem d_law_1446 : decode code 1446 = .ok (.lconst 1, 1) := by decide +kernel
theorem d_law_1447 : decode code 1447 = .ok (.goto 4, 3) := by decide +kernel
theorem d_law_1450 : decode code 1450 = .ok (.lconst 0, 1) := by decide +kernel
theorem d_law_1451 : decode code 1451 = .ok (.lcmp, 1) := by decide +kernel
theorem d_law_1452 : decode code 1452 = .ok (.ifCond .eq 5, 3) := by decide +kernel
theorem d_law_1455 : decode code 1455 = .ok (.iconst 0, 1) := by decide +kernel
theorem d_law_1456 : decode code 1456 = .ok (.ireturn, 1) := by decide +kernel
theorem d_law_1457 : decode code 1457 = .ok (.goto 289, 3) := by decide +kernel
theorem d_law_1460 : decode code 1460 = .ok (.aload_n 1, 1) := by decide +kernel
theorem d_law_1461 : decode code 1461 = .ok (.aload_n 0, 1) := by decide +kernel
theorem d_law_1462 : decode code 1462 = .ok (.iload 4, 2) := by decide +kernel
theorem d_law_1464 : decode code 1464 = .ok (.iconst 1, 1) := by decide +kernel
theorem d_law_1465 : decode code 1465 = .ok (.iadd, 1) := by decide +kernel
theorem d_law_1466 : decode code 1466 = .ok (.iaload, 1) := by decide +kernel
theorem d_law_1467 : decode code 1467 = .ok (.aload_n 3, 1) := by decide +kernel
theorem d_law_1468 : decode code 1468 = .ok (.invokestatic 162, 3) := by decide +kernel
theorem d_law_1471 : decode code 1471 = .ok (.istore 5, 2) := by decide +kernel
theorem d_law_1473 : decode code 1473 = .ok (.aload_n 2, 1) := by decide +kernel
theorem d_law_1474 : decode code 1474 = .ok (.aload_n 0, 1) := by decide +kernel
theorem d_law_1475 : decode code 1475 = .ok (.iload 4, 2) := by decide +kernel
theorem d_law_1477 : decode code 1477 = .ok (.iconst 1, 1) := by decide +kernel
theorem d_law_1478 : decode code 1478 = .ok (.iadd, 1) := by decide +kernel
theorem d_law_1479 : decode code 1479 = .ok (.iaload, 1) := by decide +kernel
theorem d_law_1480 : decode code 1480 = .ok (.invokevirtual 164, 3) := by decide +kernel
theorem d_law_1483 : decode code 1483 = .ok (.istore 6, 2) := by decide +kernel
theorem d_law_1485 : decode code 1485 = .ok (.aload_n 2, 1) := by decide +kernel
theorem d_law_1486 : decode code 1486 = .ok (.invokevirtual 96, 3) := by decide +kernel
theorem d_law_1489 : decode code 1489 = .ok (.iload 5, 2) := by decide +kernel
theorem d_law_1491 : decode code 1491 = .ok (.if_icmp .eq 5, 3) := by decide +kernel
theorem d_law_1494 : decode code 1494 = .ok (.iconst 0, 1) := by decide +kernel
theorem d_law_1495 : decode code 1495 = .ok (.ireturn, 1) := by decide +kernel
theorem d_law_1496 : decode code 1496 = .ok (.iload 5, 2) := by decide +kernel
theorem d_law_1498 : decode code 1498 = .ok (.ifCond .ne 15, 3) := by decide +kernel
theorem d_law_1501 : decode code 1501 = .ok (.aload_n 3, 1) := by decide +kernel
theorem d_law_1502 : decode code 1502 = .ok (.iconst 0, 1) := by decide +kernel
theorem d_law_1503 : decode code 1503 = .ok (.laload, 1) := by decide +kernel
theorem d_law_1504 : decode code 1504 = .ok (.iload 6, 2) := by decide +kernel
theorem d_law_1506 : decode code 1506 = .ok (.i2l, 1) := by decide +kernel
theorem d_law_1507 : decode code 1507 = .ok (.lcmp, 1) := by decide +kernel
theorem d_law_1508 : decode code 1508 = .ok (.ifCond .eq 5, 3) := by decide +kernel
theorem d_law_1511 : decode code 1511 = .ok (.iconst 0, 1) := by decide +kernel
theorem d_law_1512 : decode code 1512 = .ok (.ireturn, 1) := by decide +kernel
theorem d_law_1513 : decode code 1513 = .ok (.goto 233, 3) := by decide +kernel
theorem d_law_1516 : decode code 1516 = .ok (.aload_n 1, 1) := by decide +kernel
theorem d_law_1517 : decode code 1517 = .ok (.invokevirtual 165, 3) := by decide +kernel
theorem d_law_1520 : decode code 1520 = .ok (.aload_n 2, 1) := by decide +kernel
theorem d_law_1521 : decode code 1521 = .ok (.invokevirtual 168, 3) := by decide +kernel
theorem d_law_1524 : decode code 1524 = .ok (.if_icmp .eq 222, 3) := by decide +kernel
theorem d_law_1527 : decode code 1527 = .ok (.iconst 0, 1) := by decide +kernel
theorem d_law_1528 : decode code 1528 = .ok (.ireturn, 1) := by decide +kernel
theorem d_law_1529 : decode code 1529 = .ok (.aload_n 1, 1) := by decide +kernel
theorem d_law_1530 : decode code 1530 = .ok (.aload_n 0, 1) := by decide +kernel
theorem d_law_1531 : decode code 1531 = .ok (.iload 4, 2) := by decide +kernel
theorem d_law_1533 : decode code 1533 = .ok (.iconst 1, 1) := by decide +kernel
theorem d_law_1534 : decode code 1534 = .ok (.iadd, 1) := by decide +kernel
theorem d_law_1535 : decode code 1535 = .ok (.iaload, 1) := by decide +kernel
theorem d_law_1536 : decode code 1536 = .ok (.aload_n 0, 1) := by decide +kernel
theorem d_law_1537 : decode code 1537 = .ok (.iload 4, 2) := by decide +kernel
theorem d_law_1539 : decode code 1539 = .ok (.iconst 2, 1) := by decide +kernel
theorem d_law_1540 : decode code 1540 = .ok (.iadd, 1) := by decide +kernel
theorem d_law_1541 : decode code 1541 = .ok (.iaload, 1) := by decide +kernel
theorem d_law_1542 : decode code 1542 = .ok (.aload_n 3, 1) := by decide +kernel
theorem d_law_1543 : decode code 1543 = .ok (.invokestatic 169, 3) := by decide +kernel
theorem d_law_1546 : decode code 1546 = .ok (.istore 5, 2) := by decide +kernel
theorem d_law_1548 : decode code 1548 = .ok (.aload_n 2, 1) := by decide +kernel
theorem d_law_1549 : decode code 1549 = .ok (.aload_n 0, 1) := by decide +kernel
theorem d_law_1550 : decode code 1550 = .ok (.iload 4, 2) := by decide +kernel
theorem d_law_1552 : decode code 1552 = .ok (.iconst 1, 1) := by decide +kernel
theorem d_law_1553 : decode code 1553 = .ok (.iadd, 1) := by decide +kernel
theorem d_law_1554 : decode code 1554 = .ok (.iaload, 1) := by decide +kernel
theorem d_law_1555 : decode code 1555 = .ok (.aload_n 0, 1) := by decide +kernel
theorem d_law_1556 : decode code 1556 = .ok (.iload 4, 2) := by decide +kernel
theorem d_law_1558 : decode code 1558 = .ok (.iconst 2, 1) := by decide +kernel
theorem d_law_1559 : decode code 1559 = .ok (.iadd, 1) := by decide +kernel
theorem d_law_1560 : decode code 1560 = .ok (.iaload, 1) := by decide +kernel
theorem d_law_1561 : decode code 1561 = .ok (.invokevirtual 171, 3) := by decide +kernel
theorem d_law_1564 : decode code 1564 = .ok (.istore 6, 2) := by decide +kernel
theorem d_law_1566 : decode code 1566 = .ok (.aload_n 2, 1) := by decide +kernel
theorem d_law_1567 : decode code 1567 = .ok (.invokevirtual 96, 3) := by decide +kernel
theorem d_law_1570 : decode code 1570 = .ok (.iload 5, 2) := by decide +kernel
theorem d_law_1572 : decode code 1572 = .ok (.if_icmp .eq 5, 3) := by decide +kernel
theorem d_law_1575 : decode code 1575 = .ok (.iconst 0, 1) := by decide +kernel
theorem d_law_1576 : decode code 1576 = .ok (.ireturn, 1) := by decide +kernel
theorem d_law_1577 : decode code 1577 = .ok (.iload 5, 2) := by decide +kernel
theorem d_law_1579 : decode code 1579 = .ok (.ifCond .ne 15, 3) := by decide +kernel
theorem d_law_1582 : decode code 1582 = .ok (.aload_n 3, 1) := by decide +kernel
theorem d_law_1583 : decode code 1583 = .ok (.iconst 0, 1) := by decide +kernel
theorem d_law_1584 : decode code 1584 = .ok (.laload, 1) := by decide +kernel
theorem d_law_1585 : decode code 1585 = .ok (.iload 6, 2) := by decide +kernel
theorem d_law_1587 : decode code 1587 = .ok (.i2l, 1) := by decide +kernel
theorem d_law_1588 : decode code 1588 = .ok (.lcmp, 1) := by decide +kernel
theorem d_law_1589 : decode code 1589 = .ok (.ifCond .eq 5, 3) := by decide +kernel
theorem d_law_1592 : decode code 1592 = .ok (.iconst 0, 1) := by decide +kernel
theorem d_law_1593 : decode code 1593 = .ok (.ireturn, 1) := by decide +kernel
theorem d_law_1594 : decode code 1594 = .ok (.goto 152, 3) := by decide +kernel
theorem d_law_1597 : decode code 1597 = .ok (.aload_n 1, 1) := by decide +kernel
theorem d_law_1598 : decode code 1598 = .ok (.aload_n 0, 1) := by decide +kernel
theorem d_law_1599 : decode code 1599 = .ok (.iload 4, 2) := by decide +kernel
theorem d_law_1601 : decode code 1601 = .ok (.iconst 1, 1) := by decide +kernel
theorem d_law_1602 : decode code 1602 = .ok (.iadd, 1) := by decide +kernel
theorem d_law_1603 : decode code 1603 = .ok (.iaload, 1) := by decide +kernel
theorem d_law_1604 : decode code 1604 = .ok (.aload_n 0, 1) := by decide +kernel
theorem d_law_1605 : decode code 1605 = .ok (.iload 4, 2) := by decide +kernel
theorem d_law_1607 : decode code 1607 = .ok (.iconst 2, 1) := by decide +kernel
theorem d_law_1608 : decode code 1608 = .ok (.iadd, 1) := by decide +kernel
theorem d_law_1609 : decode code 1609 = .ok (.iaload, 1) := by decide +kernel
theorem d_law_1610 : decode code 1610 = .ok (.aload_n 0, 1) := by decide +kernel
theorem d_law_1611 : decode code 1611 = .ok (.iload 4, 2) := by decide +kernel
theorem d_law_1613 : decode code 1613 = .ok (.iconst 3, 1) := by decide +kernel
theorem d_law_1614 : decode code 1614 = .ok (.iadd, 1) := by decide +kernel
theorem d_law_1615 : decode code 1615 = .ok (.iaload, 1) := by decide +kernel
theorem d_law_1616 : decode code 1616 = .ok (.aload_n 3, 1) := by decide +kernel
theorem d_law_1617 : decode code 1617 = .ok (.invokestatic 172, 3) := by decide +kernel
theorem d_law_1620 : decode code 1620 = .ok (.istore 5, 2) := by decide +kernel
theorem d_law_1622 : decode code 1622 = .ok (.aload_n 2, 1) := by decide +kernel
theorem d_law_1623 : decode code 1623 = .ok (.aload_n 0, 1) := by decide +kernel
theorem d_law_1624 : decode code 1624 = .ok (.iload 4, 2) := by decide +kernel
theorem d_law_1626 : decode code 1626 = .ok (.iconst 1, 1) := by decide +kernel
theorem d_law_1627 : decode code 1627 = .ok (.iadd, 1) := by decide +kernel
theorem d_law_1628 : decode code 1628 = .ok (.iaload, 1) := by decide +kernel
theorem d_law_1629 : decode code 1629 = .ok (.aload_n 0, 1) := by decide +kernel
theorem d_law_1630 : decode code 1630 = .ok (.iload 4, 2) := by decide +kernel
theorem d_law_1632 : decode code 1632 = .ok (.iconst 2, 1) := by decide +kernel
theorem d_law_1633 : decode code 1633 = .ok (.iadd, 1) := by decide +kernel
theorem d_law_1634 : decode code 1634 = .ok (.iaload, 1) := by decide +kernel
theorem d_law_1635 : decode code 1635 = .ok (.aload_n 0, 1) := by decide +kernel
theorem d_law_1636 : decode code 1636 = .ok (.iload 4, 2) := by decide +kernel
theorem d_law_1638 : decode code 1638 = .ok (.iconst 3, 1) := by decide +kernel
theorem d_law_1639 : decode code 1639 = .ok (.iadd, 1) := by decide +kernel
theorem d_law_1640 : decode code 1640 = .ok (.iaload, 1) := by decide +kernel
theorem d_law_1641 : decode code 1641 = .ok (.invokevirtual 174, 3) := by decide +kernel
theorem d_law_1644 : decode code 1644 = .ok (.istore 6, 2) := by decide +kernel
theorem d_law_1646 : decode code 1646 = .ok (.aload_n 2, 1) := by decide +kernel
theorem d_law_1647 : decode code 1647 = .ok (.invokevirtual 96, 3) := by decide +kernel
theorem d_law_1650 : decode code 1650 = .ok (.iload 5, 2) := by decide +kernel
theorem d_law_1652 : decode code 1652 = .ok (.if_icmp .eq 5, 3) := by decide +kernel
theorem d_law_1655 : decode code 1655 = .ok (.iconst 0, 1) := by decide +kernel
theorem d_law_1656 : decode code 1656 = .ok (.ireturn, 1) := by decide +kernel
theorem d_law_1657 : decode code 1657 = .ok (.iload 5, 2) := by decide +kernel
theorem d_law_1659 : decode code 1659 = .ok (.ifCond .ne 15, 3) := by decide +kernel
theorem d_law_1662 : decode code 1662 = .ok (.aload_n 3, 1) := by decide +kernel
theorem d_law_1663 : decode code 1663 = .ok (.iconst 0, 1) := by decide +kernel
theorem d_law_1664 : decode code 1664 = .ok (.laload, 1) := by decide +kernel
theorem d_law_1665 : decode code 1665 = .ok (.iload 6, 2) := by decide +kernel
theorem d_law_1667 : decode code 1667 = .ok (.i2l, 1) := by decide +kernel
theorem d_law_1668 : decode code 1668 = .ok (.lcmp, 1) := by decide +kernel
theorem d_law_1669 : decode code 1669 = .ok (.ifCond .eq 5, 3) := by decide +kernel
theorem d_law_1672 : decode code 1672 = .ok (.iconst 0, 1) := by decide +kernel
theorem d_law_1673 : decode code 1673 = .ok (.ireturn, 1) := by decide +kernel
theorem d_law_1674 : decode code 1674 = .ok (.goto 72, 3) := by decide +kernel
theorem d_law_1677 : decode code 1677 = .ok (.aload_n 1, 1) := by decide +kernel
theorem d_law_1678 : decode code 1678 = .ok (.invokevirtual 175, 3) := by decide +kernel
theorem d_law_1681 : decode code 1681 = .ok (.aload_n 2, 1) := by decide +kernel
theorem d_law_1682 : decode code 1682 = .ok (.invokevirtual 178, 3) := by decide +kernel
theorem d_law_1685 : decode code 1685 = .ok (.if_icmp .eq 61, 3) := by decide +kernel
theorem d_law_1688 : decode code 1688 = .ok (.iconst 0, 1) := by decide +kernel
theorem d_law_1689 : decode code 1689 = .ok (.ireturn, 1) := by decide +kernel
theorem d_law_1690 : decode code 1690 = .ok (.aload_n 1, 1) := by decide +kernel
theorem d_law_1691 : decode code 1691 = .ok (.aload_n 0, 1) := by decide +kernel
theorem d_law_1692 : decode code 1692 = .ok (.iload 4, 2) := by decide +kernel
theorem d_law_1694 : decode code 1694 = .ok (.iconst 1, 1) := by decide +kernel
theorem d_law_1695 : decode code 1695 = .ok (.iadd, 1) := by decide +kernel
theorem d_law_1696 : decode code 1696 = .ok (.iaload, 1) := by decide +kernel
theorem d_law_1697 : decode code 1697 = .ok (.aload_n 3, 1) := by decide +kernel
theorem d_law_1698 : decode code 1698 = .ok (.invokestatic 179, 3) := by decide +kernel
theorem d_law_1701 : decode code 1701 = .ok (.istore 5, 2) := by decide +kernel
theorem d_law_1703 : decode code 1703 = .ok (.aload_n 2, 1) := by decide +kernel
theorem d_law_1704 : decode code 1704 = .ok (.aload_n 0, 1) := by decide +kernel
theorem d_law_1705 : decode code 1705 = .ok (.iload 4, 2) := by decide +kernel
theorem d_law_1707 : decode code 1707 = .ok (.iconst 1, 1) := by decide +kernel
theorem d_law_1708 : decode code 1708 = .ok (.iadd, 1) := by decide +kernel
theorem d_law_1709 : decode code 1709 = .ok (.iaload, 1) := by decide +kernel
theorem d_law_1710 : decode code 1710 = .ok (.invokevirtual 181, 3) := by decide +kernel
theorem d_law_1713 : decode code 1713 = .ok (.istore 6, 2) := by decide +kernel
theorem d_law_1715 : decode code 1715 = .ok (.aload_n 2, 1) := by decide +kernel
theorem d_law_1716 : decode code 1716 = .ok (.invokevirtual 96, 3) := by decide +kernel
theorem d_law_1719 : decode code 1719 = .ok (.iload 5, 2) := by decide +kernel
theorem d_law_1721 : decode code 1721 = .ok (.if_icmp .eq 5, 3) := by decide +kernel
theorem d_law_1724 : decode code 1724 = .ok (.iconst 0, 1) := by decide +kernel
theorem d_law_1725 : decode code 1725 = .ok (.ireturn, 1) := by decide +kernel
theorem d_law_1726 : decode code 1726 = .ok (.iload 5, 2) := by decide +kernel
theorem d_law_1728 : decode code 1728 = .ok (.ifCond .ne 15, 3) := by decide +kernel
theorem d_law_1731 : decode code 1731 = .ok (.aload_n 3, 1) := by decide +kernel
theorem d_law_1732 : decode code 1732 = .ok (.iconst 0, 1) := by decide +kernel
theorem d_law_1733 : decode code 1733 = .ok (.laload, 1) := by decide +kernel
theorem d_law_1734 : decode code 1734 = .ok (.iload 6, 2) := by decide +kernel
theorem d_law_1736 : decode code 1736 = .ok (.i2l, 1) := by decide +kernel
theorem d_law_1737 : decode code 1737 = .ok (.lcmp, 1) := by decide +kernel
theorem d_law_1738 : decode code 1738 = .ok (.ifCond .eq 5, 3) := by decide +kernel
theorem d_law_1741 : decode code 1741 = .ok (.iconst 0, 1) := by decide +kernel
theorem d_law_1742 : decode code 1742 = .ok (.ireturn, 1) := by decide +kernel
theorem d_law_1743 : decode code 1743 = .ok (.goto 3, 3) := by decide +kernel
theorem d_law_1746 : decode code 1746 = .ok (.iinc 4 5, 3) := by decide +kernel
theorem d_law_1749 : decode code 1749 = .ok (.goto (-1726), 3) := by decide +kernel
theorem d_law_1752 : decode code 1752 = .ok (.iconst 1, 1) := by decide +kernel
theorem d_law_1753 : decode code 1753 = .ok (.ireturn, 1) := by decide +kernel
