theorem dL_law_1304 : decode cL_law 1304 = .ok (.iaload, 1) := by decide +kernel
theorem dL_law_1305 : decode cL_law 1305 = .ok (.iastore, 1) := by decide +kernel
theorem dL_law_1306 : decode cL_law 1306 = .ok (.aload_n 3, 1) := by decide +kernel
theorem dL_law_1307 : decode cL_law 1307 = .ok (.iload 17, 2) := by decide +kernel
theorem dL_law_1309 : decode cL_law 1309 = .ok (.aload_n 3, 1) := by decide +kernel
theorem dL_law_1310 : decode cL_law 1310 = .ok (.iload 32, 2) := by decide +kernel
theorem dL_law_1312 : decode cL_law 1312 = .ok (.iaload, 1) := by decide +kernel
theorem dL_law_1313 : decode cL_law 1313 = .ok (.iastore, 1) := by decide +kernel
theorem dL_law_1314 : decode cL_law 1314 = .ok (.aload 4, 2) := by decide +kernel
theorem dL_law_1316 : decode cL_law 1316 = .ok (.iload 17, 2) := by decide +kernel
theorem dL_law_1318 : decode cL_law 1318 = .ok (.aload 4, 2) := by decide +kernel
theorem dL_law_1320 : decode cL_law 1320 = .ok (.iload 32, 2) := by decide +kernel
theorem dL_law_1322 : decode cL_law 1322 = .ok (.iaload, 1) := by decide +kernel
theorem dL_law_1323 : decode cL_law 1323 = .ok (.aload 4, 2) := by decide +kernel
theorem dL_law_1325 : decode cL_law 1325 = .ok (.iload 32, 2) := by decide +kernel
theorem dL_law_1327 : decode cL_law 1327 = .ok (.iaload, 1) := by decide +kernel
theorem dL_law_1328 : decode cL_law 1328 = .ok (.iconst 2, 1) := by decide +kernel
theorem dL_law_1329 : decode cL_law 1329 = .ok (.idiv, 1) := by decide +kernel
theorem dL_law_1330 : decode cL_law 1330 = .ok (.isub, 1) := by decide +kernel
theorem dL_law_1331 : decode cL_law 1331 = .ok (.iastore, 1) := by decide +kernel
theorem dL_law_1332 : decode cL_law 1332 = .ok (.aload 4, 2) := by decide +kernel
theorem dL_law_1334 : decode cL_law 1334 = .ok (.iload 32, 2) := by decide +kernel
theorem dL_law_1336 : decode cL_law 1336 = .ok (.aload 4, 2) := by decide +kernel
theorem dL_law_1338 : decode cL_law 1338 = .ok (.iload 32, 2) := by decide +kernel
theorem dL_law_1340 : decode cL_law 1340 = .ok (.iaload, 1) := by decide +kernel
theorem dL_law_1341 : decode cL_law 1341 = .ok (.iconst 2, 1) := by decide +kernel
theorem dL_law_1342 : decode cL_law 1342 = .ok (.idiv, 1) := by decide +kernel
theorem dL_law_1343 : decode cL_law 1343 = .ok (.iastore, 1) := by decide +kernel
theorem dL_law_1344 : decode cL_law 1344 = .ok (.aload 5, 2) := by decide +kernel
theorem dL_law_1346 : decode cL_law 1346 = .ok (.iload 17, 2) := by decide +kernel
theorem dL_law_1348 : decode cL_law 1348 = .ok (.iconst 0, 1) := by decide +kernel
theorem dL_law_1349 : decode cL_law 1349 = .ok (.iastore, 1) := by decide +kernel
theorem dL_law_1350 : decode cL_law 1350 = .ok (.aload 5, 2) := by decide +kernel
theorem dL_law_1352 : decode cL_law 1352 = .ok (.iload 32, 2) := by decide +kernel
theorem dL_law_1354 : decode cL_law 1354 = .ok (.iconst 0, 1) := by decide +kernel
theorem dL_law_1355 : decode cL_law 1355 = .ok (.iastore, 1) := by decide +kernel
theorem dL_law_1356 : decode cL_law 1356 = .ok (.aload 6, 2) := by decide +kernel
theorem dL_law_1358 : decode cL_law 1358 = .ok (.iload 17, 2) := by decide +kernel
theorem dL_law_1360 : decode cL_law 1360 = .ok (.aload 6, 2) := by decide +kernel
theorem dL_law_1362 : decode cL_law 1362 = .ok (.iload 32, 2) := by decide +kernel
theorem dL_law_1364 : decode cL_law 1364 = .ok (.iaload, 1) := by decide +kernel
theorem dL_law_1365 : decode cL_law 1365 = .ok (.iastore, 1) := by decide +kernel
theorem dL_law_1366 : decode cL_law 1366 = .ok (.aload 7, 2) := by decide +kernel
theorem dL_law_1368 : decode cL_law 1368 = .ok (.iload 17, 2) := by decide +kernel
theorem dL_law_1370 : decode cL_law 1370 = .ok (.iconst 1, 1) := by decide +kernel
theorem dL_law_1371 : decode cL_law 1371 = .ok (.iastore, 1) := by decide +kernel
theorem dL_law_1372 : decode cL_law 1372 = .ok (.lload 13, 2) := by decide +kernel
theorem dL_law_1374 : decode cL_law 1374 = .ok (.aload_n 2, 1) := by decide +kernel
theorem dL_law_1375 : decode cL_law 1375 = .ok (.aload 4, 2) := by decide +kernel
theorem dL_law_1377 : decode cL_law 1377 = .ok (.aload 7, 2) := by decide +kernel
theorem dL_law_1379 : decode cL_law 1379 = .ok (.aload 9, 2) := by decide +kernel
theorem dL_law_1381 : decode cL_law 1381 = .ok (.iload 32, 2) := by decide +kernel
theorem dL_law_1383 : decode cL_law 1383 = .ok (.aload_n 2, 1) := by decide +kernel
theorem dL_law_1384 : decode cL_law 1384 = .ok (.iload 32, 2) := by decide +kernel
theorem dL_law_1386 : decode cL_law 1386 = .ok (.iaload, 1) := by decide +kernel
theorem dL_law_1387 : decode cL_law 1387 = .ok (.iconst 1, 1) := by decide +kernel
theorem dL_law_1388 : decode cL_law 1388 = .ok (.isub, 1) := by decide +kernel
theorem dL_law_1389 : decode cL_law 1389 = .ok (.invokestatic 53, 3) := by decide +kernel
theorem dL_law_1392 : decode cL_law 1392 = .ok (.aload_n 2, 1) := by decide +kernel
theorem dL_law_1393 : decode cL_law 1393 = .ok (.aload 4, 2) := by decide +kernel
theorem dL_law_1395 : decode cL_law 1395 = .ok (.aload 7, 2) := by decide +kernel
theorem dL_law_1397 : decode cL_law 1397 = .ok (.aload 9, 2) := by decide +kernel
theorem dL_law_1399 : decode cL_law 1399 = .ok (.iload 17, 2) := by decide +kernel
theorem dL_law_1401 : decode cL_law 1401 = .ok (.aload_n 2, 1) := by decide +kernel
theorem dL_law_1402 : decode cL_law 1402 = .ok (.iload 17, 2) := by decide +kernel
theorem dL_law_1404 : decode cL_law 1404 = .ok (.iaload, 1) := by decide +kernel
theorem dL_law_1405 : decode cL_law 1405 = .ok (.iconst 1, 1) := by decide +kernel
theorem dL_law_1406 : decode cL_law 1406 = .ok (.iadd, 1) := by decide +kernel
theorem dL_law_1407 : decode cL_law 1407 = .ok (.invokestatic 53, 3) := by decide +kernel
theorem dL_law_1410 : decode cL_law 1410 = .ok (.ladd, 1) := by decide +kernel
theorem dL_law_1411 : decode cL_law 1411 = .ok (.aload_n 2, 1) := by decide +kernel
theorem dL_law_1412 : decode cL_law 1412 = .ok (.aload 4, 2) := by decide +kernel
theorem dL_law_1414 : decode cL_law 1414 = .ok (.iload 32, 2) := by decide +kernel
theorem dL_law_1416 : decode cL_law 1416 = .ok (.iload 27, 2) := by decide +kernel
theorem dL_law_1418 : decode cL_law 1418 = .ok (.if_icmp .ne 8, 3) := by decide +kernel
theorem dL_law_1421 : decode cL_law 1421 = .ok (.iload 28, 2) := by decide +kernel
theorem dL_law_1423 : decode cL_law 1423 = .ok (.goto 5, 3) := by decide +kernel
theorem dL_law_1426 : decode cL_law 1426 = .ok (.iload 27, 2) := by decide +kernel
theorem dL_law_1428 : decode cL_law 1428 = .ok (.invokestatic 32, 3) := by decide +kernel
theorem dL_law_1431 : decode cL_law 1431 = .ok (.ladd, 1) := by decide +kernel
theorem dL_law_1432 : decode cL_law 1432 = .ok (.lsub, 1) := by decide +kernel
theorem dL_law_1433 : decode cL_law 1433 = .ok (.lstore 13, 2) := by decide +kernel
theorem dL_law_1435 : decode cL_law 1435 = .ok (.aload 9, 2) := by decide +kernel
theorem dL_law_1437 : decode cL_law 1437 = .ok (.iconst 2, 1) := by decide +kernel
theorem dL_law_1438 : decode cL_law 1438 = .ok (.dup2, 1) := by decide +kernel
theorem dL_law_1439 : decode cL_law 1439 = .ok (.iaload, 1) := by decide +kernel
theorem dL_law_1440 : decode cL_law 1440 = .ok (.iconst 1, 1) := by decide +kernel
theorem dL_law_1441 : decode cL_law 1441 = .ok (.iadd, 1) := by decide +kernel
theorem dL_law_1442 : decode cL_law 1442 = .ok (.iastore, 1) := by decide +kernel
theorem dL_law_1443 : decode cL_law 1443 = .ok (.iinc 17 1, 3) := by decide +kernel
theorem dL_law_1446 : decode cL_law 1446 = .ok (.goto 129, 3) := by decide +kernel
theorem dL_law_1449 : decode cL_law 1449 = .ok (.iload 29, 2) := by decide +kernel
theorem dL_law_1451 : decode cL_law 1451 = .ok (.ifCond .ge 8, 3) := by decide +kernel
theorem dL_law_1454 : decode cL_law 1454 = .ok (.iload 28, 2) := by decide +kernel
theorem dL_law_1456 : decode cL_law 1456 = .ok (.goto 5, 3) := by decide +kernel
theorem dL_law_1459 : decode cL_law 1459 = .ok (.iload 27, 2) := by decide +kernel
theorem dL_law_1461 : decode cL_law 1461 = .ok (.istore 33, 2) := by decide +kernel
theorem dL_law_1463 : decode cL_law 1463 = .ok (.aload 5, 2) := by decide +kernel
theorem dL_law_1465 : decode cL_law 1465 = .ok (.iload 27, 2) := by decide +kernel
theorem dL_law_1467 : decode cL_law 1467 = .ok (.aload 5, 2) := by decide +kernel
theorem dL_law_1469 : decode cL_law 1469 = .ok (.iload 27, 2) := by decide +kernel
theorem dL_law_1471 : decode cL_law 1471 = .ok (.iaload, 1) := by decide +kernel
theorem dL_law_1472 : decode cL_law 1472 = .ok (.aload 9, 2) := by decide +kernel
theorem dL_law_1474 : decode cL_law 1474 = .ok (.bipush 9, 2) := by decide +kernel
theorem dL_law_1476 : decode cL_law 1476 = .ok (.iaload, 1) := by decide +kernel
theorem dL_law_1477 : decode cL_law 1477 = .ok (.imul, 1) := by decide +kernel
theorem dL_law_1478 : decode cL_law 1478 = .ok (.bipush 100, 2) := by decide +kernel
theorem dL_law_1480 : decode cL_law 1480 = .ok (.idiv, 1) := by decide +kernel
theorem dL_law_1481 : decode cL_law 1481 = .ok (.iastore, 1) := by decide +kernel
theorem dL_law_1482 : decode cL_law 1482 = .ok (.aload 5, 2) := by decide +kernel
theorem dL_law_1484 : decode cL_law 1484 = .ok (.iload 28, 2) := by decide +kernel
theorem dL_law_1486 : decode cL_law 1486 = .ok (.aload 5, 2) := by decide +kernel
theorem dL_law_1488 : decode cL_law 1488 = .ok (.iload 28, 2) := by decide +kernel
theorem dL_law_1490 : decode cL_law 1490 = .ok (.iaload, 1) := by decide +kernel
theorem dL_law_1491 : decode cL_law 1491 = .ok (.aload 9, 2) := by decide +kernel
theorem dL_law_1493 : decode cL_law 1493 = .ok (.bipush 9, 2) := by decide +kernel
theorem dL_law_1495 : decode cL_law 1495 = .ok (.iaload, 1) := by decide +kernel
theorem dL_law_1496 : decode cL_law 1496 = .ok (.imul, 1) := by decide +kernel
theorem dL_law_1497 : decode cL_law 1497 = .ok (.bipush 100, 2) := by decide +kernel
theorem dL_law_1499 : decode cL_law 1499 = .ok (.idiv, 1) := by decide +kernel
theorem dL_law_1500 : decode cL_law 1500 = .ok (.iastore, 1) := by decide +kernel
theorem dL_law_1501 : decode cL_law 1501 = .ok (.lload 13, 2) := by decide +kernel
theorem dL_law_1503 : decode cL_law 1503 = .ok (.aload_n 2, 1) := by decide +kernel
theorem dL_law_1504 : decode cL_law 1504 = .ok (.aload 4, 2) := by decide +kernel
theorem dL_law_1506 : decode cL_law 1506 = .ok (.aload 7, 2) := by decide +kernel
theorem dL_law_1508 : decode cL_law 1508 = .ok (.aload 9, 2) := by decide +kernel
theorem dL_law_1510 : decode cL_law 1510 = .ok (.iload 33, 2) := by decide +kernel
theorem dL_law_1512 : decode cL_law 1512 = .ok (.aload_n 2, 1) := by decide +kernel
theorem dL_law_1513 : decode cL_law 1513 = .ok (.iload 33, 2) := by decide +kernel
theorem dL_law_1515 : decode cL_law 1515 = .ok (.iaload, 1) := by decide +kernel
theorem dL_law_1516 : decode cL_law 1516 = .ok (.iconst 1, 1) := by decide +kernel
theorem dL_law_1517 : decode cL_law 1517 = .ok (.isub, 1) := by decide +kernel
theorem dL_law_1518 : decode cL_law 1518 = .ok (.invokestatic 53, 3) := by decide +kernel
theorem dL_law_1521 : decode cL_law 1521 = .ok (.aload_n 2, 1) := by decide +kernel
theorem dL_law_1522 : decode cL_law 1522 = .ok (.aload 4, 2) := by decide +kernel
theorem dL_law_1524 : decode cL_law 1524 = .ok (.aload 7, 2) := by decide +kernel
theorem dL_law_1526 : decode cL_law 1526 = .ok (.aload 9, 2) := by decide +kernel
theorem dL_law_1528 : decode cL_law 1528 = .ok (.iload 33, 2) := by decide +kernel
theorem dL_law_1530 : decode cL_law 1530 = .ok (.iload 27, 2) := by decide +kernel
theorem dL_law_1532 : decode cL_law 1532 = .ok (.if_icmp .ne 8, 3) := by decide +kernel
theorem dL_law_1535 : decode cL_law 1535 = .ok (.iload 28, 2) := by decide +kernel
theorem dL_law_1537 : decode cL_law 1537 = .ok (.goto 5, 3) := by decide +kernel
theorem dL_law_1540 : decode cL_law 1540 = .ok (.iload 27, 2) := by decide +kernel
theorem dL_law_1542 : decode cL_law 1542 = .ok (.aload_n 2, 1) := by decide +kernel
theorem dL_law_1543 : decode cL_law 1543 = .ok (.iload 33, 2) := by decide +kernel
theorem dL_law_1545 : decode cL_law 1545 = .ok (.iload 27, 2) := by decide +kernel
theorem dL_law_1547 : decode cL_law 1547 = .ok (.if_icmp .ne 8, 3) := by decide +kernel
theorem dL_law_1550 : decode cL_law 1550 = .ok (.iload 28, 2) := by decide +kernel
theorem dL_law_1552 : decode cL_law 1552 = .ok (.goto 5, 3) := by decide +kernel
theorem dL_law_1555 : decode cL_law 1555 = .ok (.iload 27, 2) := by decide +kernel
theorem dL_law_1557 : decode cL_law 1557 = .ok (.iaload, 1) := by decide +kernel
theorem dL_law_1558 : decode cL_law 1558 = .ok (.iconst 1, 1) := by decide +kernel
theorem dL_law_1559 : decode cL_law 1559 = .ok (.iadd, 1) := by decide +kernel
theorem dL_law_1560 : decode cL_law 1560 = .ok (.invokestatic 53, 3) := by decide +kernel
theorem dL_law_1563 : decode cL_law 1563 = .ok (.ladd, 1) := by decide +kernel
theorem dL_law_1564 : decode cL_law 1564 = .ok (.lsub, 1) := by decide +kernel
theorem dL_law_1565 : decode cL_law 1565 = .ok (.lstore 13, 2) := by decide +kernel
theorem dL_law_1567 : decode cL_law 1567 = .ok (.aload 9, 2) := by decide +kernel
theorem dL_law_1569 : decode cL_law 1569 = .ok (.iconst 3, 1) := by decide +kernel
theorem dL_law_1570 : decode cL_law 1570 = .ok (.dup2, 1) := by decide +kernel
theorem dL_law_1571 : decode cL_law 1571 = .ok (.iaload, 1) := by decide +kernel
theorem dL_law_1572 : decode cL_law 1572 = .ok (.iconst 1, 1) := by decide +kernel
theorem dL_law_1573 : decode cL_law 1573 = .ok (.iadd, 1) := by decide +kernel
theorem dL_law_1574 : decode cL_law 1574 = .ok (.iastore, 1) := by decide +kernel
theorem dL_law_1575 : decode cL_law 1575 = .ok (.iinc 28 1, 3) := by decide +kernel
theorem dL_law_1578 : decode cL_law 1578 = .ok (.goto (-628), 3) := by decide +kernel
theorem dL_law_1581 : decode cL_law 1581 = .ok (.iinc 27 1, 3) := by decide +kernel
theorem dL_law_1584 : decode cL_law 1584 = .ok (.goto (-647), 3) := by decide +kernel
theorem dL_law_1587 : decode cL_law 1587 = .ok (.iconst 0, 1) := by decide +kernel
theorem dL_law_1588 : decode cL_law 1588 = .ok (.istore 27, 2) := by decide +kernel
theorem dL_law_1590 : decode cL_law 1590 = .ok (.iload 27, 2) := by decide +kernel
theorem dL_law_1592 : decode cL_law 1592 = .ok (.iload 17, 2) := by decide +kernel
theorem dL_law_1594 : decode cL_law 1594 = .ok (.if_icmp .ge 38, 3) := by decide +kernel
theorem dL_law_1597 : decode cL_law 1597 = .ok (.aload 7, 2) := by decide +kernel
theorem dL_law_1599 : decode cL_law 1599 = .ok (.iload 27, 2) := by decide +kernel
theorem dL_law_1601 : decode cL_law 1601 = .ok (.iaload, 1) := by decide +kernel
theorem dL_law_1602 : decode cL_law 1602 = .ok (.iconst 1, 1) := by decide +kernel
theorem dL_law_1603 : decode cL_law 1603 = .ok (.if_icmp .ne 23, 3) := by decide +kernel
theorem dL_law_1606 : decode cL_law 1606 = .ok (.aload 6, 2) := by decide +kernel
theorem dL_law_1608 : decode cL_law 1608 = .ok (.iload 27, 2) := by decide +kernel
theorem dL_law_1610 : decode cL_law 1610 = .ok (.iaload, 1) := by decide +kernel
theorem dL_law_1611 : decode cL_law 1611 = .ok (.sipush 1000, 3) := by decide +kernel
theorem dL_law_1614 : decode cL_law 1614 = .ok (.if_icmp .ge 12, 3) := by decide +kernel
theorem dL_law_1617 : decode cL_law 1617 = .ok (.aload 6, 2) := by decide +kernel
theorem dL_law_1619 : decode cL_law 1619 = .ok (.iload 27, 2) := by decide +kernel
theorem dL_law_1621 : decode cL_law 1621 = .ok (.dup2, 1) := by decide +kernel
theorem dL_law_1622 : decode cL_law 1622 = .ok (.iaload, 1) := by decide +kernel
theorem dL_law_1623 : decode cL_law 1623 = .ok (.iconst 1, 1) := by decide +kernel
theorem dL_law_1624 : decode cL_law 1624 = .ok (.iadd, 1) := by decide +kernel
theorem dL_law_1625 : decode cL_law 1625 = .ok (.iastore, 1) := by decide +kernel
theorem dL_law_1626 : decode cL_law 1626 = .ok (.iinc 27 1, 3) := by decide +kernel
theorem dL_law_1629 : decode cL_law 1629 = .ok (.goto (-39), 3) := by decide +kernel
theorem dL_law_1632 : decode cL_law 1632 = .ok (.lconst 0, 1) := by decide +kernel
theorem dL_law_1633 : decode cL_law 1633 = .ok (.lstore 26, 2) := by decide +kernel
theorem dL_law_1635 : decode cL_law 1635 = .ok (.iconst 0, 1) := by decide +kernel
theorem dL_law_1636 : decode cL_law 1636 = .ok (.istore 28, 2) := by decide +kernel
theorem dL_law_1638 : decode cL_law 1638 = .ok (.iconst 0, 1) := by decide +kernel
theorem dL_law_1639 : decode cL_law 1639 = .ok (.istore 29, 2) := by decide +kernel
theorem dL_law_1641 : decode cL_law 1641 = .ok (.iconst 0, 1) := by decide +kernel
theorem dL_law_1642 : decode cL_law 1642 = .ok (.istore 30, 2) := by decide +kernel
theorem dL_law_1644 : decode cL_law 1644 = .ok (.iload 30, 2) := by decide +kernel
theorem dL_law_1646 : decode cL_law 1646 = .ok (.iload 17, 2) := by decide +kernel
theorem dL_law_1648 : decode cL_law 1648 = .ok (.if_icmp .ge 136, 3) := by decide +kernel
theorem dL_law_1651 : decode cL_law 1651 = .ok (.aload_n 1, 1) := by decide +kernel
theorem dL_law_1652 : decode cL_law 1652 = .ok (.iload 30, 2) := by decide +kernel
theorem dL_law_1654 : decode cL_law 1654 = .ok (.iconst 0, 1) := by decide +kernel
theorem dL_law_1655 : decode cL_law 1655 = .ok (.invokevirtual 57, 3) := by decide +kernel
theorem dL_law_1658 : decode cL_law 1658 = .ok (.aload_n 2, 1) := by decide +kernel
theorem dL_law_1659 : decode cL_law 1659 = .ok (.iload 30, 2) := by decide +kernel
theorem dL_law_1661 : decode cL_law 1661 = .ok (.iaload, 1) := by decide +kernel
theorem dL_law_1662 : decode cL_law 1662 = .ok (.if_icmp .ne 77, 3) := by decide +kernel
theorem dL_law_1665 : decode cL_law 1665 = .ok (.aload_n 1, 1) := by decide +kernel
theorem dL_law_1666 : decode cL_law 1666 = .ok (.iload 30, 2) := by decide +kernel
theorem dL_law_1668 : decode cL_law 1668 = .ok (.iconst 1, 1) := by decide +kernel
theorem dL_law_1669 : decode cL_law 1669 = .ok (.invokevirtual 57, 3) := by decide +kernel
theorem dL_law_1672 : decode cL_law 1672 = .ok (.aload_n 3, 1) := by decide +kernel
theorem dL_law_1673 : decode cL_law 1673 = .ok (.iload 30, 2) := by decide +kernel
theorem dL_law_1675 : decode cL_law 1675 = .ok (.iaload, 1) := by decide +kernel
theorem dL_law_1676 : decode cL_law 1676 = .ok (.if_icmp .ne 63, 3) := by decide +kernel
theorem dL_law_1679 : decode cL_law 1679 = .ok (.aload_n 1, 1) := by decide +kernel
theorem dL_law_1680 : decode cL_law 1680 = .ok (.iload 30, 2) := by decide +kernel
theorem dL_law_1682 : decode cL_law 1682 = .ok (.iconst 2, 1) := by decide +kernel
theorem dL_law_1683 : decode cL_law 1683 = .ok (.invokevirtual 57, 3) := by decide +kernel
theorem dL_law_1686 : decode cL_law 1686 = .ok (.aload 4, 2) := by decide +kernel
theorem dL_law_1688 : decode cL_law 1688 = .ok (.iload 30, 2) := by decide +kernel
theorem dL_law_1690 : decode cL_law 1690 = .ok (.iaload, 1) := by decide +kernel
theorem dL_law_1691 : decode cL_law 1691 = .ok (.if_icmp .ne 48, 3) := by decide +kernel
theorem dL_law_1694 : decode cL_law 1694 = .ok (.aload_n 1, 1) := by decide +kernel
theorem dL_law_1695 : decode cL_law 1695 = .ok (.iload 30, 2) := by decide +kernel
theorem dL_law_1697 : decode cL_law 1697 = .ok (.iconst 3, 1) := by decide +kernel
theorem dL_law_1698 : decode cL_law 1698 = .ok (.invokevirtual 57, 3) := by decide +kernel
theorem dL_law_1701 : decode cL_law 1701 = .ok (.aload 5, 2) := by decide +kernel
theorem dL_law_1703 : decode cL_law 1703 = .ok (.iload 30, 2) := by decide +kernel
theorem dL_law_1705 : decode cL_law 1705 = .ok (.iaload, 1) := by decide +kernel
theorem dL_law_1706 : decode cL_law 1706 = .ok (.if_icmp .ne 33, 3) := by decide +kernel
theorem dL_law_1709 : decode cL_law 1709 = .ok (.aload_n 1, 1) := by decide +kernel
theorem dL_law_1710 : decode cL_law 1710 = .ok (.iload 30, 2) := by decide +kernel
theorem dL_law_1712 : decode cL_law 1712 = .ok (.iconst 4, 1) := by decide +kernel
theorem dL_law_1713 : decode cL_law 1713 = .ok (.invokevirtual 57, 3) := by decide +kernel
theorem dL_law_1716 : decode cL_law 1716 = .ok (.aload 6, 2) := by decide +kernel
theorem dL_law_1718 : decode cL_law 1718 = .ok (.iload 30, 2) := by decide +kernel
theorem dL_law_1720 : decode cL_law 1720 = .ok (.iaload, 1) := by decide +kernel
theorem dL_law_1721 : decode cL_law 1721 = .ok (.if_icmp .ne 18, 3) := by decide +kernel
theorem dL_law_1724 : decode cL_law 1724 = .ok (.aload_n 1, 1) := by decide +kernel
theorem dL_law_1725 : decode cL_law 1725 = .ok (.iload 30, 2) := by decide +kernel
theorem dL_law_1727 : decode cL_law 1727 = .ok (.iconst 5, 1) := by decide +kernel
theorem dL_law_1728 : decode cL_law 1728 = .ok (.invokevirtual 57, 3) := by decide +kernel
theorem dL_law_1731 : decode cL_law 1731 = .ok (.aload 7, 2) := by decide +kernel
theorem dL_law_1733 : decode cL_law 1733 = .ok (.iload 30, 2) := by decide +kernel
theorem dL_law_1735 : decode cL_law 1735 = .ok (.iaload, 1) := by decide +kernel
theorem dL_law_1736 : decode cL_law 1736 = .ok (.if_icmp .eq 5, 3) := by decide +kernel
theorem dL_law_1739 : decode cL_law 1739 = .ok (.iconst 0, 1) := by decide +kernel
theorem dL_law_1740 : decode cL_law 1740 = .ok (.ireturn, 1) := by decide +kernel
theorem dL_law_1741 : decode cL_law 1741 = .ok (.aload 7, 2) := by decide +kernel
theorem dL_law_1743 : decode cL_law 1743 = .ok (.iload 30, 2) := by decide +kernel
theorem dL_law_1745 : decode cL_law 1745 = .ok (.iaload, 1) := by decide +kernel
theorem dL_law_1746 : decode cL_law 1746 = .ok (.ifCond .ne 6, 3) := by decide +kernel
theorem dL_law_1749 : decode cL_law 1749 = .ok (.goto 29, 3) := by decide +kernel
theorem dL_law_1752 : decode cL_law 1752 = .ok (.lload 26, 2) := by decide +kernel
theorem dL_law_1754 : decode cL_law 1754 = .ok (.aload_n 2, 1) := by decide +kernel
theorem dL_law_1755 : decode cL_law 1755 = .ok (.aload 4, 2) := by decide +kernel
theorem dL_law_1757 : decode cL_law 1757 = .ok (.iload 30, 2) := by decide +kernel
theorem dL_law_1759 : decode cL_law 1759 = .ok (.invokestatic 32, 3) := by decide +kernel
theorem dL_law_1762 : decode cL_law 1762 = .ok (.ladd, 1) := by decide +kernel
theorem dL_law_1763 : decode cL_law 1763 = .ok (.lstore 26, 2) := by decide +kernel
theorem dL_law_1765 : decode cL_law 1765 = .ok (.iload 28, 2) := by decide +kernel
theorem dL_law_1767 : decode cL_law 1767 = .ok (.aload 4, 2) := by decide +kernel
theorem dL_law_1769 : decode cL_law 1769 = .ok (.iload 30, 2) := by decide +kernel
theorem dL_law_1771 : decode cL_law 1771 = .ok (.iaload, 1) := by decide +kernel
theorem dL_law_1772 : decode cL_law 1772 = .ok (.iadd, 1) := by decide +kernel
theorem dL_law_1773 : decode cL_law 1773 = .ok (.istore 28, 2) := by decide +kernel
theorem dL_law_1775 : decode cL_law 1775 = .ok (.iinc 29 1, 3) := by decide +kernel
theorem dL_law_1778 : decode cL_law 1778 = .ok (.iinc 30 1, 3) := by decide +kernel
theorem dL_law_1781 : decode cL_law 1781 = .ok (.goto (-137), 3) := by decide +kernel
theorem dL_law_1784 : decode cL_law 1784 = .ok (.iconst 0, 1) := by decide +kernel
theorem dL_law_1785 : decode cL_law 1785 = .ok (.istore 30, 2) := by decide +kernel
theorem dL_law_1787 : decode cL_law 1787 = .ok (.iload 30, 2) := by decide +kernel
theorem dL_law_1789 : decode cL_law 1789 = .ok (.iload 18, 2) := by decide +kernel
theorem dL_law_1791 : decode cL_law 1791 = .ok (.if_icmp .ge 29, 3) := by decide +kernel
theorem dL_law_1794 : decode cL_law 1794 = .ok (.aload_n 1, 1) := by decide +kernel
theorem dL_law_1795 : decode cL_law 1795 = .ok (.iload 30, 2) := by decide +kernel
theorem dL_law_1797 : decode cL_law 1797 = .ok (.invokevirtual 60, 3) := by decide +kernel
theorem dL_law_1800 : decode cL_law 1800 = .ok (.aload 10, 2) := by decide +kernel
theorem dL_law_1802 : decode cL_law 1802 = .ok (.iconst 3, 1) := by decide +kernel
theorem dL_law_1803 : decode cL_law 1803 = .ok (.iload 30, 2) := by decide +kernel
theorem dL_law_1805 : decode cL_law 1805 = .ok (.imul, 1) := by decide +kernel
theorem dL_law_1806 : decode cL_law 1806 = .ok (.iconst 1, 1) := by decide +kernel
theorem dL_law_1807 : decode cL_law 1807 = .ok (.iadd, 1) := by decide +kernel
theorem dL_law_1808 : decode cL_law 1808 = .ok (.iaload, 1) := by decide +kernel
theorem dL_law_1809 : decode cL_law 1809 = .ok (.if_icmp .eq 5, 3) := by decide +kernel
theorem dL_law_1812 : decode cL_law 1812 = .ok (.iconst 0, 1) := by decide +kernel
theorem dL_law_1813 : decode cL_law 1813 = .ok (.ireturn, 1) := by decide +kernel
theorem dL_law_1814 : decode cL_law 1814 = .ok (.iinc 30 1, 3) := by decide +kernel
theorem dL_law_1817 : decode cL_law 1817 = .ok (.goto (-30), 3) := by decide +kernel
theorem dL_law_1820 : decode cL_law 1820 = .ok (.aload_n 1, 1) := by decide +kernel
theorem dL_law_1821 : decode cL_law 1821 = .ok (.iconst 0, 1) := by decide +kernel
theorem dL_law_1822 : decode cL_law 1822 = .ok (.invokevirtual 63, 3) := by decide +kernel
theorem dL_law_1825 : decode cL_law 1825 = .ok (.iload 17, 2) := by decide +kernel
theorem dL_law_1827 : decode cL_law 1827 = .ok (.if_icmp .ne 109, 3) := by decide +kernel
theorem dL_law_1830 : decode cL_law 1830 = .ok (.aload_n 1, 1) := by decide +kernel
theorem dL_law_1831 : decode cL_law 1831 = .ok (.iconst 1, 1) := by decide +kernel
theorem dL_law_1832 : decode cL_law 1832 = .ok (.invokevirtual 63, 3) := by decide +kernel
theorem dL_law_1835 : decode cL_law 1835 = .ok (.iload 29, 2) := by decide +kernel
theorem dL_law_1837 : decode cL_law 1837 = .ok (.if_icmp .ne 99, 3) := by decide +kernel
theorem dL_law_1840 : decode cL_law 1840 = .ok (.aload_n 1, 1) := by decide +kernel
theorem dL_law_1841 : decode cL_law 1841 = .ok (.iconst 2, 1) := by decide +kernel
theorem dL_law_1842 : decode cL_law 1842 = .ok (.invokevirtual 63, 3) := by decide +kernel
theorem dL_law_1845 : decode cL_law 1845 = .ok (.aload 9, 2) := by decide +kernel
theorem dL_law_1847 : decode cL_law 1847 = .ok (.iconst 1, 1) := by decide +kernel
theorem dL_law_1848 : decode cL_law 1848 = .ok (.iaload, 1) := by decide +kernel
theorem dL_law_1849 : decode cL_law 1849 = .ok (.if_icmp .ne 87, 3) := by decide +kernel
theorem dL_law_1852 : decode cL_law 1852 = .ok (.aload_n 1, 1) := by decide +kernel
theorem dL_law_1853 : decode cL_law 1853 = .ok (.iconst 3, 1) := by decide +kernel
theorem dL_law_1854 : decode cL_law 1854 = .ok (.invokevirtual 63, 3) := by decide +kernel
theorem dL_law_1857 : decode cL_law 1857 = .ok (.aload 9, 2) := by decide +kernel
theorem dL_law_1859 : decode cL_law 1859 = .ok (.iconst 2, 1) := by decide +kernel
theorem dL_law_1860 : decode cL_law 1860 = .ok (.iaload, 1) := by decide +kernel
theorem dL_law_1861 : decode cL_law 1861 = .ok (.if_icmp .ne 75, 3) := by decide +kernel
theorem dL_law_1864 : decode cL_law 1864 = .ok (.aload_n 1, 1) := by decide +kernel
theorem dL_law_1865 : decode cL_law 1865 = .ok (.iconst 4, 1) := by decide +kernel
theorem dL_law_1866 : decode cL_law 1866 = .ok (.invokevirtual 63, 3) := by decide +kernel
theorem dL_law_1869 : decode cL_law 1869 = .ok (.aload 9, 2) := by decide +kernel
theorem dL_law_1871 : decode cL_law 1871 = .ok (.iconst 3, 1) := by decide +kernel
theorem dL_law_1872 : decode cL_law 1872 = .ok (.iaload, 1) := by decide +kernel
theorem dL_law_1873 : decode cL_law 1873 = .ok (.if_icmp .ne 63, 3) := by decide +kernel
theorem dL_law_1876 : decode cL_law 1876 = .ok (.aload_n 1, 1) := by decide +kernel
theorem dL_law_1877 : decode cL_law 1877 = .ok (.iconst 5, 1) := by decide +kernel
theorem dL_law_1878 : decode cL_law 1878 = .ok (.invokevirtual 63, 3) := by decide +kernel
theorem dL_law_1881 : decode cL_law 1881 = .ok (.aload 9, 2) := by decide +kernel
theorem dL_law_1883 : decode cL_law 1883 = .ok (.iconst 4, 1) := by decide +kernel
theorem dL_law_1884 : decode cL_law 1884 = .ok (.iaload, 1) := by decide +kernel
theorem dL_law_1885 : decode cL_law 1885 = .ok (.if_icmp .ne 51, 3) := by decide +kernel
theorem dL_law_1888 : decode cL_law 1888 = .ok (.aload_n 1, 1) := by decide +kernel
theorem dL_law_1889 : decode cL_law 1889 = .ok (.bipush 6, 2) := by decide +kernel
theorem dL_law_1891 : decode cL_law 1891 = .ok (.invokevirtual 63, 3) := by decide +kernel
theorem dL_law_1894 : decode cL_law 1894 = .ok (.aload 9, 2) := by decide +kernel
theorem dL_law_1896 : decode cL_law 1896 = .ok (.iconst 5, 1) := by decide +kernel
theorem dL_law_1897 : decode cL_law 1897 = .ok (.iaload, 1) := by decide +kernel
theorem dL_law_1898 : decode cL_law 1898 = .ok (.if_icmp .ne 38, 3) := by decide +kernel
theorem dL_law_1901 : decode cL_law 1901 = .ok (.aload_n 1, 1) := by decide +kernel
theorem dL_law_1902 : decode cL_law 1902 = .ok (.iconst 0, 1) := by decide +kernel
theorem dL_law_1903 : decode cL_law 1903 = .ok (.invokevirtual 66, 3) := by decide +kernel
theorem dL_law_1906 : decode cL_law 1906 = .ok (.iload 28, 2) := by decide +kernel
theorem dL_law_1908 : decode cL_law 1908 = .ok (.if_icmp .ne 28, 3) := by decide +kernel
theorem dL_law_1911 : decode cL_law 1911 = .ok (.aload_n 1, 1) := by decide +kernel
theorem dL_law_1912 : decode cL_law 1912 = .ok (.iconst 0, 1) := by decide +kernel
theorem dL_law_1913 : decode cL_law 1913 = .ok (.invokevirtual 66, 3) := by decide +kernel
theorem dL_law_1916 : decode cL_law 1916 = .ok (.aload_n 1, 1) := by decide +kernel
theorem dL_law_1917 : decode cL_law 1917 = .ok (.iconst 1, 1) := by decide +kernel
theorem dL_law_1918 : decode cL_law 1918 = .ok (.invokevirtual 66, 3) := by decide +kernel
theorem dL_law_1921 : decode cL_law 1921 = .ok (.iadd, 1) := by decide +kernel
theorem dL_law_1922 : decode cL_law 1922 = .ok (.aload_n 1, 1) := by decide +kernel
theorem dL_law_1923 : decode cL_law 1923 = .ok (.iconst 2, 1) := by decide +kernel
theorem dL_law_1924 : decode cL_law 1924 = .ok (.invokevirtual 66, 3) := by decide +kernel
theorem dL_law_1927 : decode cL_law 1927 = .ok (.iadd, 1) := by decide +kernel
theorem dL_law_1928 : decode cL_law 1928 = .ok (.aload_n 1, 1) := by decide +kernel
theorem dL_law_1929 : decode cL_law 1929 = .ok (.iconst 3, 1) := by decide +kernel
theorem dL_law_1930 : decode cL_law 1930 = .ok (.invokevirtual 66, 3) := by decide +kernel
theorem dL_law_1933 : decode cL_law 1933 = .ok (.if_icmp .eq 5, 3) := by decide +kernel
theorem dL_law_1936 : decode cL_law 1936 = .ok (.iconst 0, 1) := by decide +kernel
theorem dL_law_1937 : decode cL_law 1937 = .ok (.ireturn, 1) := by decide +kernel
theorem dL_law_1938 : decode cL_law 1938 = .ok (.aload_n 1, 1) := by decide +kernel
theorem dL_law_1939 : decode cL_law 1939 = .ok (.iconst 0, 1) := by decide +kernel
theorem dL_law_1940 : decode cL_law 1940 = .ok (.invokevirtual 69, 3) := by decide +kernel
theorem dL_law_1943 : decode cL_law 1943 = .ok (.lload 26, 2) := by decide +kernel
theorem dL_law_1945 : decode cL_law 1945 = .ok (.lcmp, 1) := by decide +kernel
theorem dL_law_1946 : decode cL_law 1946 = .ok (.ifCond .ne 72, 3) := by decide +kernel
theorem dL_law_1949 : decode cL_law 1949 = .ok (.aload_n 1, 1) := by decide +kernel
theorem dL_law_1950 : decode cL_law 1950 = .ok (.invokevirtual 73, 3) := by decide +kernel
theorem dL_law_1953 : decode cL_law 1953 = .ok (.lload 26, 2) := by decide +kernel
theorem dL_law_1955 : decode cL_law 1955 = .ok (.lcmp, 1) := by decide +kernel
theorem dL_law_1956 : decode cL_law 1956 = .ok (.ifCond .ne 62, 3) := by decide +kernel
theorem dL_law_1959 : decode cL_law 1959 = .ok (.aload_n 1, 1) := by decide +kernel
theorem dL_law_1960 : decode cL_law 1960 = .ok (.iconst 3, 1) := by decide +kernel
theorem dL_law_1961 : decode cL_law 1961 = .ok (.invokevirtual 69, 3) := by decide +kernel
theorem dL_law_1964 : decode cL_law 1964 = .ok (.lload 15, 2) := by decide +kernel
theorem dL_law_1966 : decode cL_law 1966 = .ok (.lcmp, 1) := by decide +kernel
theorem dL_law_1967 : decode cL_law 1967 = .ok (.ifCond .ne 51, 3) := by decide +kernel
theorem dL_law_1970 : decode cL_law 1970 = .ok (.aload_n 1, 1) := by decide +kernel
theorem dL_law_1971 : decode cL_law 1971 = .ok (.iconst 4, 1) := by decide +kernel
theorem dL_law_1972 : decode cL_law 1972 = .ok (.invokevirtual 69, 3) := by decide +kernel
theorem dL_law_1975 : decode cL_law 1975 = .ok (.lload 11, 2) := by decide +kernel
theorem dL_law_1977 : decode cL_law 1977 = .ok (.lcmp, 1) := by decide +kernel
theorem dL_law_1978 : decode cL_law 1978 = .ok (.ifCond .ne 40, 3) := by decide +kernel
theorem dL_law_1981 : decode cL_law 1981 = .ok (.aload_n 1, 1) := by decide +kernel
theorem dL_law_1982 : decode cL_law 1982 = .ok (.iconst 5, 1) := by decide +kernel
theorem dL_law_1983 : decode cL_law 1983 = .ok (.invokevirtual 69, 3) := by decide +kernel
theorem dL_law_1986 : decode cL_law 1986 = .ok (.lload 13, 2) := by decide +kernel
theorem dL_law_1988 : decode cL_law 1988 = .ok (.lcmp, 1) := by decide +kernel
theorem dL_law_1989 : decode cL_law 1989 = .ok (.ifCond .ne 29, 3) := by decide +kernel
theorem dL_law_1992 : decode cL_law 1992 = .ok (.lload 15, 2) := by decide +kernel
theorem dL_law_1994 : decode cL_law 1994 = .ok (.lload 11, 2) := by decide +kernel
theorem dL_law_1996 : decode cL_law 1996 = .ok (.ladd, 1) := by decide +kernel
theorem dL_law_1997 : decode cL_law 1997 = .ok (.lload 13, 2) := by decide +kernel
theorem dL_law_1999 : decode cL_law 1999 = .ok (.lsub, 1) := by decide +kernel
theorem dL_law_2000 : decode cL_law 2000 = .ok (.lload 26, 2) := by decide +kernel
theorem dL_law_2002 : decode cL_law 2002 = .ok (.aload_n 1, 1) := by decide +kernel
theorem dL_law_2003 : decode cL_law 2003 = .ok (.iconst 1, 1) := by decide +kernel
theorem dL_law_2004 : decode cL_law 2004 = .ok (.invokevirtual 69, 3) := by decide +kernel
theorem dL_law_2007 : decode cL_law 2007 = .ok (.ladd, 1) := by decide +kernel
theorem dL_law_2008 : decode cL_law 2008 = .ok (.aload_n 1, 1) := by decide +kernel
theorem dL_law_2009 : decode cL_law 2009 = .ok (.iconst 2, 1) := by decide +kernel
theorem dL_law_2010 : decode cL_law 2010 = .ok (.invokevirtual 69, 3) := by decide +kernel
theorem dL_law_2013 : decode cL_law 2013 = .ok (.ladd, 1) := by decide +kernel
theorem dL_law_2014 : decode cL_law 2014 = .ok (.lcmp, 1) := by decide +kernel
theorem dL_law_2015 : decode cL_law 2015 = .ok (.ifCond .eq 5, 3) := by decide +kernel
theorem dL_law_2018 : decode cL_law 2018 = .ok (.iconst 0, 1) := by decide +kernel
theorem dL_law_2019 : decode cL_law 2019 = .ok (.ireturn, 1) := by decide +kernel
theorem dL_law_2020 : decode cL_law 2020 = .ok (.iload 24, 2) := by decide +kernel
theorem dL_law_2022 : decode cL_law 2022 = .ok (.bipush 7, 2) := by decide +kernel
theorem dL_law_2024 : decode cL_law 2024 = .ok (.ishr, 1) := by decide +kernel
theorem dL_law_2025 : decode cL_law 2025 = .ok (.bipush 64, 2) := by decide +kernel
theorem dL_law_2027 : decode cL_law 2027 = .ok (.invokestatic 20, 3) := by decide +kernel
theorem dL_law_2030 : decode cL_law 2030 = .ok (.istore 30, 2) := by decide +kernel
theorem dL_law_2032 : decode cL_law 2032 = .ok (.iconst 0, 1) := by decide +kernel
theorem dL_law_2033 : decode cL_law 2033 = .ok (.istore 31, 2) := by decide +kernel
theorem dL_law_2035 : decode cL_law 2035 = .ok (.iconst 0, 1) := by decide +kernel
theorem dL_law_2036 : decode cL_law 2036 = .ok (.istore 32, 2) := by decide +kernel
theorem dL_law_2038 : decode cL_law 2038 = .ok (.iload 32, 2) := by decide +kernel
theorem dL_law_2040 : decode cL_law 2040 = .ok (.iload 17, 2) := by decide +kernel
theorem dL_law_2042 : decode cL_law 2042 = .ok (.if_icmp .ge 37, 3) := by decide +kernel
theorem dL_law_2045 : decode cL_law 2045 = .ok (.aload 7, 2) := by decide +kernel
theorem dL_law_2047 : decode cL_law 2047 = .ok (.iload 32, 2) := by decide +kernel
theorem dL_law_2049 : decode cL_law 2049 = .ok (.iaload, 1) := by decide +kernel
theorem dL_law_2050 : decode cL_law 2050 = .ok (.iconst 1, 1) := by decide +kernel
theorem dL_law_2051 : decode cL_law 2051 = .ok (.if_icmp .ne 22, 3) := by decide +kernel
theorem dL_law_2054 : decode cL_law 2054 = .ok (.aload_n 2, 1) := by decide +kernel
theorem dL_law_2055 : decode cL_law 2055 = .ok (.iload 32, 2) := by decide +kernel
theorem dL_law_2057 : decode cL_law 2057 = .ok (.iaload, 1) := by decide +kernel
theorem dL_law_2058 : decode cL_law 2058 = .ok (.iload 30, 2) := by decide +kernel
theorem dL_law_2060 : decode cL_law 2060 = .ok (.if_icmp .ne 13, 3) := by decide +kernel
theorem dL_law_2063 : decode cL_law 2063 = .ok (.iload 31, 2) := by decide +kernel
theorem dL_law_2065 : decode cL_law 2065 = .ok (.aload 4, 2) := by decide +kernel
theorem dL_law_2067 : decode cL_law 2067 = .ok (.iload 32, 2) := by decide +kernel
theorem dL_law_2069 : decode cL_law 2069 = .ok (.iaload, 1) := by decide +kernel
theorem dL_law_2070 : decode cL_law 2070 = .ok (.iadd, 1) := by decide +kernel
theorem dL_law_2071 : decode cL_law 2071 = .ok (.istore 31, 2) := by decide +kernel
theorem dL_law_2073 : decode cL_law 2073 = .ok (.iinc 32 1, 3) := by decide +kernel
theorem dL_law_2076 : decode cL_law 2076 = .ok (.goto (-38), 3) := by decide +kernel
theorem dL_law_2079 : decode cL_law 2079 = .ok (.aload_n 1, 1) := by decide +kernel
theorem dL_law_2080 : decode cL_law 2080 = .ok (.iload 30, 2) := by decide +kernel
theorem dL_law_2082 : decode cL_law 2082 = .ok (.invokevirtual 77, 3) := by decide +kernel
theorem dL_law_2085 : decode cL_law 2085 = .ok (.iload 31, 2) := by decide +kernel
theorem dL_law_2087 : decode cL_law 2087 = .ok (.if_icmp .ne 19, 3) := by decide +kernel
theorem dL_law_2090 : decode cL_law 2090 = .ok (.aload_n 1, 1) := by decide +kernel
theorem dL_law_2091 : decode cL_law 2091 = .ok (.iload 30, 2) := by decide +kernel
theorem dL_law_2093 : decode cL_law 2093 = .ok (.invokevirtual 80, 3) := by decide +kernel
theorem dL_law_2096 : decode cL_law 2096 = .ok (.aload 9, 2) := by decide +kernel
theorem dL_law_2098 : decode cL_law 2098 = .ok (.iload 30, 2) := by decide +kernel
theorem dL_law_2100 : decode cL_law 2100 = .ok (.invokestatic 47, 3) := by decide +kernel
theorem dL_law_2103 : decode cL_law 2103 = .ok (.if_icmp .eq 5, 3) := by decide +kernel
theorem dL_law_2106 : decode cL_law 2106 = .ok (.iconst 0, 1) := by decide +kernel
theorem dL_law_2107 : decode cL_law 2107 = .ok (.ireturn, 1) := by decide +kernel
theorem dL_law_2108 : decode cL_law 2108 = .ok (.iinc 22 1, 3) := by decide +kernel
theorem dL_law_2111 : decode cL_law 2111 = .ok (.goto (-1830), 3) := by decide +kernel
theorem dL_law_2114 : decode cL_law 2114 = .ok (.iconst 1, 1) := by decide +kernel
theorem dL_law_2115 : decode cL_law 2115 = .ok (.ireturn, 1) := by decide +kernel
