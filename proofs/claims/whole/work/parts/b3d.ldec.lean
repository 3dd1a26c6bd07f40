/-! the law's instructions, part 3 -/
theorem d_L_law_1321 : decode y_L_law.2.1 1321 = .ok (.iload 4, 2) := by decide +kernel
theorem d_L_law_1323 : decode y_L_law.2.1 1323 = .ok (.iconst 3, 1) := by decide +kernel
theorem d_L_law_1324 : decode y_L_law.2.1 1324 = .ok (.iadd, 1) := by decide +kernel
theorem d_L_law_1325 : decode y_L_law.2.1 1325 = .ok (.iaload, 1) := by decide +kernel
theorem d_L_law_1326 : decode y_L_law.2.1 1326 = .ok (.aload_n 0, 1) := by decide +kernel
theorem d_L_law_1327 : decode y_L_law.2.1 1327 = .ok (.iload 4, 2) := by decide +kernel
theorem d_L_law_1329 : decode y_L_law.2.1 1329 = .ok (.iconst 4, 1) := by decide +kernel
theorem d_L_law_1330 : decode y_L_law.2.1 1330 = .ok (.iadd, 1) := by decide +kernel
theorem d_L_law_1331 : decode y_L_law.2.1 1331 = .ok (.iaload, 1) := by decide +kernel
theorem d_L_law_1332 : decode y_L_law.2.1 1332 = .ok (.aload_n 0, 1) := by decide +kernel
theorem d_L_law_1333 : decode y_L_law.2.1 1333 = .ok (.iload 4, 2) := by decide +kernel
theorem d_L_law_1335 : decode y_L_law.2.1 1335 = .ok (.iconst 5, 1) := by decide +kernel
theorem d_L_law_1336 : decode y_L_law.2.1 1336 = .ok (.iadd, 1) := by decide +kernel
theorem d_L_law_1337 : decode y_L_law.2.1 1337 = .ok (.iaload, 1) := by decide +kernel
theorem d_L_law_1338 : decode y_L_law.2.1 1338 = .ok (.aload_n 0, 1) := by decide +kernel
theorem d_L_law_1339 : decode y_L_law.2.1 1339 = .ok (.iload 4, 2) := by decide +kernel
theorem d_L_law_1341 : decode y_L_law.2.1 1341 = .ok (.bipush 6, 2) := by decide +kernel
theorem d_L_law_1343 : decode y_L_law.2.1 1343 = .ok (.iadd, 1) := by decide +kernel
theorem d_L_law_1344 : decode y_L_law.2.1 1344 = .ok (.iaload, 1) := by decide +kernel
theorem d_L_law_1345 : decode y_L_law.2.1 1345 = .ok (.aload_n 0, 1) := by decide +kernel
theorem d_L_law_1346 : decode y_L_law.2.1 1346 = .ok (.iload 4, 2) := by decide +kernel
theorem d_L_law_1348 : decode y_L_law.2.1 1348 = .ok (.bipush 7, 2) := by decide +kernel
theorem d_L_law_1350 : decode y_L_law.2.1 1350 = .ok (.iadd, 1) := by decide +kernel
theorem d_L_law_1351 : decode y_L_law.2.1 1351 = .ok (.iaload, 1) := by decide +kernel
theorem d_L_law_1352 : decode y_L_law.2.1 1352 = .ok (.ifCond .eq 7, 3) := by decide +kernel
theorem d_L_law_1355 : decode y_L_law.2.1 1355 = .ok (.iconst 1, 1) := by decide +kernel
theorem d_L_law_1356 : decode y_L_law.2.1 1356 = .ok (.goto 4, 3) := by decide +kernel
theorem d_L_law_1359 : decode y_L_law.2.1 1359 = .ok (.iconst 0, 1) := by decide +kernel
theorem d_L_law_1360 : decode y_L_law.2.1 1360 = .ok (.aload_n 3, 1) := by decide +kernel
theorem d_L_law_1361 : decode y_L_law.2.1 1361 = .ok (.invokestatic 203, 3) := by decide +kernel
theorem d_L_law_1364 : decode y_L_law.2.1 1364 = .ok (.istore 5, 2) := by decide +kernel
theorem d_L_law_1366 : decode y_L_law.2.1 1366 = .ok (.aload_n 2, 1) := by decide +kernel
theorem d_L_law_1367 : decode y_L_law.2.1 1367 = .ok (.aload_n 0, 1) := by decide +kernel
theorem d_L_law_1368 : decode y_L_law.2.1 1368 = .ok (.iload 4, 2) := by decide +kernel
theorem d_L_law_1370 : decode y_L_law.2.1 1370 = .ok (.iconst 1, 1) := by decide +kernel
theorem d_L_law_1371 : decode y_L_law.2.1 1371 = .ok (.iadd, 1) := by decide +kernel
theorem d_L_law_1372 : decode y_L_law.2.1 1372 = .ok (.iaload, 1) := by decide +kernel
theorem d_L_law_1373 : decode y_L_law.2.1 1373 = .ok (.aload_n 0, 1) := by decide +kernel
theorem d_L_law_1374 : decode y_L_law.2.1 1374 = .ok (.iload 4, 2) := by decide +kernel
theorem d_L_law_1376 : decode y_L_law.2.1 1376 = .ok (.iconst 2, 1) := by decide +kernel
theorem d_L_law_1377 : decode y_L_law.2.1 1377 = .ok (.iadd, 1) := by decide +kernel
theorem d_L_law_1378 : decode y_L_law.2.1 1378 = .ok (.iaload, 1) := by decide +kernel
theorem d_L_law_1379 : decode y_L_law.2.1 1379 = .ok (.aload_n 0, 1) := by decide +kernel
theorem d_L_law_1380 : decode y_L_law.2.1 1380 = .ok (.iload 4, 2) := by decide +kernel
theorem d_L_law_1382 : decode y_L_law.2.1 1382 = .ok (.iconst 3, 1) := by decide +kernel
theorem d_L_law_1383 : decode y_L_law.2.1 1383 = .ok (.iadd, 1) := by decide +kernel
theorem d_L_law_1384 : decode y_L_law.2.1 1384 = .ok (.iaload, 1) := by decide +kernel
theorem d_L_law_1385 : decode y_L_law.2.1 1385 = .ok (.aload_n 0, 1) := by decide +kernel
theorem d_L_law_1386 : decode y_L_law.2.1 1386 = .ok (.iload 4, 2) := by decide +kernel
theorem d_L_law_1388 : decode y_L_law.2.1 1388 = .ok (.iconst 4, 1) := by decide +kernel
theorem d_L_law_1389 : decode y_L_law.2.1 1389 = .ok (.iadd, 1) := by decide +kernel
theorem d_L_law_1390 : decode y_L_law.2.1 1390 = .ok (.iaload, 1) := by decide +kernel
theorem d_L_law_1391 : decode y_L_law.2.1 1391 = .ok (.aload_n 0, 1) := by decide +kernel
theorem d_L_law_1392 : decode y_L_law.2.1 1392 = .ok (.iload 4, 2) := by decide +kernel
theorem d_L_law_1394 : decode y_L_law.2.1 1394 = .ok (.iconst 5, 1) := by decide +kernel
theorem d_L_law_1395 : decode y_L_law.2.1 1395 = .ok (.iadd, 1) := by decide +kernel
theorem d_L_law_1396 : decode y_L_law.2.1 1396 = .ok (.iaload, 1) := by decide +kernel
theorem d_L_law_1397 : decode y_L_law.2.1 1397 = .ok (.aload_n 0, 1) := by decide +kernel
theorem d_L_law_1398 : decode y_L_law.2.1 1398 = .ok (.iload 4, 2) := by decide +kernel
theorem d_L_law_1400 : decode y_L_law.2.1 1400 = .ok (.bipush 6, 2) := by decide +kernel
theorem d_L_law_1402 : decode y_L_law.2.1 1402 = .ok (.iadd, 1) := by decide +kernel
theorem d_L_law_1403 : decode y_L_law.2.1 1403 = .ok (.iaload, 1) := by decide +kernel
theorem d_L_law_1404 : decode y_L_law.2.1 1404 = .ok (.aload_n 0, 1) := by decide +kernel
theorem d_L_law_1405 : decode y_L_law.2.1 1405 = .ok (.iload 4, 2) := by decide +kernel
theorem d_L_law_1407 : decode y_L_law.2.1 1407 = .ok (.bipush 7, 2) := by decide +kernel
theorem d_L_law_1409 : decode y_L_law.2.1 1409 = .ok (.iadd, 1) := by decide +kernel
theorem d_L_law_1410 : decode y_L_law.2.1 1410 = .ok (.iaload, 1) := by decide +kernel
theorem d_L_law_1411 : decode y_L_law.2.1 1411 = .ok (.ifCond .eq 7, 3) := by decide +kernel
theorem d_L_law_1414 : decode y_L_law.2.1 1414 = .ok (.iconst 1, 1) := by decide +kernel
theorem d_L_law_1415 : decode y_L_law.2.1 1415 = .ok (.goto 4, 3) := by decide +kernel
theorem d_L_law_1418 : decode y_L_law.2.1 1418 = .ok (.iconst 0, 1) := by decide +kernel
theorem d_L_law_1419 : decode y_L_law.2.1 1419 = .ok (.invokevirtual 206, 3) := by decide +kernel
theorem d_L_law_1422 : decode y_L_law.2.1 1422 = .ok (.lstore 6, 2) := by decide +kernel
theorem d_L_law_1424 : decode y_L_law.2.1 1424 = .ok (.aload_n 2, 1) := by decide +kernel
theorem d_L_law_1425 : decode y_L_law.2.1 1425 = .ok (.invokevirtual 156, 3) := by decide +kernel
theorem d_L_law_1428 : decode y_L_law.2.1 1428 = .ok (.iload 5, 2) := by decide +kernel
theorem d_L_law_1430 : decode y_L_law.2.1 1430 = .ok (.if_icmp .eq 5, 3) := by decide +kernel
theorem d_L_law_1433 : decode y_L_law.2.1 1433 = .ok (.iconst 0, 1) := by decide +kernel
theorem d_L_law_1434 : decode y_L_law.2.1 1434 = .ok (.ireturn, 1) := by decide +kernel
theorem d_L_law_1435 : decode y_L_law.2.1 1435 = .ok (.iload 5, 2) := by decide +kernel
theorem d_L_law_1437 : decode y_L_law.2.1 1437 = .ok (.ifCond .ne 14, 3) := by decide +kernel
theorem d_L_law_1440 : decode y_L_law.2.1 1440 = .ok (.aload_n 3, 1) := by decide +kernel
theorem d_L_law_1441 : decode y_L_law.2.1 1441 = .ok (.iconst 0, 1) := by decide +kernel
theorem d_L_law_1442 : decode y_L_law.2.1 1442 = .ok (.laload, 1) := by decide +kernel
theorem d_L_law_1443 : decode y_L_law.2.1 1443 = .ok (.lload 6, 2) := by decide +kernel
theorem d_L_law_1445 : decode y_L_law.2.1 1445 = .ok (.lcmp, 1) := by decide +kernel
theorem d_L_law_1446 : decode y_L_law.2.1 1446 = .ok (.ifCond .eq 5, 3) := by decide +kernel
theorem d_L_law_1449 : decode y_L_law.2.1 1449 = .ok (.iconst 0, 1) := by decide +kernel
theorem d_L_law_1450 : decode y_L_law.2.1 1450 = .ok (.ireturn, 1) := by decide +kernel
theorem d_L_law_1451 : decode y_L_law.2.1 1451 = .ok (.goto 2418, 3) := by decide +kernel
theorem d_L_law_1454 : decode y_L_law.2.1 1454 = .ok (.aload_n 1, 1) := by decide +kernel
theorem d_L_law_1455 : decode y_L_law.2.1 1455 = .ok (.aload_n 0, 1) := by decide +kernel
theorem d_L_law_1456 : decode y_L_law.2.1 1456 = .ok (.iload 4, 2) := by decide +kernel
theorem d_L_law_1458 : decode y_L_law.2.1 1458 = .ok (.iconst 1, 1) := by decide +kernel
theorem d_L_law_1459 : decode y_L_law.2.1 1459 = .ok (.iadd, 1) := by decide +kernel
theorem d_L_law_1460 : decode y_L_law.2.1 1460 = .ok (.iaload, 1) := by decide +kernel
theorem d_L_law_1461 : decode y_L_law.2.1 1461 = .ok (.aload_n 0, 1) := by decide +kernel
theorem d_L_law_1462 : decode y_L_law.2.1 1462 = .ok (.iload 4, 2) := by decide +kernel
theorem d_L_law_1464 : decode y_L_law.2.1 1464 = .ok (.iconst 2, 1) := by decide +kernel
theorem d_L_law_1465 : decode y_L_law.2.1 1465 = .ok (.iadd, 1) := by decide +kernel
theorem d_L_law_1466 : decode y_L_law.2.1 1466 = .ok (.iaload, 1) := by decide +kernel
theorem d_L_law_1467 : decode y_L_law.2.1 1467 = .ok (.aload_n 0, 1) := by decide +kernel
theorem d_L_law_1468 : decode y_L_law.2.1 1468 = .ok (.iload 4, 2) := by decide +kernel
theorem d_L_law_1470 : decode y_L_law.2.1 1470 = .ok (.iconst 3, 1) := by decide +kernel
theorem d_L_law_1471 : decode y_L_law.2.1 1471 = .ok (.iadd, 1) := by decide +kernel
theorem d_L_law_1472 : decode y_L_law.2.1 1472 = .ok (.iaload, 1) := by decide +kernel
theorem d_L_law_1473 : decode y_L_law.2.1 1473 = .ok (.aload_n 0, 1) := by decide +kernel
theorem d_L_law_1474 : decode y_L_law.2.1 1474 = .ok (.iload 4, 2) := by decide +kernel
theorem d_L_law_1476 : decode y_L_law.2.1 1476 = .ok (.iconst 4, 1) := by decide +kernel
theorem d_L_law_1477 : decode y_L_law.2.1 1477 = .ok (.iadd, 1) := by decide +kernel
theorem d_L_law_1478 : decode y_L_law.2.1 1478 = .ok (.iaload, 1) := by decide +kernel
theorem d_L_law_1479 : decode y_L_law.2.1 1479 = .ok (.aload_n 0, 1) := by decide +kernel
theorem d_L_law_1480 : decode y_L_law.2.1 1480 = .ok (.iload 4, 2) := by decide +kernel
theorem d_L_law_1482 : decode y_L_law.2.1 1482 = .ok (.iconst 5, 1) := by decide +kernel
theorem d_L_law_1483 : decode y_L_law.2.1 1483 = .ok (.iadd, 1) := by decide +kernel
theorem d_L_law_1484 : decode y_L_law.2.1 1484 = .ok (.iaload, 1) := by decide +kernel
theorem d_L_law_1485 : decode y_L_law.2.1 1485 = .ok (.aload_n 0, 1) := by decide +kernel
theorem d_L_law_1486 : decode y_L_law.2.1 1486 = .ok (.iload 4, 2) := by decide +kernel
theorem d_L_law_1488 : decode y_L_law.2.1 1488 = .ok (.bipush 6, 2) := by decide +kernel
theorem d_L_law_1490 : decode y_L_law.2.1 1490 = .ok (.iadd, 1) := by decide +kernel
theorem d_L_law_1491 : decode y_L_law.2.1 1491 = .ok (.iaload, 1) := by decide +kernel
theorem d_L_law_1492 : decode y_L_law.2.1 1492 = .ok (.aload_n 3, 1) := by decide +kernel
theorem d_L_law_1493 : decode y_L_law.2.1 1493 = .ok (.invokestatic 207, 3) := by decide +kernel
theorem d_L_law_1496 : decode y_L_law.2.1 1496 = .ok (.istore 5, 2) := by decide +kernel
theorem d_L_law_1498 : decode y_L_law.2.1 1498 = .ok (.aload_n 2, 1) := by decide +kernel
theorem d_L_law_1499 : decode y_L_law.2.1 1499 = .ok (.aload_n 0, 1) := by decide +kernel
theorem d_L_law_1500 : decode y_L_law.2.1 1500 = .ok (.iload 4, 2) := by decide +kernel
theorem d_L_law_1502 : decode y_L_law.2.1 1502 = .ok (.iconst 1, 1) := by decide +kernel
theorem d_L_law_1503 : decode y_L_law.2.1 1503 = .ok (.iadd, 1) := by decide +kernel
theorem d_L_law_1504 : decode y_L_law.2.1 1504 = .ok (.iaload, 1) := by decide +kernel
theorem d_L_law_1505 : decode y_L_law.2.1 1505 = .ok (.aload_n 0, 1) := by decide +kernel
theorem d_L_law_1506 : decode y_L_law.2.1 1506 = .ok (.iload 4, 2) := by decide +kernel
theorem d_L_law_1508 : decode y_L_law.2.1 1508 = .ok (.iconst 2, 1) := by decide +kernel
theorem d_L_law_1509 : decode y_L_law.2.1 1509 = .ok (.iadd, 1) := by decide +kernel
theorem d_L_law_1510 : decode y_L_law.2.1 1510 = .ok (.iaload, 1) := by decide +kernel
theorem d_L_law_1511 : decode y_L_law.2.1 1511 = .ok (.aload_n 0, 1) := by decide +kernel
theorem d_L_law_1512 : decode y_L_law.2.1 1512 = .ok (.iload 4, 2) := by decide +kernel
theorem d_L_law_1514 : decode y_L_law.2.1 1514 = .ok (.iconst 3, 1) := by decide +kernel
theorem d_L_law_1515 : decode y_L_law.2.1 1515 = .ok (.iadd, 1) := by decide +kernel
theorem d_L_law_1516 : decode y_L_law.2.1 1516 = .ok (.iaload, 1) := by decide +kernel
theorem d_L_law_1517 : decode y_L_law.2.1 1517 = .ok (.aload_n 0, 1) := by decide +kernel
theorem d_L_law_1518 : decode y_L_law.2.1 1518 = .ok (.iload 4, 2) := by decide +kernel
theorem d_L_law_1520 : decode y_L_law.2.1 1520 = .ok (.iconst 4, 1) := by decide +kernel
theorem d_L_law_1521 : decode y_L_law.2.1 1521 = .ok (.iadd, 1) := by decide +kernel
theorem d_L_law_1522 : decode y_L_law.2.1 1522 = .ok (.iaload, 1) := by decide +kernel
theorem d_L_law_1523 : decode y_L_law.2.1 1523 = .ok (.aload_n 0, 1) := by decide +kernel
theorem d_L_law_1524 : decode y_L_law.2.1 1524 = .ok (.iload 4, 2) := by decide +kernel
theorem d_L_law_1526 : decode y_L_law.2.1 1526 = .ok (.iconst 5, 1) := by decide +kernel
theorem d_L_law_1527 : decode y_L_law.2.1 1527 = .ok (.iadd, 1) := by decide +kernel
theorem d_L_law_1528 : decode y_L_law.2.1 1528 = .ok (.iaload, 1) := by decide +kernel
theorem d_L_law_1529 : decode y_L_law.2.1 1529 = .ok (.aload_n 0, 1) := by decide +kernel
theorem d_L_law_1530 : decode y_L_law.2.1 1530 = .ok (.iload 4, 2) := by decide +kernel
theorem d_L_law_1532 : decode y_L_law.2.1 1532 = .ok (.bipush 6, 2) := by decide +kernel
theorem d_L_law_1534 : decode y_L_law.2.1 1534 = .ok (.iadd, 1) := by decide +kernel
theorem d_L_law_1535 : decode y_L_law.2.1 1535 = .ok (.iaload, 1) := by decide +kernel
theorem d_L_law_1536 : decode y_L_law.2.1 1536 = .ok (.invokevirtual 209, 3) := by decide +kernel
theorem d_L_law_1539 : decode y_L_law.2.1 1539 = .ok (.lstore 6, 2) := by decide +kernel
theorem d_L_law_1541 : decode y_L_law.2.1 1541 = .ok (.aload_n 2, 1) := by decide +kernel
theorem d_L_law_1542 : decode y_L_law.2.1 1542 = .ok (.invokevirtual 156, 3) := by decide +kernel
theorem d_L_law_1545 : decode y_L_law.2.1 1545 = .ok (.iload 5, 2) := by decide +kernel
theorem d_L_law_1547 : decode y_L_law.2.1 1547 = .ok (.if_icmp .eq 5, 3) := by decide +kernel
theorem d_L_law_1550 : decode y_L_law.2.1 1550 = .ok (.iconst 0, 1) := by decide +kernel
theorem d_L_law_1551 : decode y_L_law.2.1 1551 = .ok (.ireturn, 1) := by decide +kernel
theorem d_L_law_1552 : decode y_L_law.2.1 1552 = .ok (.iload 5, 2) := by decide +kernel
theorem d_L_law_1554 : decode y_L_law.2.1 1554 = .ok (.ifCond .ne 14, 3) := by decide +kernel
theorem d_L_law_1557 : decode y_L_law.2.1 1557 = .ok (.aload_n 3, 1) := by decide +kernel
theorem d_L_law_1558 : decode y_L_law.2.1 1558 = .ok (.iconst 0, 1) := by decide +kernel
theorem d_L_law_1559 : decode y_L_law.2.1 1559 = .ok (.laload, 1) := by decide +kernel
theorem d_L_law_1560 : decode y_L_law.2.1 1560 = .ok (.lload 6, 2) := by decide +kernel
theorem d_L_law_1562 : decode y_L_law.2.1 1562 = .ok (.lcmp, 1) := by decide +kernel
theorem d_L_law_1563 : decode y_L_law.2.1 1563 = .ok (.ifCond .eq 5, 3) := by decide +kernel
theorem d_L_law_1566 : decode y_L_law.2.1 1566 = .ok (.iconst 0, 1) := by decide +kernel
theorem d_L_law_1567 : decode y_L_law.2.1 1567 = .ok (.ireturn, 1) := by decide +kernel
theorem d_L_law_1568 : decode y_L_law.2.1 1568 = .ok (.goto 2301, 3) := by decide +kernel
theorem d_L_law_1571 : decode y_L_law.2.1 1571 = .ok (.aload_n 1, 1) := by decide +kernel
theorem d_L_law_1572 : decode y_L_law.2.1 1572 = .ok (.aload_n 0, 1) := by decide +kernel
theorem d_L_law_1573 : decode y_L_law.2.1 1573 = .ok (.iload 4, 2) := by decide +kernel
theorem d_L_law_1575 : decode y_L_law.2.1 1575 = .ok (.iconst 1, 1) := by decide +kernel
theorem d_L_law_1576 : decode y_L_law.2.1 1576 = .ok (.iadd, 1) := by decide +kernel
theorem d_L_law_1577 : decode y_L_law.2.1 1577 = .ok (.iaload, 1) := by decide +kernel
theorem d_L_law_1578 : decode y_L_law.2.1 1578 = .ok (.aload_n 0, 1) := by decide +kernel
theorem d_L_law_1579 : decode y_L_law.2.1 1579 = .ok (.iload 4, 2) := by decide +kernel
theorem d_L_law_1581 : decode y_L_law.2.1 1581 = .ok (.iconst 2, 1) := by decide +kernel
theorem d_L_law_1582 : decode y_L_law.2.1 1582 = .ok (.iadd, 1) := by decide +kernel
theorem d_L_law_1583 : decode y_L_law.2.1 1583 = .ok (.iaload, 1) := by decide +kernel
theorem d_L_law_1584 : decode y_L_law.2.1 1584 = .ok (.aload_n 0, 1) := by decide +kernel
theorem d_L_law_1585 : decode y_L_law.2.1 1585 = .ok (.iload 4, 2) := by decide +kernel
theorem d_L_law_1587 : decode y_L_law.2.1 1587 = .ok (.iconst 3, 1) := by decide +kernel
theorem d_L_law_1588 : decode y_L_law.2.1 1588 = .ok (.iadd, 1) := by decide +kernel
theorem d_L_law_1589 : decode y_L_law.2.1 1589 = .ok (.iaload, 1) := by decide +kernel
theorem d_L_law_1590 : decode y_L_law.2.1 1590 = .ok (.aload_n 0, 1) := by decide +kernel
theorem d_L_law_1591 : decode y_L_law.2.1 1591 = .ok (.iload 4, 2) := by decide +kernel
theorem d_L_law_1593 : decode y_L_law.2.1 1593 = .ok (.iconst 4, 1) := by decide +kernel
theorem d_L_law_1594 : decode y_L_law.2.1 1594 = .ok (.iadd, 1) := by decide +kernel
theorem d_L_law_1595 : decode y_L_law.2.1 1595 = .ok (.iaload, 1) := by decide +kernel
theorem d_L_law_1596 : decode y_L_law.2.1 1596 = .ok (.aload_n 0, 1) := by decide +kernel
theorem d_L_law_1597 : decode y_L_law.2.1 1597 = .ok (.iload 4, 2) := by decide +kernel
theorem d_L_law_1599 : decode y_L_law.2.1 1599 = .ok (.iconst 5, 1) := by decide +kernel
theorem d_L_law_1600 : decode y_L_law.2.1 1600 = .ok (.iadd, 1) := by decide +kernel
theorem d_L_law_1601 : decode y_L_law.2.1 1601 = .ok (.iaload, 1) := by decide +kernel
theorem d_L_law_1602 : decode y_L_law.2.1 1602 = .ok (.aload_n 3, 1) := by decide +kernel
theorem d_L_law_1603 : decode y_L_law.2.1 1603 = .ok (.invokestatic 210, 3) := by decide +kernel
theorem d_L_law_1606 : decode y_L_law.2.1 1606 = .ok (.istore 5, 2) := by decide +kernel
theorem d_L_law_1608 : decode y_L_law.2.1 1608 = .ok (.aload_n 2, 1) := by decide +kernel
theorem d_L_law_1609 : decode y_L_law.2.1 1609 = .ok (.aload_n 0, 1) := by decide +kernel
theorem d_L_law_1610 : decode y_L_law.2.1 1610 = .ok (.iload 4, 2) := by decide +kernel
theorem d_L_law_1612 : decode y_L_law.2.1 1612 = .ok (.iconst 1, 1) := by decide +kernel
theorem d_L_law_1613 : decode y_L_law.2.1 1613 = .ok (.iadd, 1) := by decide +kernel
theorem d_L_law_1614 : decode y_L_law.2.1 1614 = .ok (.iaload, 1) := by decide +kernel
theorem d_L_law_1615 : decode y_L_law.2.1 1615 = .ok (.aload_n 0, 1) := by decide +kernel
theorem d_L_law_1616 : decode y_L_law.2.1 1616 = .ok (.iload 4, 2) := by decide +kernel
theorem d_L_law_1618 : decode y_L_law.2.1 1618 = .ok (.iconst 2, 1) := by decide +kernel
theorem d_L_law_1619 : decode y_L_law.2.1 1619 = .ok (.iadd, 1) := by decide +kernel
theorem d_L_law_1620 : decode y_L_law.2.1 1620 = .ok (.iaload, 1) := by decide +kernel
theorem d_L_law_1621 : decode y_L_law.2.1 1621 = .ok (.aload_n 0, 1) := by decide +kernel
theorem d_L_law_1622 : decode y_L_law.2.1 1622 = .ok (.iload 4, 2) := by decide +kernel
theorem d_L_law_1624 : decode y_L_law.2.1 1624 = .ok (.iconst 3, 1) := by decide +kernel
theorem d_L_law_1625 : decode y_L_law.2.1 1625 = .ok (.iadd, 1) := by decide +kernel
theorem d_L_law_1626 : decode y_L_law.2.1 1626 = .ok (.iaload, 1) := by decide +kernel
theorem d_L_law_1627 : decode y_L_law.2.1 1627 = .ok (.aload_n 0, 1) := by decide +kernel
theorem d_L_law_1628 : decode y_L_law.2.1 1628 = .ok (.iload 4, 2) := by decide +kernel
theorem d_L_law_1630 : decode y_L_law.2.1 1630 = .ok (.iconst 4, 1) := by decide +kernel
theorem d_L_law_1631 : decode y_L_law.2.1 1631 = .ok (.iadd, 1) := by decide +kernel
theorem d_L_law_1632 : decode y_L_law.2.1 1632 = .ok (.iaload, 1) := by decide +kernel
theorem d_L_law_1633 : decode y_L_law.2.1 1633 = .ok (.aload_n 0, 1) := by decide +kernel
theorem d_L_law_1634 : decode y_L_law.2.1 1634 = .ok (.iload 4, 2) := by decide +kernel
theorem d_L_law_1636 : decode y_L_law.2.1 1636 = .ok (.iconst 5, 1) := by decide +kernel
theorem d_L_law_1637 : decode y_L_law.2.1 1637 = .ok (.iadd, 1) := by decide +kernel
theorem d_L_law_1638 : decode y_L_law.2.1 1638 = .ok (.iaload, 1) := by decide +kernel
theorem d_L_law_1639 : decode y_L_law.2.1 1639 = .ok (.invokevirtual 212, 3) := by decide +kernel
theorem d_L_law_1642 : decode y_L_law.2.1 1642 = .ok (.istore 6, 2) := by decide +kernel
theorem d_L_law_1644 : decode y_L_law.2.1 1644 = .ok (.aload_n 2, 1) := by decide +kernel
theorem d_L_law_1645 : decode y_L_law.2.1 1645 = .ok (.invokevirtual 156, 3) := by decide +kernel
theorem d_L_law_1648 : decode y_L_law.2.1 1648 = .ok (.iload 5, 2) := by decide +kernel
theorem d_L_law_1650 : decode y_L_law.2.1 1650 = .ok (.if_icmp .eq 5, 3) := by decide +kernel
theorem d_L_law_1653 : decode y_L_law.2.1 1653 = .ok (.iconst 0, 1) := by decide +kernel
theorem d_L_law_1654 : decode y_L_law.2.1 1654 = .ok (.ireturn, 1) := by decide +kernel
theorem d_L_law_1655 : decode y_L_law.2.1 1655 = .ok (.iload 5, 2) := by decide +kernel
theorem d_L_law_1657 : decode y_L_law.2.1 1657 = .ok (.ifCond .ne 15, 3) := by decide +kernel
theorem d_L_law_1660 : decode y_L_law.2.1 1660 = .ok (.aload_n 3, 1) := by decide +kernel
theorem d_L_law_1661 : decode y_L_law.2.1 1661 = .ok (.iconst 0, 1) := by decide +kernel
theorem d_L_law_1662 : decode y_L_law.2.1 1662 = .ok (.laload, 1) := by decide +kernel
theorem d_L_law_1663 : decode y_L_law.2.1 1663 = .ok (.iload 6, 2) := by decide +kernel
theorem d_L_law_1665 : decode y_L_law.2.1 1665 = .ok (.i2l, 1) := by decide +kernel
theorem d_L_law_1666 : decode y_L_law.2.1 1666 = .ok (.lcmp, 1) := by decide +kernel
theorem d_L_law_1667 : decode y_L_law.2.1 1667 = .ok (.ifCond .eq 5, 3) := by decide +kernel
theorem d_L_law_1670 : decode y_L_law.2.1 1670 = .ok (.iconst 0, 1) := by decide +kernel
theorem d_L_law_1671 : decode y_L_law.2.1 1671 = .ok (.ireturn, 1) := by decide +kernel
theorem d_L_law_1672 : decode y_L_law.2.1 1672 = .ok (.goto 2197, 3) := by decide +kernel
theorem d_L_law_1675 : decode y_L_law.2.1 1675 = .ok (.aload_n 1, 1) := by decide +kernel
theorem d_L_law_1676 : decode y_L_law.2.1 1676 = .ok (.aload_n 0, 1) := by decide +kernel
theorem d_L_law_1677 : decode y_L_law.2.1 1677 = .ok (.iload 4, 2) := by decide +kernel
theorem d_L_law_1679 : decode y_L_law.2.1 1679 = .ok (.iconst 1, 1) := by decide +kernel
theorem d_L_law_1680 : decode y_L_law.2.1 1680 = .ok (.iadd, 1) := by decide +kernel
theorem d_L_law_1681 : decode y_L_law.2.1 1681 = .ok (.iaload, 1) := by decide +kernel
theorem d_L_law_1682 : decode y_L_law.2.1 1682 = .ok (.aload_n 0, 1) := by decide +kernel
theorem d_L_law_1683 : decode y_L_law.2.1 1683 = .ok (.iload 4, 2) := by decide +kernel
theorem d_L_law_1685 : decode y_L_law.2.1 1685 = .ok (.iconst 2, 1) := by decide +kernel
theorem d_L_law_1686 : decode y_L_law.2.1 1686 = .ok (.iadd, 1) := by decide +kernel
theorem d_L_law_1687 : decode y_L_law.2.1 1687 = .ok (.iaload, 1) := by decide +kernel
