-- what the law is made of
theorem dL_law_1424 : decode code 1424 = .ok (.iconst 1, 1) := by decide +kernel
theorem dL_law_1425 : decode code 1425 = .ok (.iadd, 1) := by decide +kernel
theorem dL_law_1426 : decode code 1426 = .ok (.iaload, 1) := by decide +kernel
theorem dL_law_1427 : decode code 1427 = .ok (.aload_n 0, 1) := by decide +kernel
theorem dL_law_1428 : decode code 1428 = .ok (.iload 4, 2) := by decide +kernel
theorem dL_law_1430 : decode code 1430 = .ok (.iconst 2, 1) := by decide +kernel
theorem dL_law_1431 : decode code 1431 = .ok (.iadd, 1) := by decide +kernel
theorem dL_law_1432 : decode code 1432 = .ok (.iaload, 1) := by decide +kernel
theorem dL_law_1433 : decode code 1433 = .ok (.invokevirtual 177, 3) := by decide +kernel
theorem dL_law_1436 : decode code 1436 = .ok (.aload_n 2, 1) := by decide +kernel
theorem dL_law_1437 : decode code 1437 = .ok (.aload_n 0, 1) := by decide +kernel
theorem dL_law_1438 : decode code 1438 = .ok (.iload 4, 2) := by decide +kernel
theorem dL_law_1440 : decode code 1440 = .ok (.iconst 1, 1) := by decide +kernel
theorem dL_law_1441 : decode code 1441 = .ok (.iadd, 1) := by decide +kernel
theorem dL_law_1442 : decode code 1442 = .ok (.iaload, 1) := by decide +kernel
theorem dL_law_1443 : decode code 1443 = .ok (.aload_n 0, 1) := by decide +kernel
theorem dL_law_1444 : decode code 1444 = .ok (.iload 4, 2) := by decide +kernel
theorem dL_law_1446 : decode code 1446 = .ok (.iconst 2, 1) := by decide +kernel
theorem dL_law_1447 : decode code 1447 = .ok (.iadd, 1) := by decide +kernel
theorem dL_law_1448 : decode code 1448 = .ok (.iaload, 1) := by decide +kernel
theorem dL_law_1449 : decode code 1449 = .ok (.invokevirtual 180, 3) := by decide +kernel
theorem dL_law_1452 : decode code 1452 = .ok (.if_icmp .eq 274, 3) := by decide +kernel
theorem dL_law_1455 : decode code 1455 = .ok (.iconst 0, 1) := by decide +kernel
theorem dL_law_1456 : decode code 1456 = .ok (.ireturn, 1) := by decide +kernel
theorem dL_law_1457 : decode code 1457 = .ok (.aload_n 1, 1) := by decide +kernel
theorem dL_law_1458 : decode code 1458 = .ok (.aload_n 0, 1) := by decide +kernel
theorem dL_law_1459 : decode code 1459 = .ok (.iload 4, 2) := by decide +kernel
theorem dL_law_1461 : decode code 1461 = .ok (.iconst 1, 1) := by decide +kernel
theorem dL_law_1462 : decode code 1462 = .ok (.iadd, 1) := by decide +kernel
theorem dL_law_1463 : decode code 1463 = .ok (.iaload, 1) := by decide +kernel
theorem dL_law_1464 : decode code 1464 = .ok (.aload_n 0, 1) := by decide +kernel
theorem dL_law_1465 : decode code 1465 = .ok (.iload 4, 2) := by decide +kernel
theorem dL_law_1467 : decode code 1467 = .ok (.iconst 2, 1) := by decide +kernel
theorem dL_law_1468 : decode code 1468 = .ok (.iadd, 1) := by decide +kernel
theorem dL_law_1469 : decode code 1469 = .ok (.iaload, 1) := by decide +kernel
theorem dL_law_1470 : decode code 1470 = .ok (.invokevirtual 181, 3) := by decide +kernel
theorem dL_law_1473 : decode code 1473 = .ok (.aload_n 2, 1) := by decide +kernel
theorem dL_law_1474 : decode code 1474 = .ok (.aload_n 0, 1) := by decide +kernel
theorem dL_law_1475 : decode code 1475 = .ok (.iload 4, 2) := by decide +kernel
theorem dL_law_1477 : decode code 1477 = .ok (.iconst 1, 1) := by decide +kernel
theorem dL_law_1478 : decode code 1478 = .ok (.iadd, 1) := by decide +kernel
theorem dL_law_1479 : decode code 1479 = .ok (.iaload, 1) := by decide +kernel
theorem dL_law_1480 : decode code 1480 = .ok (.aload_n 0, 1) := by decide +kernel
theorem dL_law_1481 : decode code 1481 = .ok (.iload 4, 2) := by decide +kernel
theorem dL_law_1483 : decode code 1483 = .ok (.iconst 2, 1) := by decide +kernel
theorem dL_law_1484 : decode code 1484 = .ok (.iadd, 1) := by decide +kernel
theorem dL_law_1485 : decode code 1485 = .ok (.iaload, 1) := by decide +kernel
theorem dL_law_1486 : decode code 1486 = .ok (.invokevirtual 184, 3) := by decide +kernel
theorem dL_law_1489 : decode code 1489 = .ok (.if_icmp .eq 237, 3) := by decide +kernel
theorem dL_law_1492 : decode code 1492 = .ok (.iconst 0, 1) := by decide +kernel
theorem dL_law_1493 : decode code 1493 = .ok (.ireturn, 1) := by decide +kernel
theorem dL_law_1494 : decode code 1494 = .ok (.aload_n 1, 1) := by decide +kernel
theorem dL_law_1495 : decode code 1495 = .ok (.aload_n 0, 1) := by decide +kernel
theorem dL_law_1496 : decode code 1496 = .ok (.iload 4, 2) := by decide +kernel
theorem dL_law_1498 : decode code 1498 = .ok (.iconst 1, 1) := by decide +kernel
theorem dL_law_1499 : decode code 1499 = .ok (.iadd, 1) := by decide +kernel
theorem dL_law_1500 : decode code 1500 = .ok (.iaload, 1) := by decide +kernel
theorem dL_law_1501 : decode code 1501 = .ok (.aload_n 0, 1) := by decide +kernel
theorem dL_law_1502 : decode code 1502 = .ok (.iload 4, 2) := by decide +kernel
theorem dL_law_1504 : decode code 1504 = .ok (.iconst 2, 1) := by decide +kernel
theorem dL_law_1505 : decode code 1505 = .ok (.iadd, 1) := by decide +kernel
theorem dL_law_1506 : decode code 1506 = .ok (.iaload, 1) := by decide +kernel
theorem dL_law_1507 : decode code 1507 = .ok (.invokevirtual 185, 3) := by decide +kernel
theorem dL_law_1510 : decode code 1510 = .ok (.aload_n 2, 1) := by decide +kernel
theorem dL_law_1511 : decode code 1511 = .ok (.aload_n 0, 1) := by decide +kernel
theorem dL_law_1512 : decode code 1512 = .ok (.iload 4, 2) := by decide +kernel
theorem dL_law_1514 : decode code 1514 = .ok (.iconst 1, 1) := by decide +kernel
theorem dL_law_1515 : decode code 1515 = .ok (.iadd, 1) := by decide +kernel
theorem dL_law_1516 : decode code 1516 = .ok (.iaload, 1) := by decide +kernel
theorem dL_law_1517 : decode code 1517 = .ok (.aload_n 0, 1) := by decide +kernel
theorem dL_law_1518 : decode code 1518 = .ok (.iload 4, 2) := by decide +kernel
theorem dL_law_1520 : decode code 1520 = .ok (.iconst 2, 1) := by decide +kernel
theorem dL_law_1521 : decode code 1521 = .ok (.iadd, 1) := by decide +kernel
theorem dL_law_1522 : decode code 1522 = .ok (.iaload, 1) := by decide +kernel
theorem dL_law_1523 : decode code 1523 = .ok (.invokevirtual 188, 3) := by decide +kernel
theorem dL_law_1526 : decode code 1526 = .ok (.if_icmp .eq 200, 3) := by decide +kernel
theorem dL_law_1529 : decode code 1529 = .ok (.iconst 0, 1) := by decide +kernel
theorem dL_law_1530 : decode code 1530 = .ok (.ireturn, 1) := by decide +kernel
theorem dL_law_1531 : decode code 1531 = .ok (.aload_n 1, 1) := by decide +kernel
theorem dL_law_1532 : decode code 1532 = .ok (.aload_n 0, 1) := by decide +kernel
theorem dL_law_1533 : decode code 1533 = .ok (.iload 4, 2) := by decide +kernel
theorem dL_law_1535 : decode code 1535 = .ok (.iconst 1, 1) := by decide +kernel
theorem dL_law_1536 : decode code 1536 = .ok (.iadd, 1) := by decide +kernel
theorem dL_law_1537 : decode code 1537 = .ok (.iaload, 1) := by decide +kernel
theorem dL_law_1538 : decode code 1538 = .ok (.aload_n 0, 1) := by decide +kernel
theorem dL_law_1539 : decode code 1539 = .ok (.iload 4, 2) := by decide +kernel
theorem dL_law_1541 : decode code 1541 = .ok (.iconst 2, 1) := by decide +kernel
theorem dL_law_1542 : decode code 1542 = .ok (.iadd, 1) := by decide +kernel
theorem dL_law_1543 : decode code 1543 = .ok (.iaload, 1) := by decide +kernel
theorem dL_law_1544 : decode code 1544 = .ok (.invokevirtual 189, 3) := by decide +kernel
theorem dL_law_1547 : decode code 1547 = .ok (.aload_n 2, 1) := by decide +kernel
theorem dL_law_1548 : decode code 1548 = .ok (.aload_n 0, 1) := by decide +kernel
theorem dL_law_1549 : decode code 1549 = .ok (.iload 4, 2) := by decide +kernel
theorem dL_law_1551 : decode code 1551 = .ok (.iconst 1, 1) := by decide +kernel
theorem dL_law_1552 : decode code 1552 = .ok (.iadd, 1) := by decide +kernel
theorem dL_law_1553 : decode code 1553 = .ok (.iaload, 1) := by decide +kernel
theorem dL_law_1554 : decode code 1554 = .ok (.aload_n 0, 1) := by decide +kernel
theorem dL_law_1555 : decode code 1555 = .ok (.iload 4, 2) := by decide +kernel
theorem dL_law_1557 : decode code 1557 = .ok (.iconst 2, 1) := by decide +kernel
theorem dL_law_1558 : decode code 1558 = .ok (.iadd, 1) := by decide +kernel
theorem dL_law_1559 : decode code 1559 = .ok (.iaload, 1) := by decide +kernel
theorem dL_law_1560 : decode code 1560 = .ok (.invokevirtual 192, 3) := by decide +kernel
theorem dL_law_1563 : decode code 1563 = .ok (.if_icmp .eq 163, 3) := by decide +kernel
theorem dL_law_1566 : decode code 1566 = .ok (.iconst 0, 1) := by decide +kernel
theorem dL_law_1567 : decode code 1567 = .ok (.ireturn, 1) := by decide +kernel
theorem dL_law_1568 : decode code 1568 = .ok (.aload_n 1, 1) := by decide +kernel
theorem dL_law_1569 : decode code 1569 = .ok (.invokevirtual 193, 3) := by decide +kernel
theorem dL_law_1572 : decode code 1572 = .ok (.aload_n 2, 1) := by decide +kernel
theorem dL_law_1573 : decode code 1573 = .ok (.invokevirtual 196, 3) := by decide +kernel
theorem dL_law_1576 : decode code 1576 = .ok (.if_icmp .eq 150, 3) := by decide +kernel
theorem dL_law_1579 : decode code 1579 = .ok (.iconst 0, 1) := by decide +kernel
theorem dL_law_1580 : decode code 1580 = .ok (.ireturn, 1) := by decide +kernel
theorem dL_law_1581 : decode code 1581 = .ok (.aload_n 1, 1) := by decide +kernel
theorem dL_law_1582 : decode code 1582 = .ok (.invokevirtual 197, 3) := by decide +kernel
theorem dL_law_1585 : decode code 1585 = .ok (.aload_n 2, 1) := by decide +kernel
theorem dL_law_1586 : decode code 1586 = .ok (.invokevirtual 201, 3) := by decide +kernel
theorem dL_law_1589 : decode code 1589 = .ok (.if_icmp .eq 137, 3) := by decide +kernel
theorem dL_law_1592 : decode code 1592 = .ok (.iconst 0, 1) := by decide +kernel
theorem dL_law_1593 : decode code 1593 = .ok (.ireturn, 1) := by decide +kernel
theorem dL_law_1594 : decode code 1594 = .ok (.aload_n 1, 1) := by decide +kernel
