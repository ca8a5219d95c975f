theorem dL_law_1417 : decode code 1417 = .ok (.i2l, 1) := by decide +kernel
theorem dL_law_1418 : decode code 1418 = .ok (.ldc2_w 75, 3) := by decide +kernel
theorem dL_law_1421 : decode code 1421 = .ok (.land, 1) := by decide +kernel
theorem dL_law_1422 : decode code 1422 = .ok (.lor, 1) := by decide +kernel
theorem dL_law_1423 : decode code 1423 = .ok (.aload_n 0, 1) := by decide +kernel
theorem dL_law_1424 : decode code 1424 = .ok (.iload 4, 2) := by decide +kernel
theorem dL_law_1426 : decode code 1426 = .ok (.bipush 7, 2) := by decide +kernel
theorem dL_law_1428 : decode code 1428 = .ok (.iadd, 1) := by decide +kernel
theorem dL_law_1429 : decode code 1429 = .ok (.iaload, 1) := by decide +kernel
theorem dL_law_1430 : decode code 1430 = .ok (.i2l, 1) := by decide +kernel
theorem dL_law_1431 : decode code 1431 = .ok (.bipush 32, 2) := by decide +kernel
theorem dL_law_1433 : decode code 1433 = .ok (.lshl, 1) := by decide +kernel
theorem dL_law_1434 : decode code 1434 = .ok (.aload_n 0, 1) := by decide +kernel
theorem dL_law_1435 : decode code 1435 = .ok (.iload 4, 2) := by decide +kernel
theorem dL_law_1437 : decode code 1437 = .ok (.bipush 8, 2) := by decide +kernel
theorem dL_law_1439 : decode code 1439 = .ok (.iadd, 1) := by decide +kernel
theorem dL_law_1440 : decode code 1440 = .ok (.iaload, 1) := by decide +kernel
theorem dL_law_1441 : decode code 1441 = .ok (.i2l, 1) := by decide +kernel
theorem dL_law_1442 : decode code 1442 = .ok (.ldc2_w 75, 3) := by decide +kernel
theorem dL_law_1445 : decode code 1445 = .ok (.land, 1) := by decide +kernel
theorem dL_law_1446 : decode code 1446 = .ok (.lor, 1) := by decide +kernel
theorem dL_law_1447 : decode code 1447 = .ok (.aload_n 0, 1) := by decide +kernel
theorem dL_law_1448 : decode code 1448 = .ok (.iload 4, 2) := by decide +kernel
theorem dL_law_1450 : decode code 1450 = .ok (.bipush 9, 2) := by decide +kernel
theorem dL_law_1452 : decode code 1452 = .ok (.iadd, 1) := by decide +kernel
theorem dL_law_1453 : decode code 1453 = .ok (.iaload, 1) := by decide +kernel
theorem dL_law_1454 : decode code 1454 = .ok (.i2l, 1) := by decide +kernel
theorem dL_law_1455 : decode code 1455 = .ok (.bipush 32, 2) := by decide +kernel
theorem dL_law_1457 : decode code 1457 = .ok (.lshl, 1) := by decide +kernel
theorem dL_law_1458 : decode code 1458 = .ok (.aload_n 0, 1) := by decide +kernel
theorem dL_law_1459 : decode code 1459 = .ok (.iload 4, 2) := by decide +kernel
theorem dL_law_1461 : decode code 1461 = .ok (.bipush 10, 2) := by decide +kernel
theorem dL_law_1463 : decode code 1463 = .ok (.iadd, 1) := by decide +kernel
theorem dL_law_1464 : decode code 1464 = .ok (.iaload, 1) := by decide +kernel
theorem dL_law_1465 : decode code 1465 = .ok (.i2l, 1) := by decide +kernel
theorem dL_law_1466 : decode code 1466 = .ok (.ldc2_w 75, 3) := by decide +kernel
theorem dL_law_1469 : decode code 1469 = .ok (.land, 1) := by decide +kernel
theorem dL_law_1470 : decode code 1470 = .ok (.lor, 1) := by decide +kernel
theorem dL_law_1471 : decode code 1471 = .ok (.aload_n 3, 1) := by decide +kernel
theorem dL_law_1472 : decode code 1472 = .ok (.invokestatic 133, 3) := by decide +kernel
theorem dL_law_1475 : decode code 1475 = .ok (.istore 5, 2) := by decide +kernel
theorem dL_law_1477 : decode code 1477 = .ok (.aload_n 2, 1) := by decide +kernel
theorem dL_law_1478 : decode code 1478 = .ok (.aload_n 0, 1) := by decide +kernel
theorem dL_law_1479 : decode code 1479 = .ok (.iload 4, 2) := by decide +kernel
theorem dL_law_1481 : decode code 1481 = .ok (.iconst 1, 1) := by decide +kernel
theorem dL_law_1482 : decode code 1482 = .ok (.iadd, 1) := by decide +kernel
theorem dL_law_1483 : decode code 1483 = .ok (.iaload, 1) := by decide +kernel
theorem dL_law_1484 : decode code 1484 = .ok (.i2l, 1) := by decide +kernel
theorem dL_law_1485 : decode code 1485 = .ok (.bipush 32, 2) := by decide +kernel
theorem dL_law_1487 : decode code 1487 = .ok (.lshl, 1) := by decide +kernel
theorem dL_law_1488 : decode code 1488 = .ok (.aload_n 0, 1) := by decide +kernel
theorem dL_law_1489 : decode code 1489 = .ok (.iload 4, 2) := by decide +kernel
theorem dL_law_1491 : decode code 1491 = .ok (.iconst 2, 1) := by decide +kernel
theorem dL_law_1492 : decode code 1492 = .ok (.iadd, 1) := by decide +kernel
theorem dL_law_1493 : decode code 1493 = .ok (.iaload, 1) := by decide +kernel
theorem dL_law_1494 : decode code 1494 = .ok (.i2l, 1) := by decide +kernel
theorem dL_law_1495 : decode code 1495 = .ok (.ldc2_w 75, 3) := by decide +kernel
theorem dL_law_1498 : decode code 1498 = .ok (.land, 1) := by decide +kernel
theorem dL_law_1499 : decode code 1499 = .ok (.lor, 1) := by decide +kernel
theorem dL_law_1500 : decode code 1500 = .ok (.aload_n 0, 1) := by decide +kernel
theorem dL_law_1501 : decode code 1501 = .ok (.iload 4, 2) := by decide +kernel
theorem dL_law_1503 : decode code 1503 = .ok (.iconst 3, 1) := by decide +kernel
theorem dL_law_1504 : decode code 1504 = .ok (.iadd, 1) := by decide +kernel
theorem dL_law_1505 : decode code 1505 = .ok (.iaload, 1) := by decide +kernel
theorem dL_law_1506 : decode code 1506 = .ok (.i2l, 1) := by decide +kernel
theorem dL_law_1507 : decode code 1507 = .ok (.bipush 32, 2) := by decide +kernel
theorem dL_law_1509 : decode code 1509 = .ok (.lshl, 1) := by decide +kernel
theorem dL_law_1510 : decode code 1510 = .ok (.aload_n 0, 1) := by decide +kernel
theorem dL_law_1511 : decode code 1511 = .ok (.iload 4, 2) := by decide +kernel
theorem dL_law_1513 : decode code 1513 = .ok (.iconst 4, 1) := by decide +kernel
theorem dL_law_1514 : decode code 1514 = .ok (.iadd, 1) := by decide +kernel
theorem dL_law_1515 : decode code 1515 = .ok (.iaload, 1) := by decide +kernel
theorem dL_law_1516 : decode code 1516 = .ok (.i2l, 1) := by decide +kernel
theorem dL_law_1517 : decode code 1517 = .ok (.ldc2_w 75, 3) := by decide +kernel
theorem dL_law_1520 : decode code 1520 = .ok (.land, 1) := by decide +kernel
theorem dL_law_1521 : decode code 1521 = .ok (.lor, 1) := by decide +kernel
theorem dL_law_1522 : decode code 1522 = .ok (.aload_n 0, 1) := by decide +kernel
theorem dL_law_1523 : decode code 1523 = .ok (.iload 4, 2) := by decide +kernel
theorem dL_law_1525 : decode code 1525 = .ok (.iconst 5, 1) := by decide +kernel
theorem dL_law_1526 : decode code 1526 = .ok (.iadd, 1) := by decide +kernel
theorem dL_law_1527 : decode code 1527 = .ok (.iaload, 1) := by decide +kernel
theorem dL_law_1528 : decode code 1528 = .ok (.i2l, 1) := by decide +kernel
theorem dL_law_1529 : decode code 1529 = .ok (.bipush 32, 2) := by decide +kernel
theorem dL_law_1531 : decode code 1531 = .ok (.lshl, 1) := by decide +kernel
theorem dL_law_1532 : decode code 1532 = .ok (.aload_n 0, 1) := by decide +kernel
theorem dL_law_1533 : decode code 1533 = .ok (.iload 4, 2) := by decide +kernel
theorem dL_law_1535 : decode code 1535 = .ok (.bipush 6, 2) := by decide +kernel
theorem dL_law_1537 : decode code 1537 = .ok (.iadd, 1) := by decide +kernel
theorem dL_law_1538 : decode code 1538 = .ok (.iaload, 1) := by decide +kernel
theorem dL_law_1539 : decode code 1539 = .ok (.i2l, 1) := by decide +kernel
theorem dL_law_1540 : decode code 1540 = .ok (.ldc2_w 75, 3) := by decide +kernel
theorem dL_law_1543 : decode code 1543 = .ok (.land, 1) := by decide +kernel
theorem dL_law_1544 : decode code 1544 = .ok (.lor, 1) := by decide +kernel
theorem dL_law_1545 : decode code 1545 = .ok (.aload_n 0, 1) := by decide +kernel
theorem dL_law_1546 : decode code 1546 = .ok (.iload 4, 2) := by decide +kernel
theorem dL_law_1548 : decode code 1548 = .ok (.bipush 7, 2) := by decide +kernel
theorem dL_law_1550 : decode code 1550 = .ok (.iadd, 1) := by decide +kernel
theorem dL_law_1551 : decode code 1551 = .ok (.iaload, 1) := by decide +kernel
theorem dL_law_1552 : decode code 1552 = .ok (.i2l, 1) := by decide +kernel
theorem dL_law_1553 : decode code 1553 = .ok (.bipush 32, 2) := by decide +kernel
