theorem dL_law_1555 : decode code 1555 = .ok (.lshl, 1) := by decide +kernel
theorem dL_law_1556 : decode code 1556 = .ok (.aload_n 0, 1) := by decide +kernel
theorem dL_law_1557 : decode code 1557 = .ok (.iload 4, 2) := by decide +kernel
theorem dL_law_1559 : decode code 1559 = .ok (.bipush 8, 2) := by decide +kernel
theorem dL_law_1561 : decode code 1561 = .ok (.iadd, 1) := by decide +kernel
theorem dL_law_1562 : decode code 1562 = .ok (.iaload, 1) := by decide +kernel
theorem dL_law_1563 : decode code 1563 = .ok (.i2l, 1) := by decide +kernel
theorem dL_law_1564 : decode code 1564 = .ok (.ldc2_w 75, 3) := by decide +kernel
theorem dL_law_1567 : decode code 1567 = .ok (.land, 1) := by decide +kernel
theorem dL_law_1568 : decode code 1568 = .ok (.lor, 1) := by decide +kernel
theorem dL_law_1569 : decode code 1569 = .ok (.aload_n 0, 1) := by decide +kernel
theorem dL_law_1570 : decode code 1570 = .ok (.iload 4, 2) := by decide +kernel
theorem dL_law_1572 : decode code 1572 = .ok (.bipush 9, 2) := by decide +kernel
theorem dL_law_1574 : decode code 1574 = .ok (.iadd, 1) := by decide +kernel
theorem dL_law_1575 : decode code 1575 = .ok (.iaload, 1) := by decide +kernel
theorem dL_law_1576 : decode code 1576 = .ok (.i2l, 1) := by decide +kernel
theorem dL_law_1577 : decode code 1577 = .ok (.bipush 32, 2) := by decide +kernel
theorem dL_law_1579 : decode code 1579 = .ok (.lshl, 1) := by decide +kernel
theorem dL_law_1580 : decode code 1580 = .ok (.aload_n 0, 1) := by decide +kernel
theorem dL_law_1581 : decode code 1581 = .ok (.iload 4, 2) := by decide +kernel
theorem dL_law_1583 : decode code 1583 = .ok (.bipush 10, 2) := by decide +kernel
theorem dL_law_1585 : decode code 1585 = .ok (.iadd, 1) := by decide +kernel
theorem dL_law_1586 : decode code 1586 = .ok (.iaload, 1) := by decide +kernel
theorem dL_law_1587 : decode code 1587 = .ok (.i2l, 1) := by decide +kernel
theorem dL_law_1588 : decode code 1588 = .ok (.ldc2_w 75, 3) := by decide +kernel
theorem dL_law_1591 : decode code 1591 = .ok (.land, 1) := by decide +kernel
theorem dL_law_1592 : decode code 1592 = .ok (.lor, 1) := by decide +kernel
theorem dL_law_1593 : decode code 1593 = .ok (.invokevirtual 136, 3) := by decide +kernel
theorem dL_law_1596 : decode code 1596 = .ok (.istore 6, 2) := by decide +kernel
theorem dL_law_1598 : decode code 1598 = .ok (.aload_n 2, 1) := by decide +kernel
theorem dL_law_1599 : decode code 1599 = .ok (.invokevirtual 81, 3) := by decide +kernel
theorem dL_law_1602 : decode code 1602 = .ok (.iload 5, 2) := by decide +kernel
theorem dL_law_1604 : decode code 1604 = .ok (.if_icmp .eq (5), 3) := by decide +kernel
theorem dL_law_1609 : decode code 1609 = .ok (.iload 5, 2) := by decide +kernel
theorem dL_law_1611 : decode code 1611 = .ok (.ifCond .ne (22), 3) := by decide +kernel
theorem dL_law_1614 : decode code 1614 = .ok (.aload_n 3, 1) := by decide +kernel
theorem dL_law_1615 : decode code 1615 = .ok (.iconst 0, 1) := by decide +kernel
theorem dL_law_1616 : decode code 1616 = .ok (.laload, 1) := by decide +kernel
theorem dL_law_1617 : decode code 1617 = .ok (.iload 6, 2) := by decide +kernel
theorem dL_law_1619 : decode code 1619 = .ok (.ifCond .eq (7), 3) := by decide +kernel
theorem dL_law_1622 : decode code 1622 = .ok (.lconst 1, 1) := by decide +kernel
theorem dL_law_1623 : decode code 1623 = .ok (.goto (4), 3) := by decide +kernel
theorem dL_law_1626 : decode code 1626 = .ok (.lconst 0, 1) := by decide +kernel
theorem dL_law_1627 : decode code 1627 = .ok (.lcmp, 1) := by decide +kernel
theorem dL_law_1628 : decode code 1628 = .ok (.ifCond .eq (5), 3) := by decide +kernel
theorem dL_law_1633 : decode code 1633 = .ok (.goto (72), 3) := by decide +kernel
theorem dL_law_1636 : decode code 1636 = .ok (.aload_n 1, 1) := by decide +kernel
theorem dL_law_1637 : decode code 1637 = .ok (.invokevirtual 137, 3) := by decide +kernel
theorem dL_law_1640 : decode code 1640 = .ok (.aload_n 2, 1) := by decide +kernel
theorem dL_law_1641 : decode code 1641 = .ok (.invokevirtual 141, 3) := by decide +kernel
theorem dL_law_1644 : decode code 1644 = .ok (.if_icmp .eq (61), 3) := by decide +kernel
theorem dL_law_1649 : decode code 1649 = .ok (.aload_n 1, 1) := by decide +kernel
theorem dL_law_1650 : decode code 1650 = .ok (.aload_n 0, 1) := by decide +kernel
theorem dL_law_1651 : decode code 1651 = .ok (.iload 4, 2) := by decide +kernel
theorem dL_law_1653 : decode code 1653 = .ok (.iconst 1, 1) := by decide +kernel
theorem dL_law_1654 : decode code 1654 = .ok (.iadd, 1) := by decide +kernel
theorem dL_law_1655 : decode code 1655 = .ok (.iaload, 1) := by decide +kernel
theorem dL_law_1656 : decode code 1656 = .ok (.aload_n 3, 1) := by decide +kernel
theorem dL_law_1657 : decode code 1657 = .ok (.invokestatic 142, 3) := by decide +kernel
theorem dL_law_1660 : decode code 1660 = .ok (.istore 5, 2) := by decide +kernel
theorem dL_law_1662 : decode code 1662 = .ok (.aload_n 2, 1) := by decide +kernel
theorem dL_law_1663 : decode code 1663 = .ok (.aload_n 0, 1) := by decide +kernel
theorem dL_law_1664 : decode code 1664 = .ok (.iload 4, 2) := by decide +kernel
theorem dL_law_1666 : decode code 1666 = .ok (.iconst 1, 1) := by decide +kernel
theorem dL_law_1667 : decode code 1667 = .ok (.iadd, 1) := by decide +kernel
theorem dL_law_1668 : decode code 1668 = .ok (.iaload, 1) := by decide +kernel
theorem dL_law_1669 : decode code 1669 = .ok (.invokevirtual 145, 3) := by decide +kernel
theorem dL_law_1672 : decode code 1672 = .ok (.istore 6, 2) := by decide +kernel
theorem dL_law_1674 : decode code 1674 = .ok (.aload_n 2, 1) := by decide +kernel
theorem dL_law_1675 : decode code 1675 = .ok (.invokevirtual 81, 3) := by decide +kernel
theorem dL_law_1678 : decode code 1678 = .ok (.iload 5, 2) := by decide +kernel
theorem dL_law_1680 : decode code 1680 = .ok (.if_icmp .eq (5), 3) := by decide +kernel
theorem dL_law_1685 : decode code 1685 = .ok (.iload 5, 2) := by decide +kernel
theorem dL_law_1687 : decode code 1687 = .ok (.ifCond .ne (15), 3) := by decide +kernel
theorem dL_law_1702 : decode code 1702 = .ok (.goto (3), 3) := by decide +kernel
theorem dL_law_1705 : decode code 1705 = .ok (.iinc 4 11, 3) := by decide +kernel
theorem dL_law_1708 : decode code 1708 = .ok (.goto (-1649), 3) := by decide +kernel
theorem dL_law_1711 : decode code 1711 = .ok (.iconst 1, 1) := by decide +kernel
theorem dL_law_1712 : decode code 1712 = .ok (.ireturn, 1) := by decide +kernel
