-- what the law is made of
theorem dL_law_1595 : decode code 1595 = .ok (.invokevirtual 202, 3) := by decide +kernel
theorem dL_law_1598 : decode code 1598 = .ok (.aload_n 2, 1) := by decide +kernel
theorem dL_law_1599 : decode code 1599 = .ok (.invokevirtual 205, 3) := by decide +kernel
theorem dL_law_1602 : decode code 1602 = .ok (.if_icmp .eq 124, 3) := by decide +kernel
theorem dL_law_1605 : decode code 1605 = .ok (.iconst 0, 1) := by decide +kernel
theorem dL_law_1606 : decode code 1606 = .ok (.ireturn, 1) := by decide +kernel
theorem dL_law_1607 : decode code 1607 = .ok (.aload_n 1, 1) := by decide +kernel
theorem dL_law_1608 : decode code 1608 = .ok (.aload_n 0, 1) := by decide +kernel
theorem dL_law_1609 : decode code 1609 = .ok (.iload 4, 2) := by decide +kernel
theorem dL_law_1611 : decode code 1611 = .ok (.iconst 1, 1) := by decide +kernel
theorem dL_law_1612 : decode code 1612 = .ok (.iadd, 1) := by decide +kernel
theorem dL_law_1613 : decode code 1613 = .ok (.iaload, 1) := by decide +kernel
theorem dL_law_1614 : decode code 1614 = .ok (.invokevirtual 206, 3) := by decide +kernel
theorem dL_law_1617 : decode code 1617 = .ok (.aload_n 2, 1) := by decide +kernel
theorem dL_law_1618 : decode code 1618 = .ok (.aload_n 0, 1) := by decide +kernel
theorem dL_law_1619 : decode code 1619 = .ok (.iload 4, 2) := by decide +kernel
theorem dL_law_1621 : decode code 1621 = .ok (.iconst 1, 1) := by decide +kernel
theorem dL_law_1622 : decode code 1622 = .ok (.iadd, 1) := by decide +kernel
theorem dL_law_1623 : decode code 1623 = .ok (.iaload, 1) := by decide +kernel
theorem dL_law_1624 : decode code 1624 = .ok (.invokevirtual 210, 3) := by decide +kernel
theorem dL_law_1627 : decode code 1627 = .ok (.if_icmp .eq 99, 3) := by decide +kernel
theorem dL_law_1630 : decode code 1630 = .ok (.iconst 0, 1) := by decide +kernel
theorem dL_law_1631 : decode code 1631 = .ok (.ireturn, 1) := by decide +kernel
theorem dL_law_1632 : decode code 1632 = .ok (.aload_n 1, 1) := by decide +kernel
theorem dL_law_1633 : decode code 1633 = .ok (.aload_n 0, 1) := by decide +kernel
theorem dL_law_1634 : decode code 1634 = .ok (.iload 4, 2) := by decide +kernel
theorem dL_law_1636 : decode code 1636 = .ok (.iconst 1, 1) := by decide +kernel
theorem dL_law_1637 : decode code 1637 = .ok (.iadd, 1) := by decide +kernel
theorem dL_law_1638 : decode code 1638 = .ok (.iaload, 1) := by decide +kernel
theorem dL_law_1639 : decode code 1639 = .ok (.aload_n 3, 1) := by decide +kernel
theorem dL_law_1640 : decode code 1640 = .ok (.invokestatic 211, 3) := by decide +kernel
theorem dL_law_1643 : decode code 1643 = .ok (.istore 5, 2) := by decide +kernel
theorem dL_law_1645 : decode code 1645 = .ok (.aload_n 2, 1) := by decide +kernel
theorem dL_law_1646 : decode code 1646 = .ok (.aload_n 0, 1) := by decide +kernel
theorem dL_law_1647 : decode code 1647 = .ok (.iload 4, 2) := by decide +kernel
theorem dL_law_1649 : decode code 1649 = .ok (.iconst 1, 1) := by decide +kernel
theorem dL_law_1650 : decode code 1650 = .ok (.iadd, 1) := by decide +kernel
theorem dL_law_1651 : decode code 1651 = .ok (.iaload, 1) := by decide +kernel
theorem dL_law_1652 : decode code 1652 = .ok (.invokevirtual 216, 3) := by decide +kernel
theorem dL_law_1655 : decode code 1655 = .ok (.istore 6, 2) := by decide +kernel
theorem dL_law_1657 : decode code 1657 = .ok (.aload_n 2, 1) := by decide +kernel
theorem dL_law_1658 : decode code 1658 = .ok (.invokevirtual 217, 3) := by decide +kernel
theorem dL_law_1661 : decode code 1661 = .ok (.iload 5, 2) := by decide +kernel
theorem dL_law_1663 : decode code 1663 = .ok (.if_icmp .eq 5, 3) := by decide +kernel
theorem dL_law_1666 : decode code 1666 = .ok (.iconst 0, 1) := by decide +kernel
theorem dL_law_1667 : decode code 1667 = .ok (.ireturn, 1) := by decide +kernel
theorem dL_law_1668 : decode code 1668 = .ok (.iload 5, 2) := by decide +kernel
theorem dL_law_1670 : decode code 1670 = .ok (.ifCond .ne 15, 3) := by decide +kernel
theorem dL_law_1673 : decode code 1673 = .ok (.aload_n 3, 1) := by decide +kernel
theorem dL_law_1674 : decode code 1674 = .ok (.iconst 0, 1) := by decide +kernel
theorem dL_law_1675 : decode code 1675 = .ok (.laload, 1) := by decide +kernel
theorem dL_law_1676 : decode code 1676 = .ok (.iload 6, 2) := by decide +kernel
theorem dL_law_1678 : decode code 1678 = .ok (.i2l, 1) := by decide +kernel
theorem dL_law_1679 : decode code 1679 = .ok (.lcmp, 1) := by decide +kernel
theorem dL_law_1680 : decode code 1680 = .ok (.ifCond .eq 5, 3) := by decide +kernel
theorem dL_law_1683 : decode code 1683 = .ok (.iconst 0, 1) := by decide +kernel
theorem dL_law_1684 : decode code 1684 = .ok (.ireturn, 1) := by decide +kernel
theorem dL_law_1685 : decode code 1685 = .ok (.goto 41, 3) := by decide +kernel
theorem dL_law_1688 : decode code 1688 = .ok (.aload_n 1, 1) := by decide +kernel
theorem dL_law_1689 : decode code 1689 = .ok (.aload_n 0, 1) := by decide +kernel
theorem dL_law_1690 : decode code 1690 = .ok (.iload 4, 2) := by decide +kernel
theorem dL_law_1692 : decode code 1692 = .ok (.iconst 1, 1) := by decide +kernel
theorem dL_law_1693 : decode code 1693 = .ok (.iadd, 1) := by decide +kernel
theorem dL_law_1694 : decode code 1694 = .ok (.iaload, 1) := by decide +kernel
theorem dL_law_1695 : decode code 1695 = .ok (.invokevirtual 220, 3) := by decide +kernel
theorem dL_law_1698 : decode code 1698 = .ok (.aload_n 2, 1) := by decide +kernel
theorem dL_law_1699 : decode code 1699 = .ok (.aload_n 0, 1) := by decide +kernel
theorem dL_law_1700 : decode code 1700 = .ok (.iload 4, 2) := by decide +kernel
theorem dL_law_1702 : decode code 1702 = .ok (.iconst 1, 1) := by decide +kernel
theorem dL_law_1703 : decode code 1703 = .ok (.iadd, 1) := by decide +kernel
theorem dL_law_1704 : decode code 1704 = .ok (.iaload, 1) := by decide +kernel
theorem dL_law_1705 : decode code 1705 = .ok (.invokevirtual 223, 3) := by decide +kernel
theorem dL_law_1708 : decode code 1708 = .ok (.if_icmp .eq 18, 3) := by decide +kernel
theorem dL_law_1711 : decode code 1711 = .ok (.iconst 0, 1) := by decide +kernel
theorem dL_law_1712 : decode code 1712 = .ok (.ireturn, 1) := by decide +kernel
theorem dL_law_1713 : decode code 1713 = .ok (.aload_n 1, 1) := by decide +kernel
theorem dL_law_1714 : decode code 1714 = .ok (.invokevirtual 224, 3) := by decide +kernel
theorem dL_law_1717 : decode code 1717 = .ok (.aload_n 2, 1) := by decide +kernel
theorem dL_law_1718 : decode code 1718 = .ok (.invokevirtual 227, 3) := by decide +kernel
theorem dL_law_1721 : decode code 1721 = .ok (.if_icmp .eq 5, 3) := by decide +kernel
theorem dL_law_1724 : decode code 1724 = .ok (.iconst 0, 1) := by decide +kernel
theorem dL_law_1725 : decode code 1725 = .ok (.ireturn, 1) := by decide +kernel
theorem dL_law_1726 : decode code 1726 = .ok (.iinc 4 6, 3) := by decide +kernel
theorem dL_law_1729 : decode code 1729 = .ok (.goto (-1706), 3) := by decide +kernel
theorem dL_law_1732 : decode code 1732 = .ok (.iconst 1, 1) := by decide +kernel
theorem dL_law_1733 : decode code 1733 = .ok (.ireturn, 1) := by decide +kernel
