theorem dL_law_1472 : decode code 1472 = .ok (.ifCond .ne 15, 3) := by decide +kernel
theorem dL_law_1475 : decode code 1475 = .ok (.aload_n 3, 1) := by decide +kernel
theorem dL_law_1476 : decode code 1476 = .ok (.iconst 0, 1) := by decide +kernel
theorem dL_law_1477 : decode code 1477 = .ok (.laload, 1) := by decide +kernel
theorem dL_law_1478 : decode code 1478 = .ok (.iload 6, 2) := by decide +kernel
theorem dL_law_1480 : decode code 1480 = .ok (.i2l, 1) := by decide +kernel
theorem dL_law_1481 : decode code 1481 = .ok (.lcmp, 1) := by decide +kernel
theorem dL_law_1482 : decode code 1482 = .ok (.ifCond .eq 5, 3) := by decide +kernel
theorem dL_law_1485 : decode code 1485 = .ok (.iconst 0, 1) := by decide +kernel
theorem dL_law_1486 : decode code 1486 = .ok (.ireturn, 1) := by decide +kernel
theorem dL_law_1487 : decode code 1487 = .ok (.goto 403, 3) := by decide +kernel
theorem dL_law_1490 : decode code 1490 = .ok (.aload_n 1, 1) := by decide +kernel
theorem dL_law_1491 : decode code 1491 = .ok (.aload_n 0, 1) := by decide +kernel
theorem dL_law_1492 : decode code 1492 = .ok (.iload 4, 2) := by decide +kernel
theorem dL_law_1494 : decode code 1494 = .ok (.iconst 1, 1) := by decide +kernel
theorem dL_law_1495 : decode code 1495 = .ok (.iadd, 1) := by decide +kernel
theorem dL_law_1496 : decode code 1496 = .ok (.iaload, 1) := by decide +kernel
theorem dL_law_1497 : decode code 1497 = .ok (.aload_n 0, 1) := by decide +kernel
theorem dL_law_1498 : decode code 1498 = .ok (.iload 4, 2) := by decide +kernel
theorem dL_law_1500 : decode code 1500 = .ok (.iconst 2, 1) := by decide +kernel
theorem dL_law_1501 : decode code 1501 = .ok (.iadd, 1) := by decide +kernel
theorem dL_law_1502 : decode code 1502 = .ok (.iaload, 1) := by decide +kernel
theorem dL_law_1503 : decode code 1503 = .ok (.aload_n 0, 1) := by decide +kernel
theorem dL_law_1504 : decode code 1504 = .ok (.iload 4, 2) := by decide +kernel
theorem dL_law_1506 : decode code 1506 = .ok (.iconst 3, 1) := by decide +kernel
theorem dL_law_1507 : decode code 1507 = .ok (.iadd, 1) := by decide +kernel
theorem dL_law_1508 : decode code 1508 = .ok (.iaload, 1) := by decide +kernel
theorem dL_law_1509 : decode code 1509 = .ok (.aload_n 3, 1) := by decide +kernel
theorem dL_law_1510 : decode code 1510 = .ok (.invokestatic 152, 3) := by decide +kernel
theorem dL_law_1513 : decode code 1513 = .ok (.istore 5, 2) := by decide +kernel
theorem dL_law_1515 : decode code 1515 = .ok (.aload_n 2, 1) := by decide +kernel
theorem dL_law_1516 : decode code 1516 = .ok (.aload_n 0, 1) := by decide +kernel
theorem dL_law_1517 : decode code 1517 = .ok (.iload 4, 2) := by decide +kernel
theorem dL_law_1519 : decode code 1519 = .ok (.iconst 1, 1) := by decide +kernel
theorem dL_law_1520 : decode code 1520 = .ok (.iadd, 1) := by decide +kernel
theorem dL_law_1521 : decode code 1521 = .ok (.iaload, 1) := by decide +kernel
theorem dL_law_1522 : decode code 1522 = .ok (.aload_n 0, 1) := by decide +kernel
theorem dL_law_1523 : decode code 1523 = .ok (.iload 4, 2) := by decide +kernel
theorem dL_law_1525 : decode code 1525 = .ok (.iconst 2, 1) := by decide +kernel
theorem dL_law_1526 : decode code 1526 = .ok (.iadd, 1) := by decide +kernel
theorem dL_law_1527 : decode code 1527 = .ok (.iaload, 1) := by decide +kernel
theorem dL_law_1528 : decode code 1528 = .ok (.aload_n 0, 1) := by decide +kernel
theorem dL_law_1529 : decode code 1529 = .ok (.iload 4, 2) := by decide +kernel
theorem dL_law_1531 : decode code 1531 = .ok (.iconst 3, 1) := by decide +kernel
theorem dL_law_1532 : decode code 1532 = .ok (.iadd, 1) := by decide +kernel
theorem dL_law_1533 : decode code 1533 = .ok (.iaload, 1) := by decide +kernel
theorem dL_law_1534 : decode code 1534 = .ok (.invokevirtual 154, 3) := by decide +kernel
theorem dL_law_1537 : decode code 1537 = .ok (.istore 6, 2) := by decide +kernel
theorem dL_law_1539 : decode code 1539 = .ok (.aload_n 2, 1) := by decide +kernel
theorem dL_law_1540 : decode code 1540 = .ok (.invokevirtual 100, 3) := by decide +kernel
theorem dL_law_1543 : decode code 1543 = .ok (.iload 5, 2) := by decide +kernel
theorem dL_law_1545 : decode code 1545 = .ok (.if_icmp .eq 5, 3) := by decide +kernel
theorem dL_law_1548 : decode code 1548 = .ok (.iconst 0, 1) := by decide +kernel
theorem dL_law_1549 : decode code 1549 = .ok (.ireturn, 1) := by decide +kernel
theorem dL_law_1550 : decode code 1550 = .ok (.iload 5, 2) := by decide +kernel
theorem dL_law_1552 : decode code 1552 = .ok (.ifCond .ne 15, 3) := by decide +kernel
theorem dL_law_1555 : decode code 1555 = .ok (.aload_n 3, 1) := by decide +kernel
theorem dL_law_1556 : decode code 1556 = .ok (.iconst 0, 1) := by decide +kernel
theorem dL_law_1557 : decode code 1557 = .ok (.laload, 1) := by decide +kernel
theorem dL_law_1558 : decode code 1558 = .ok (.iload 6, 2) := by decide +kernel
theorem dL_law_1560 : decode code 1560 = .ok (.i2l, 1) := by decide +kernel
theorem dL_law_1561 : decode code 1561 = .ok (.lcmp, 1) := by decide +kernel
theorem dL_law_1562 : decode code 1562 = .ok (.ifCond .eq 5, 3) := by decide +kernel
theorem dL_law_1565 : decode code 1565 = .ok (.iconst 0, 1) := by decide +kernel
theorem dL_law_1566 : decode code 1566 = .ok (.ireturn, 1) := by decide +kernel
theorem dL_law_1567 : decode code 1567 = .ok (.goto 323, 3) := by decide +kernel
theorem dL_law_1570 : decode code 1570 = .ok (.aload_n 1, 1) := by decide +kernel
theorem dL_law_1571 : decode code 1571 = .ok (.aload_n 0, 1) := by decide +kernel
theorem dL_law_1572 : decode code 1572 = .ok (.iload 4, 2) := by decide +kernel
theorem dL_law_1574 : decode code 1574 = .ok (.iconst 1, 1) := by decide +kernel
theorem dL_law_1575 : decode code 1575 = .ok (.iadd, 1) := by decide +kernel
theorem dL_law_1576 : decode code 1576 = .ok (.iaload, 1) := by decide +kernel
theorem dL_law_1577 : decode code 1577 = .ok (.aload_n 0, 1) := by decide +kernel
theorem dL_law_1578 : decode code 1578 = .ok (.iload 4, 2) := by decide +kernel
theorem dL_law_1580 : decode code 1580 = .ok (.iconst 2, 1) := by decide +kernel
theorem dL_law_1581 : decode code 1581 = .ok (.iadd, 1) := by decide +kernel
theorem dL_law_1582 : decode code 1582 = .ok (.iaload, 1) := by decide +kernel
theorem dL_law_1583 : decode code 1583 = .ok (.aload_n 0, 1) := by decide +kernel
theorem dL_law_1584 : decode code 1584 = .ok (.iload 4, 2) := by decide +kernel
theorem dL_law_1586 : decode code 1586 = .ok (.iconst 3, 1) := by decide +kernel
theorem dL_law_1587 : decode code 1587 = .ok (.iadd, 1) := by decide +kernel
theorem dL_law_1588 : decode code 1588 = .ok (.iaload, 1) := by decide +kernel
theorem dL_law_1589 : decode code 1589 = .ok (.aload_n 0, 1) := by decide +kernel
theorem dL_law_1590 : decode code 1590 = .ok (.iload 4, 2) := by decide +kernel
theorem dL_law_1592 : decode code 1592 = .ok (.iconst 4, 1) := by decide +kernel
theorem dL_law_1593 : decode code 1593 = .ok (.iadd, 1) := by decide +kernel
theorem dL_law_1594 : decode code 1594 = .ok (.iaload, 1) := by decide +kernel
theorem dL_law_1595 : decode code 1595 = .ok (.invokestatic 155, 3) := by decide +kernel
theorem dL_law_1598 : decode code 1598 = .ok (.istore 5, 2) := by decide +kernel
theorem dL_law_1600 : decode code 1600 = .ok (.aload_n 2, 1) := by decide +kernel
theorem dL_law_1601 : decode code 1601 = .ok (.aload_n 0, 1) := by decide +kernel
theorem dL_law_1602 : decode code 1602 = .ok (.iload 4, 2) := by decide +kernel
theorem dL_law_1604 : decode code 1604 = .ok (.iconst 1, 1) := by decide +kernel
theorem dL_law_1605 : decode code 1605 = .ok (.iadd, 1) := by decide +kernel
theorem dL_law_1606 : decode code 1606 = .ok (.iaload, 1) := by decide +kernel
theorem dL_law_1607 : decode code 1607 = .ok (.aload_n 0, 1) := by decide +kernel
theorem dL_law_1608 : decode code 1608 = .ok (.iload 4, 2) := by decide +kernel
theorem dL_law_1610 : decode code 1610 = .ok (.iconst 2, 1) := by decide +kernel
theorem dL_law_1611 : decode code 1611 = .ok (.iadd, 1) := by decide +kernel
theorem dL_law_1612 : decode code 1612 = .ok (.iaload, 1) := by decide +kernel
theorem dL_law_1613 : decode code 1613 = .ok (.aload_n 0, 1) := by decide +kernel
theorem dL_law_1614 : decode code 1614 = .ok (.iload 4, 2) := by decide +kernel
theorem dL_law_1616 : decode code 1616 = .ok (.iconst 3, 1) := by decide +kernel
theorem dL_law_1617 : decode code 1617 = .ok (.iadd, 1) := by decide +kernel
theorem dL_law_1618 : decode code 1618 = .ok (.iaload, 1) := by decide +kernel
theorem dL_law_1619 : decode code 1619 = .ok (.aload_n 0, 1) := by decide +kernel
theorem dL_law_1620 : decode code 1620 = .ok (.iload 4, 2) := by decide +kernel
theorem dL_law_1622 : decode code 1622 = .ok (.iconst 4, 1) := by decide +kernel
theorem dL_law_1623 : decode code 1623 = .ok (.iadd, 1) := by decide +kernel
theorem dL_law_1624 : decode code 1624 = .ok (.iaload, 1) := by decide +kernel
theorem dL_law_1625 : decode code 1625 = .ok (.invokevirtual 158, 3) := by decide +kernel
theorem dL_law_1628 : decode code 1628 = .ok (.aload_n 2, 1) := by decide +kernel
theorem dL_law_1629 : decode code 1629 = .ok (.invokevirtual 100, 3) := by decide +kernel
theorem dL_law_1632 : decode code 1632 = .ok (.iload 5, 2) := by decide +kernel
theorem dL_law_1634 : decode code 1634 = .ok (.if_icmp .eq 5, 3) := by decide +kernel
theorem dL_law_1637 : decode code 1637 = .ok (.iconst 0, 1) := by decide +kernel
theorem dL_law_1638 : decode code 1638 = .ok (.ireturn, 1) := by decide +kernel
theorem dL_law_1639 : decode code 1639 = .ok (.goto 251, 3) := by decide +kernel
theorem dL_law_1642 : decode code 1642 = .ok (.aload_n 1, 1) := by decide +kernel
theorem dL_law_1643 : decode code 1643 = .ok (.aload_n 0, 1) := by decide +kernel
theorem dL_law_1644 : decode code 1644 = .ok (.iload 4, 2) := by decide +kernel
theorem dL_law_1646 : decode code 1646 = .ok (.iconst 1, 1) := by decide +kernel
theorem dL_law_1647 : decode code 1647 = .ok (.iadd, 1) := by decide +kernel
theorem dL_law_1648 : decode code 1648 = .ok (.iaload, 1) := by decide +kernel
theorem dL_law_1649 : decode code 1649 = .ok (.aload_n 0, 1) := by decide +kernel
theorem dL_law_1650 : decode code 1650 = .ok (.iload 4, 2) := by decide +kernel
theorem dL_law_1652 : decode code 1652 = .ok (.iconst 2, 1) := by decide +kernel
theorem dL_law_1653 : decode code 1653 = .ok (.iadd, 1) := by decide +kernel
theorem dL_law_1654 : decode code 1654 = .ok (.iaload, 1) := by decide +kernel
theorem dL_law_1655 : decode code 1655 = .ok (.ifCond .eq 7, 3) := by decide +kernel
theorem dL_law_1658 : decode code 1658 = .ok (.iconst 1, 1) := by decide +kernel
theorem dL_law_1659 : decode code 1659 = .ok (.goto 4, 3) := by decide +kernel
theorem dL_law_1662 : decode code 1662 = .ok (.iconst 0, 1) := by decide +kernel
theorem dL_law_1663 : decode code 1663 = .ok (.invokestatic 159, 3) := by decide +kernel
theorem dL_law_1666 : decode code 1666 = .ok (.istore 5, 2) := by decide +kernel
theorem dL_law_1668 : decode code 1668 = .ok (.aload_n 2, 1) := by decide +kernel
theorem dL_law_1669 : decode code 1669 = .ok (.aload_n 0, 1) := by decide +kernel
theorem dL_law_1670 : decode code 1670 = .ok (.iload 4, 2) := by decide +kernel
theorem dL_law_1672 : decode code 1672 = .ok (.iconst 1, 1) := by decide +kernel
theorem dL_law_1673 : decode code 1673 = .ok (.iadd, 1) := by decide +kernel
theorem dL_law_1674 : decode code 1674 = .ok (.iaload, 1) := by decide +kernel
theorem dL_law_1675 : decode code 1675 = .ok (.aload_n 0, 1) := by decide +kernel
theorem dL_law_1676 : decode code 1676 = .ok (.iload 4, 2) := by decide +kernel
theorem dL_law_1678 : decode code 1678 = .ok (.iconst 2, 1) := by decide +kernel
theorem dL_law_1679 : decode code 1679 = .ok (.iadd, 1) := by decide +kernel
theorem dL_law_1680 : decode code 1680 = .ok (.iaload, 1) := by decide +kernel
theorem dL_law_1681 : decode code 1681 = .ok (.ifCond .eq 7, 3) := by decide +kernel
theorem dL_law_1684 : decode code 1684 = .ok (.iconst 1, 1) := by decide +kernel
theorem dL_law_1685 : decode code 1685 = .ok (.goto 4, 3) := by decide +kernel
theorem dL_law_1688 : decode code 1688 = .ok (.iconst 0, 1) := by decide +kernel
theorem dL_law_1689 : decode code 1689 = .ok (.invokevirtual 162, 3) := by decide +kernel
theorem dL_law_1692 : decode code 1692 = .ok (.aload_n 2, 1) := by decide +kernel
theorem dL_law_1693 : decode code 1693 = .ok (.invokevirtual 100, 3) := by decide +kernel
theorem dL_law_1696 : decode code 1696 = .ok (.iload 5, 2) := by decide +kernel
theorem dL_law_1698 : decode code 1698 = .ok (.if_icmp .eq 5, 3) := by decide +kernel
theorem dL_law_1701 : decode code 1701 = .ok (.iconst 0, 1) := by decide +kernel
theorem dL_law_1702 : decode code 1702 = .ok (.ireturn, 1) := by decide +kernel
theorem dL_law_1703 : decode code 1703 = .ok (.goto 187, 3) := by decide +kernel
theorem dL_law_1706 : decode code 1706 = .ok (.aload_n 1, 1) := by decide +kernel
theorem dL_law_1707 : decode code 1707 = .ok (.aload_n 0, 1) := by decide +kernel
theorem dL_law_1708 : decode code 1708 = .ok (.iload 4, 2) := by decide +kernel
theorem dL_law_1710 : decode code 1710 = .ok (.iconst 1, 1) := by decide +kernel
theorem dL_law_1711 : decode code 1711 = .ok (.iadd, 1) := by decide +kernel
theorem dL_law_1712 : decode code 1712 = .ok (.iaload, 1) := by decide +kernel
theorem dL_law_1713 : decode code 1713 = .ok (.aload_n 0, 1) := by decide +kernel
theorem dL_law_1714 : decode code 1714 = .ok (.iload 4, 2) := by decide +kernel
theorem dL_law_1716 : decode code 1716 = .ok (.iconst 2, 1) := by decide +kernel
theorem dL_law_1717 : decode code 1717 = .ok (.iadd, 1) := by decide +kernel
theorem dL_law_1718 : decode code 1718 = .ok (.iaload, 1) := by decide +kernel
theorem dL_law_1719 : decode code 1719 = .ok (.aload_n 0, 1) := by decide +kernel
theorem dL_law_1720 : decode code 1720 = .ok (.iload 4, 2) := by decide +kernel
theorem dL_law_1722 : decode code 1722 = .ok (.iconst 3, 1) := by decide +kernel
theorem dL_law_1723 : decode code 1723 = .ok (.iadd, 1) := by decide +kernel
theorem dL_law_1724 : decode code 1724 = .ok (.iaload, 1) := by decide +kernel
theorem dL_law_1725 : decode code 1725 = .ok (.aload_n 0, 1) := by decide +kernel
theorem dL_law_1726 : decode code 1726 = .ok (.iload 4, 2) := by decide +kernel
theorem dL_law_1728 : decode code 1728 = .ok (.iconst 4, 1) := by decide +kernel
theorem dL_law_1729 : decode code 1729 = .ok (.iadd, 1) := by decide +kernel
theorem dL_law_1730 : decode code 1730 = .ok (.iaload, 1) := by decide +kernel
theorem dL_law_1731 : decode code 1731 = .ok (.aload_n 3, 1) := by decide +kernel
theorem dL_law_1732 : decode code 1732 = .ok (.invokestatic 163, 3) := by decide +kernel
theorem dL_law_1735 : decode code 1735 = .ok (.istore 5, 2) := by decide +kernel
theorem dL_law_1737 : decode code 1737 = .ok (.aload_n 2, 1) := by decide +kernel
theorem dL_law_1738 : decode code 1738 = .ok (.aload_n 0, 1) := by decide +kernel
theorem dL_law_1739 : decode code 1739 = .ok (.iload 4, 2) := by decide +kernel
theorem dL_law_1741 : decode code 1741 = .ok (.iconst 1, 1) := by decide +kernel
theorem dL_law_1742 : decode code 1742 = .ok (.iadd, 1) := by decide +kernel
theorem dL_law_1743 : decode code 1743 = .ok (.iaload, 1) := by decide +kernel
theorem dL_law_1744 : decode code 1744 = .ok (.aload_n 0, 1) := by decide +kernel
theorem dL_law_1745 : decode code 1745 = .ok (.iload 4, 2) := by decide +kernel
theorem dL_law_1747 : decode code 1747 = .ok (.iconst 2, 1) := by decide +kernel
theorem dL_law_1748 : decode code 1748 = .ok (.iadd, 1) := by decide +kernel
theorem dL_law_1749 : decode code 1749 = .ok (.iaload, 1) := by decide +kernel
theorem dL_law_1750 : decode code 1750 = .ok (.aload_n 0, 1) := by decide +kernel
theorem dL_law_1751 : decode code 1751 = .ok (.iload 4, 2) := by decide +kernel
theorem dL_law_1753 : decode code 1753 = .ok (.iconst 3, 1) := by decide +kernel
theorem dL_law_1754 : decode code 1754 = .ok (.iadd, 1) := by decide +kernel
theorem dL_law_1755 : decode code 1755 = .ok (.iaload, 1) := by decide +kernel
theorem dL_law_1756 : decode code 1756 = .ok (.aload_n 0, 1) := by decide +kernel
theorem dL_law_1757 : decode code 1757 = .ok (.iload 4, 2) := by decide +kernel
theorem dL_law_1759 : decode code 1759 = .ok (.iconst 4, 1) := by decide +kernel
theorem dL_law_1760 : decode code 1760 = .ok (.iadd, 1) := by decide +kernel
theorem dL_law_1761 : decode code 1761 = .ok (.iaload, 1) := by decide +kernel
theorem dL_law_1762 : decode code 1762 = .ok (.invokevirtual 165, 3) := by decide +kernel
theorem dL_law_1765 : decode code 1765 = .ok (.istore 6, 2) := by decide +kernel
theorem dL_law_1767 : decode code 1767 = .ok (.aload_n 2, 1) := by decide +kernel
theorem dL_law_1768 : decode code 1768 = .ok (.invokevirtual 100, 3) := by decide +kernel
theorem dL_law_1771 : decode code 1771 = .ok (.iload 5, 2) := by decide +kernel
theorem dL_law_1773 : decode code 1773 = .ok (.if_icmp .eq 5, 3) := by decide +kernel
theorem dL_law_1776 : decode code 1776 = .ok (.iconst 0, 1) := by decide +kernel
theorem dL_law_1777 : decode code 1777 = .ok (.ireturn, 1) := by decide +kernel
theorem dL_law_1778 : decode code 1778 = .ok (.iload 5, 2) := by decide +kernel
theorem dL_law_1780 : decode code 1780 = .ok (.ifCond .ne 15, 3) := by decide +kernel
theorem dL_law_1783 : decode code 1783 = .ok (.aload_n 3, 1) := by decide +kernel
theorem dL_law_1784 : decode code 1784 = .ok (.iconst 0, 1) := by decide +kernel
theorem dL_law_1785 : decode code 1785 = .ok (.laload, 1) := by decide +kernel
theorem dL_law_1786 : decode code 1786 = .ok (.iload 6, 2) := by decide +kernel
theorem dL_law_1788 : decode code 1788 = .ok (.i2l, 1) := by decide +kernel
theorem dL_law_1789 : decode code 1789 = .ok (.lcmp, 1) := by decide +kernel
theorem dL_law_1790 : decode code 1790 = .ok (.ifCond .eq 5, 3) := by decide +kernel
theorem dL_law_1793 : decode code 1793 = .ok (.iconst 0, 1) := by decide +kernel
theorem dL_law_1794 : decode code 1794 = .ok (.ireturn, 1) := by decide +kernel
theorem dL_law_1795 : decode code 1795 = .ok (.goto 95, 3) := by decide +kernel
theorem dL_law_1798 : decode code 1798 = .ok (.aload_n 1, 1) := by decide +kernel
theorem dL_law_1799 : decode code 1799 = .ok (.aload_n 0, 1) := by decide +kernel
theorem dL_law_1800 : decode code 1800 = .ok (.iload 4, 2) := by decide +kernel
theorem dL_law_1802 : decode code 1802 = .ok (.iconst 1, 1) := by decide +kernel
theorem dL_law_1803 : decode code 1803 = .ok (.iadd, 1) := by decide +kernel
theorem dL_law_1804 : decode code 1804 = .ok (.iaload, 1) := by decide +kernel
theorem dL_law_1805 : decode code 1805 = .ok (.aload_n 0, 1) := by decide +kernel
theorem dL_law_1806 : decode code 1806 = .ok (.iload 4, 2) := by decide +kernel
theorem dL_law_1808 : decode code 1808 = .ok (.iconst 2, 1) := by decide +kernel
theorem dL_law_1809 : decode code 1809 = .ok (.iadd, 1) := by decide +kernel
theorem dL_law_1810 : decode code 1810 = .ok (.iaload, 1) := by decide +kernel
theorem dL_law_1811 : decode code 1811 = .ok (.aload_n 0, 1) := by decide +kernel
theorem dL_law_1812 : decode code 1812 = .ok (.iload 4, 2) := by decide +kernel
theorem dL_law_1814 : decode code 1814 = .ok (.iconst 3, 1) := by decide +kernel
theorem dL_law_1815 : decode code 1815 = .ok (.iadd, 1) := by decide +kernel
theorem dL_law_1816 : decode code 1816 = .ok (.iaload, 1) := by decide +kernel
theorem dL_law_1817 : decode code 1817 = .ok (.aload_n 0, 1) := by decide +kernel
theorem dL_law_1818 : decode code 1818 = .ok (.iload 4, 2) := by decide +kernel
theorem dL_law_1820 : decode code 1820 = .ok (.iconst 4, 1) := by decide +kernel
theorem dL_law_1821 : decode code 1821 = .ok (.iadd, 1) := by decide +kernel
theorem dL_law_1822 : decode code 1822 = .ok (.iaload, 1) := by decide +kernel
theorem dL_law_1823 : decode code 1823 = .ok (.aload_n 3, 1) := by decide +kernel
theorem dL_law_1824 : decode code 1824 = .ok (.invokestatic 166, 3) := by decide +kernel
theorem dL_law_1827 : decode code 1827 = .ok (.istore 5, 2) := by decide +kernel
theorem dL_law_1829 : decode code 1829 = .ok (.aload_n 2, 1) := by decide +kernel
theorem dL_law_1830 : decode code 1830 = .ok (.aload_n 0, 1) := by decide +kernel
theorem dL_law_1831 : decode code 1831 = .ok (.iload 4, 2) := by decide +kernel
theorem dL_law_1833 : decode code 1833 = .ok (.iconst 1, 1) := by decide +kernel
theorem dL_law_1834 : decode code 1834 = .ok (.iadd, 1) := by decide +kernel
theorem dL_law_1835 : decode code 1835 = .ok (.iaload, 1) := by decide +kernel
theorem dL_law_1836 : decode code 1836 = .ok (.aload_n 0, 1) := by decide +kernel
theorem dL_law_1837 : decode code 1837 = .ok (.iload 4, 2) := by decide +kernel
theorem dL_law_1839 : decode code 1839 = .ok (.iconst 2, 1) := by decide +kernel
theorem dL_law_1840 : decode code 1840 = .ok (.iadd, 1) := by decide +kernel
theorem dL_law_1841 : decode code 1841 = .ok (.iaload, 1) := by decide +kernel
theorem dL_law_1842 : decode code 1842 = .ok (.aload_n 0, 1) := by decide +kernel
theorem dL_law_1843 : decode code 1843 = .ok (.iload 4, 2) := by decide +kernel
theorem dL_law_1845 : decode code 1845 = .ok (.iconst 3, 1) := by decide +kernel
theorem dL_law_1846 : decode code 1846 = .ok (.iadd, 1) := by decide +kernel
theorem dL_law_1847 : decode code 1847 = .ok (.iaload, 1) := by decide +kernel
theorem dL_law_1848 : decode code 1848 = .ok (.aload_n 0, 1) := by decide +kernel
theorem dL_law_1849 : decode code 1849 = .ok (.iload 4, 2) := by decide +kernel
theorem dL_law_1851 : decode code 1851 = .ok (.iconst 4, 1) := by decide +kernel
theorem dL_law_1852 : decode code 1852 = .ok (.iadd, 1) := by decide +kernel
theorem dL_law_1853 : decode code 1853 = .ok (.iaload, 1) := by decide +kernel
theorem dL_law_1854 : decode code 1854 = .ok (.invokevirtual 168, 3) := by decide +kernel
theorem dL_law_1857 : decode code 1857 = .ok (.istore 6, 2) := by decide +kernel
theorem dL_law_1859 : decode code 1859 = .ok (.aload_n 2, 1) := by decide +kernel
theorem dL_law_1860 : decode code 1860 = .ok (.invokevirtual 100, 3) := by decide +kernel
theorem dL_law_1863 : decode code 1863 = .ok (.iload 5, 2) := by decide +kernel
theorem dL_law_1865 : decode code 1865 = .ok (.if_icmp .eq 5, 3) := by decide +kernel
theorem dL_law_1868 : decode code 1868 = .ok (.iconst 0, 1) := by decide +kernel
theorem dL_law_1869 : decode code 1869 = .ok (.ireturn, 1) := by decide +kernel
theorem dL_law_1870 : decode code 1870 = .ok (.iload 5, 2) := by decide +kernel
theorem dL_law_1872 : decode code 1872 = .ok (.ifCond .ne 15, 3) := by decide +kernel
theorem dL_law_1875 : decode code 1875 = .ok (.aload_n 3, 1) := by decide +kernel
theorem dL_law_1876 : decode code 1876 = .ok (.iconst 0, 1) := by decide +kernel
theorem dL_law_1877 : decode code 1877 = .ok (.laload, 1) := by decide +kernel
theorem dL_law_1878 : decode code 1878 = .ok (.iload 6, 2) := by decide +kernel
theorem dL_law_1880 : decode code 1880 = .ok (.i2l, 1) := by decide +kernel
theorem dL_law_1881 : decode code 1881 = .ok (.lcmp, 1) := by decide +kernel
theorem dL_law_1882 : decode code 1882 = .ok (.ifCond .eq 5, 3) := by decide +kernel
theorem dL_law_1885 : decode code 1885 = .ok (.iconst 0, 1) := by decide +kernel
theorem dL_law_1886 : decode code 1886 = .ok (.ireturn, 1) := by decide +kernel
theorem dL_law_1887 : decode code 1887 = .ok (.goto 3, 3) := by decide +kernel
theorem dL_law_1890 : decode code 1890 = .ok (.iinc 4 6, 3) := by decide +kernel
theorem dL_law_1893 : decode code 1893 = .ok (.goto (-1870), 3) := by decide +kernel
theorem dL_law_1896 : decode code 1896 = .ok (.iconst 1, 1) := by decide +kernel
theorem dL_law_1897 : decode code 1897 = .ok (.ireturn, 1) := by decide +kernel
