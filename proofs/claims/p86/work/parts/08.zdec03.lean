def dl_9 : List (Nat × (Instr × Nat)) := [(1554, (.aload_n 0, 1)), (1555, (.iload_n 3, 1)), (1556, (.iconst 1, 1)), (1557, (.iadd, 1)), (1558, (.iaload, 1)), (1559, (.invokevirtual 210, 3)), (1562, (.pop, 1)), (1563, (.goto 1097, 3)), (1566, (.aload_n 1, 1)), (1567, (.aload_n 0, 1)), (1568, (.iload_n 3, 1)), (1569, (.iconst 1, 1)), (1570, (.iadd, 1)), (1571, (.iaload, 1)), (1572, (.invokevirtual 211, 3)), (1575, (.pop, 1)), (1576, (.aload_n 2, 1)), (1577, (.aload_n 0, 1)), (1578, (.iload_n 3, 1)), (1579, (.iconst 1, 1)), (1580, (.iadd, 1)), (1581, (.iaload, 1)), (1582, (.invokevirtual 214, 3)), (1585, (.pop, 1)), (1586, (.goto 1074, 3)), (1589, (.aload_n 1, 1)), (1590, (.invokevirtual 215, 3)), (1593, (.pop, 1)), (1594, (.aload_n 2, 1)), (1595, (.invokevirtual 218, 3)), (1598, (.pop, 1)), (1599, (.goto 1061, 3)), (1602, (.aload_n 1, 1)), (1603, (.invokevirtual 219, 3)), (1606, (.pop, 1)), (1607, (.aload_n 2, 1)), (1608, (.invokevirtual 222, 3)), (1611, (.pop, 1)), (1612, (.goto 1048, 3)), (1615, (.aload_n 1, 1)), (1616, (.aload_n 0, 1)), (1617, (.iload_n 3, 1)), (1618, (.iconst 1, 1)), (1619, (.iadd, 1)), (1620, (.iaload, 1)), (1621, (.invokevirtual 223, 3)), (1624, (.pop, 1)), (1625, (.aload_n 2, 1)), (1626, (.aload_n 0, 1)), (1627, (.iload_n 3, 1)), (1628, (.iconst 1, 1)), (1629, (.iadd, 1)), (1630, (.iaload, 1)), (1631, (.invokevirtual 226, 3)), (1634, (.pop, 1)), (1635, (.goto 1025, 3)), (1638, (.aload_n 1, 1)), (1639, (.invokevirtual 227, 3)), (1642, (.pop, 1)), (1643, (.aload_n 2, 1)), (1644, (.invokevirtual 230, 3)), (1647, (.pop, 1)), (1648, (.goto 1012, 3)), (1651, (.aload_n 1, 1)), (1652, (.aload_n 0, 1)), (1653, (.iload_n 3, 1)), (1654, (.iconst 1, 1)), (1655, (.iadd, 1)), (1656, (.iaload, 1)), (1657, (.invokevirtual 231, 3)), (1660, (.pop, 1)), (1661, (.aload_n 2, 1)), (1662, (.aload_n 0, 1)), (1663, (.iload_n 3, 1)), (1664, (.iconst 1, 1)), (1665, (.iadd, 1)), (1666, (.iaload, 1)), (1667, (.invokevirtual 234, 3)), (1670, (.pop, 1)), (1671, (.goto 989, 3)), (1674, (.aload_n 1, 1)), (1675, (.aload_n 0, 1)), (1676, (.iload_n 3, 1)), (1677, (.iconst 1, 1)), (1678, (.iadd, 1)), (1679, (.iaload, 1)), (1680, (.invokevirtual 235, 3)), (1683, (.pop, 1)), (1684, (.aload_n 2, 1)), (1685, (.aload_n 0, 1)), (1686, (.iload_n 3, 1)), (1687, (.iconst 1, 1)), (1688, (.iadd, 1)), (1689, (.iaload, 1)), (1690, (.invokevirtual 238, 3)), (1693, (.pop, 1)), (1694, (.goto 966, 3)), (1697, (.aload_n 1, 1)), (1698, (.invokevirtual 239, 3)), (1701, (.pop, 1))]
set_option maxRecDepth 100000 in
theorem dl_9_ok : ∀ x ∈ dl_9, decode code x.1 = .ok x.2 := by decide +kernel
set_option maxRecDepth 100000 in
theorem dL_law_1554 : decode code 1554 = .ok (.aload_n 0, 1) := dl_9_ok (1554, (.aload_n 0, 1)) (List.mem_of_getElem? (i := 0) rfl)
set_option maxRecDepth 100000 in
theorem dL_law_1555 : decode code 1555 = .ok (.iload_n 3, 1) := dl_9_ok (1555, (.iload_n 3, 1)) (List.mem_of_getElem? (i := 1) rfl)
set_option maxRecDepth 100000 in
theorem dL_law_1556 : decode code 1556 = .ok (.iconst 1, 1) := dl_9_ok (1556, (.iconst 1, 1)) (List.mem_of_getElem? (i := 2) rfl)
set_option maxRecDepth 100000 in
theorem dL_law_1557 : decode code 1557 = .ok (.iadd, 1) := dl_9_ok (1557, (.iadd, 1)) (List.mem_of_getElem? (i := 3) rfl)
set_option maxRecDepth 100000 in
theorem dL_law_1558 : decode code 1558 = .ok (.iaload, 1) := dl_9_ok (1558, (.iaload, 1)) (List.mem_of_getElem? (i := 4) rfl)
set_option maxRecDepth 100000 in
theorem dL_law_1559 : decode code 1559 = .ok (.invokevirtual 210, 3) := dl_9_ok (1559, (.invokevirtual 210, 3)) (List.mem_of_getElem? (i := 5) rfl)
set_option maxRecDepth 100000 in
theorem dL_law_1562 : decode code 1562 = .ok (.pop, 1) := dl_9_ok (1562, (.pop, 1)) (List.mem_of_getElem? (i := 6) rfl)
set_option maxRecDepth 100000 in
theorem dL_law_1563 : decode code 1563 = .ok (.goto 1097, 3) := dl_9_ok (1563, (.goto 1097, 3)) (List.mem_of_getElem? (i := 7) rfl)
set_option maxRecDepth 100000 in
theorem dL_law_1566 : decode code 1566 = .ok (.aload_n 1, 1) := dl_9_ok (1566, (.aload_n 1, 1)) (List.mem_of_getElem? (i := 8) rfl)
set_option maxRecDepth 100000 in
theorem dL_law_1567 : decode code 1567 = .ok (.aload_n 0, 1) := dl_9_ok (1567, (.aload_n 0, 1)) (List.mem_of_getElem? (i := 9) rfl)
set_option maxRecDepth 100000 in
theorem dL_law_1568 : decode code 1568 = .ok (.iload_n 3, 1) := dl_9_ok (1568, (.iload_n 3, 1)) (List.mem_of_getElem? (i := 10) rfl)
set_option maxRecDepth 100000 in
theorem dL_law_1569 : decode code 1569 = .ok (.iconst 1, 1) := dl_9_ok (1569, (.iconst 1, 1)) (List.mem_of_getElem? (i := 11) rfl)
set_option maxRecDepth 100000 in
theorem dL_law_1570 : decode code 1570 = .ok (.iadd, 1) := dl_9_ok (1570, (.iadd, 1)) (List.mem_of_getElem? (i := 12) rfl)
set_option maxRecDepth 100000 in
theorem dL_law_1571 : decode code 1571 = .ok (.iaload, 1) := dl_9_ok (1571, (.iaload, 1)) (List.mem_of_getElem? (i := 13) rfl)
set_option maxRecDepth 100000 in
theorem dL_law_1572 : decode code 1572 = .ok (.invokevirtual 211, 3) := dl_9_ok (1572, (.invokevirtual 211, 3)) (List.mem_of_getElem? (i := 14) rfl)
set_option maxRecDepth 100000 in
theorem dL_law_1575 : decode code 1575 = .ok (.pop, 1) := dl_9_ok (1575, (.pop, 1)) (List.mem_of_getElem? (i := 15) rfl)
set_option maxRecDepth 100000 in
theorem dL_law_1576 : decode code 1576 = .ok (.aload_n 2, 1) := dl_9_ok (1576, (.aload_n 2, 1)) (List.mem_of_getElem? (i := 16) rfl)
set_option maxRecDepth 100000 in
theorem dL_law_1577 : decode code 1577 = .ok (.aload_n 0, 1) := dl_9_ok (1577, (.aload_n 0, 1)) (List.mem_of_getElem? (i := 17) rfl)
set_option maxRecDepth 100000 in
theorem dL_law_1578 : decode code 1578 = .ok (.iload_n 3, 1) := dl_9_ok (1578, (.iload_n 3, 1)) (List.mem_of_getElem? (i := 18) rfl)
set_option maxRecDepth 100000 in
theorem dL_law_1579 : decode code 1579 = .ok (.iconst 1, 1) := dl_9_ok (1579, (.iconst 1, 1)) (List.mem_of_getElem? (i := 19) rfl)
set_option maxRecDepth 100000 in
theorem dL_law_1580 : decode code 1580 = .ok (.iadd, 1) := dl_9_ok (1580, (.iadd, 1)) (List.mem_of_getElem? (i := 20) rfl)
set_option maxRecDepth 100000 in
theorem dL_law_1581 : decode code 1581 = .ok (.iaload, 1) := dl_9_ok (1581, (.iaload, 1)) (List.mem_of_getElem? (i := 21) rfl)
set_option maxRecDepth 100000 in
theorem dL_law_1582 : decode code 1582 = .ok (.invokevirtual 214, 3) := dl_9_ok (1582, (.invokevirtual 214, 3)) (List.mem_of_getElem? (i := 22) rfl)
set_option maxRecDepth 100000 in
theorem dL_law_1585 : decode code 1585 = .ok (.pop, 1) := dl_9_ok (1585, (.pop, 1)) (List.mem_of_getElem? (i := 23) rfl)
set_option maxRecDepth 100000 in
theorem dL_law_1586 : decode code 1586 = .ok (.goto 1074, 3) := dl_9_ok (1586, (.goto 1074, 3)) (List.mem_of_getElem? (i := 24) rfl)
set_option maxRecDepth 100000 in
theorem dL_law_1589 : decode code 1589 = .ok (.aload_n 1, 1) := dl_9_ok (1589, (.aload_n 1, 1)) (List.mem_of_getElem? (i := 25) rfl)
set_option maxRecDepth 100000 in
theorem dL_law_1590 : decode code 1590 = .ok (.invokevirtual 215, 3) := dl_9_ok (1590, (.invokevirtual 215, 3)) (List.mem_of_getElem? (i := 26) rfl)
set_option maxRecDepth 100000 in
theorem dL_law_1593 : decode code 1593 = .ok (.pop, 1) := dl_9_ok (1593, (.pop, 1)) (List.mem_of_getElem? (i := 27) rfl)
set_option maxRecDepth 100000 in
theorem dL_law_1594 : decode code 1594 = .ok (.aload_n 2, 1) := dl_9_ok (1594, (.aload_n 2, 1)) (List.mem_of_getElem? (i := 28) rfl)
set_option maxRecDepth 100000 in
theorem dL_law_1595 : decode code 1595 = .ok (.invokevirtual 218, 3) := dl_9_ok (1595, (.invokevirtual 218, 3)) (List.mem_of_getElem? (i := 29) rfl)
set_option maxRecDepth 100000 in
theorem dL_law_1598 : decode code 1598 = .ok (.pop, 1) := dl_9_ok (1598, (.pop, 1)) (List.mem_of_getElem? (i := 30) rfl)
set_option maxRecDepth 100000 in
theorem dL_law_1599 : decode code 1599 = .ok (.goto 1061, 3) := dl_9_ok (1599, (.goto 1061, 3)) (List.mem_of_getElem? (i := 31) rfl)
set_option maxRecDepth 100000 in
theorem dL_law_1602 : decode code 1602 = .ok (.aload_n 1, 1) := dl_9_ok (1602, (.aload_n 1, 1)) (List.mem_of_getElem? (i := 32) rfl)
set_option maxRecDepth 100000 in
theorem dL_law_1603 : decode code 1603 = .ok (.invokevirtual 219, 3) := dl_9_ok (1603, (.invokevirtual 219, 3)) (List.mem_of_getElem? (i := 33) rfl)
set_option maxRecDepth 100000 in
theorem dL_law_1606 : decode code 1606 = .ok (.pop, 1) := dl_9_ok (1606, (.pop, 1)) (List.mem_of_getElem? (i := 34) rfl)
set_option maxRecDepth 100000 in
theorem dL_law_1607 : decode code 1607 = .ok (.aload_n 2, 1) := dl_9_ok (1607, (.aload_n 2, 1)) (List.mem_of_getElem? (i := 35) rfl)
set_option maxRecDepth 100000 in
theorem dL_law_1608 : decode code 1608 = .ok (.invokevirtual 222, 3) := dl_9_ok (1608, (.invokevirtual 222, 3)) (List.mem_of_getElem? (i := 36) rfl)
set_option maxRecDepth 100000 in
theorem dL_law_1611 : decode code 1611 = .ok (.pop, 1) := dl_9_ok (1611, (.pop, 1)) (List.mem_of_getElem? (i := 37) rfl)
set_option maxRecDepth 100000 in
theorem dL_law_1612 : decode code 1612 = .ok (.goto 1048, 3) := dl_9_ok (1612, (.goto 1048, 3)) (List.mem_of_getElem? (i := 38) rfl)
set_option maxRecDepth 100000 in
theorem dL_law_1615 : decode code 1615 = .ok (.aload_n 1, 1) := dl_9_ok (1615, (.aload_n 1, 1)) (List.mem_of_getElem? (i := 39) rfl)
set_option maxRecDepth 100000 in
theorem dL_law_1616 : decode code 1616 = .ok (.aload_n 0, 1) := dl_9_ok (1616, (.aload_n 0, 1)) (List.mem_of_getElem? (i := 40) rfl)
set_option maxRecDepth 100000 in
theorem dL_law_1617 : decode code 1617 = .ok (.iload_n 3, 1) := dl_9_ok (1617, (.iload_n 3, 1)) (List.mem_of_getElem? (i := 41) rfl)
set_option maxRecDepth 100000 in
theorem dL_law_1618 : decode code 1618 = .ok (.iconst 1, 1) := dl_9_ok (1618, (.iconst 1, 1)) (List.mem_of_getElem? (i := 42) rfl)
set_option maxRecDepth 100000 in
theorem dL_law_1619 : decode code 1619 = .ok (.iadd, 1) := dl_9_ok (1619, (.iadd, 1)) (List.mem_of_getElem? (i := 43) rfl)
set_option maxRecDepth 100000 in
theorem dL_law_1620 : decode code 1620 = .ok (.iaload, 1) := dl_9_ok (1620, (.iaload, 1)) (List.mem_of_getElem? (i := 44) rfl)
set_option maxRecDepth 100000 in
theorem dL_law_1621 : decode code 1621 = .ok (.invokevirtual 223, 3) := dl_9_ok (1621, (.invokevirtual 223, 3)) (List.mem_of_getElem? (i := 45) rfl)
set_option maxRecDepth 100000 in
theorem dL_law_1624 : decode code 1624 = .ok (.pop, 1) := dl_9_ok (1624, (.pop, 1)) (List.mem_of_getElem? (i := 46) rfl)
set_option maxRecDepth 100000 in
theorem dL_law_1625 : decode code 1625 = .ok (.aload_n 2, 1) := dl_9_ok (1625, (.aload_n 2, 1)) (List.mem_of_getElem? (i := 47) rfl)
set_option maxRecDepth 100000 in
theorem dL_law_1626 : decode code 1626 = .ok (.aload_n 0, 1) := dl_9_ok (1626, (.aload_n 0, 1)) (List.mem_of_getElem? (i := 48) rfl)
set_option maxRecDepth 100000 in
theorem dL_law_1627 : decode code 1627 = .ok (.iload_n 3, 1) := dl_9_ok (1627, (.iload_n 3, 1)) (List.mem_of_getElem? (i := 49) rfl)
set_option maxRecDepth 100000 in
theorem dL_law_1628 : decode code 1628 = .ok (.iconst 1, 1) := dl_9_ok (1628, (.iconst 1, 1)) (List.mem_of_getElem? (i := 50) rfl)
set_option maxRecDepth 100000 in
theorem dL_law_1629 : decode code 1629 = .ok (.iadd, 1) := dl_9_ok (1629, (.iadd, 1)) (List.mem_of_getElem? (i := 51) rfl)
set_option maxRecDepth 100000 in
theorem dL_law_1630 : decode code 1630 = .ok (.iaload, 1) := dl_9_ok (1630, (.iaload, 1)) (List.mem_of_getElem? (i := 52) rfl)
set_option maxRecDepth 100000 in
theorem dL_law_1631 : decode code 1631 = .ok (.invokevirtual 226, 3) := dl_9_ok (1631, (.invokevirtual 226, 3)) (List.mem_of_getElem? (i := 53) rfl)
set_option maxRecDepth 100000 in
theorem dL_law_1634 : decode code 1634 = .ok (.pop, 1) := dl_9_ok (1634, (.pop, 1)) (List.mem_of_getElem? (i := 54) rfl)
set_option maxRecDepth 100000 in
theorem dL_law_1635 : decode code 1635 = .ok (.goto 1025, 3) := dl_9_ok (1635, (.goto 1025, 3)) (List.mem_of_getElem? (i := 55) rfl)
set_option maxRecDepth 100000 in
theorem dL_law_1638 : decode code 1638 = .ok (.aload_n 1, 1) := dl_9_ok (1638, (.aload_n 1, 1)) (List.mem_of_getElem? (i := 56) rfl)
set_option maxRecDepth 100000 in
theorem dL_law_1639 : decode code 1639 = .ok (.invokevirtual 227, 3) := dl_9_ok (1639, (.invokevirtual 227, 3)) (List.mem_of_getElem? (i := 57) rfl)
set_option maxRecDepth 100000 in
theorem dL_law_1642 : decode code 1642 = .ok (.pop, 1) := dl_9_ok (1642, (.pop, 1)) (List.mem_of_getElem? (i := 58) rfl)
set_option maxRecDepth 100000 in
theorem dL_law_1643 : decode code 1643 = .ok (.aload_n 2, 1) := dl_9_ok (1643, (.aload_n 2, 1)) (List.mem_of_getElem? (i := 59) rfl)
set_option maxRecDepth 100000 in
theorem dL_law_1644 : decode code 1644 = .ok (.invokevirtual 230, 3) := dl_9_ok (1644, (.invokevirtual 230, 3)) (List.mem_of_getElem? (i := 60) rfl)
set_option maxRecDepth 100000 in
theorem dL_law_1647 : decode code 1647 = .ok (.pop, 1) := dl_9_ok (1647, (.pop, 1)) (List.mem_of_getElem? (i := 61) rfl)
set_option maxRecDepth 100000 in
theorem dL_law_1648 : decode code 1648 = .ok (.goto 1012, 3) := dl_9_ok (1648, (.goto 1012, 3)) (List.mem_of_getElem? (i := 62) rfl)
set_option maxRecDepth 100000 in
theorem dL_law_1651 : decode code 1651 = .ok (.aload_n 1, 1) := dl_9_ok (1651, (.aload_n 1, 1)) (List.mem_of_getElem? (i := 63) rfl)
set_option maxRecDepth 100000 in
theorem dL_law_1652 : decode code 1652 = .ok (.aload_n 0, 1) := dl_9_ok (1652, (.aload_n 0, 1)) (List.mem_of_getElem? (i := 64) rfl)
set_option maxRecDepth 100000 in
theorem dL_law_1653 : decode code 1653 = .ok (.iload_n 3, 1) := dl_9_ok (1653, (.iload_n 3, 1)) (List.mem_of_getElem? (i := 65) rfl)
set_option maxRecDepth 100000 in
theorem dL_law_1654 : decode code 1654 = .ok (.iconst 1, 1) := dl_9_ok (1654, (.iconst 1, 1)) (List.mem_of_getElem? (i := 66) rfl)
set_option maxRecDepth 100000 in
theorem dL_law_1655 : decode code 1655 = .ok (.iadd, 1) := dl_9_ok (1655, (.iadd, 1)) (List.mem_of_getElem? (i := 67) rfl)
set_option maxRecDepth 100000 in
theorem dL_law_1656 : decode code 1656 = .ok (.iaload, 1) := dl_9_ok (1656, (.iaload, 1)) (List.mem_of_getElem? (i := 68) rfl)
set_option maxRecDepth 100000 in
theorem dL_law_1657 : decode code 1657 = .ok (.invokevirtual 231, 3) := dl_9_ok (1657, (.invokevirtual 231, 3)) (List.mem_of_getElem? (i := 69) rfl)
set_option maxRecDepth 100000 in
theorem dL_law_1660 : decode code 1660 = .ok (.pop, 1) := dl_9_ok (1660, (.pop, 1)) (List.mem_of_getElem? (i := 70) rfl)
set_option maxRecDepth 100000 in
theorem dL_law_1661 : decode code 1661 = .ok (.aload_n 2, 1) := dl_9_ok (1661, (.aload_n 2, 1)) (List.mem_of_getElem? (i := 71) rfl)
set_option maxRecDepth 100000 in
theorem dL_law_1662 : decode code 1662 = .ok (.aload_n 0, 1) := dl_9_ok (1662, (.aload_n 0, 1)) (List.mem_of_getElem? (i := 72) rfl)
set_option maxRecDepth 100000 in
theorem dL_law_1663 : decode code 1663 = .ok (.iload_n 3, 1) := dl_9_ok (1663, (.iload_n 3, 1)) (List.mem_of_getElem? (i := 73) rfl)
set_option maxRecDepth 100000 in
theorem dL_law_1664 : decode code 1664 = .ok (.iconst 1, 1) := dl_9_ok (1664, (.iconst 1, 1)) (List.mem_of_getElem? (i := 74) rfl)
set_option maxRecDepth 100000 in
theorem dL_law_1665 : decode code 1665 = .ok (.iadd, 1) := dl_9_ok (1665, (.iadd, 1)) (List.mem_of_getElem? (i := 75) rfl)
set_option maxRecDepth 100000 in
theorem dL_law_1666 : decode code 1666 = .ok (.iaload, 1) := dl_9_ok (1666, (.iaload, 1)) (List.mem_of_getElem? (i := 76) rfl)
set_option maxRecDepth 100000 in
theorem dL_law_1667 : decode code 1667 = .ok (.invokevirtual 234, 3) := dl_9_ok (1667, (.invokevirtual 234, 3)) (List.mem_of_getElem? (i := 77) rfl)
set_option maxRecDepth 100000 in
theorem dL_law_1670 : decode code 1670 = .ok (.pop, 1) := dl_9_ok (1670, (.pop, 1)) (List.mem_of_getElem? (i := 78) rfl)
set_option maxRecDepth 100000 in
theorem dL_law_1671 : decode code 1671 = .ok (.goto 989, 3) := dl_9_ok (1671, (.goto 989, 3)) (List.mem_of_getElem? (i := 79) rfl)
set_option maxRecDepth 100000 in
theorem dL_law_1674 : decode code 1674 = .ok (.aload_n 1, 1) := dl_9_ok (1674, (.aload_n 1, 1)) (List.mem_of_getElem? (i := 80) rfl)
set_option maxRecDepth 100000 in
theorem dL_law_1675 : decode code 1675 = .ok (.aload_n 0, 1) := dl_9_ok (1675, (.aload_n 0, 1)) (List.mem_of_getElem? (i := 81) rfl)
set_option maxRecDepth 100000 in
theorem dL_law_1676 : decode code 1676 = .ok (.iload_n 3, 1) := dl_9_ok (1676, (.iload_n 3, 1)) (List.mem_of_getElem? (i := 82) rfl)
set_option maxRecDepth 100000 in
theorem dL_law_1677 : decode code 1677 = .ok (.iconst 1, 1) := dl_9_ok (1677, (.iconst 1, 1)) (List.mem_of_getElem? (i := 83) rfl)
set_option maxRecDepth 100000 in
theorem dL_law_1678 : decode code 1678 = .ok (.iadd, 1) := dl_9_ok (1678, (.iadd, 1)) (List.mem_of_getElem? (i := 84) rfl)
set_option maxRecDepth 100000 in
theorem dL_law_1679 : decode code 1679 = .ok (.iaload, 1) := dl_9_ok (1679, (.iaload, 1)) (List.mem_of_getElem? (i := 85) rfl)
set_option maxRecDepth 100000 in
theorem dL_law_1680 : decode code 1680 = .ok (.invokevirtual 235, 3) := dl_9_ok (1680, (.invokevirtual 235, 3)) (List.mem_of_getElem? (i := 86) rfl)
set_option maxRecDepth 100000 in
theorem dL_law_1683 : decode code 1683 = .ok (.pop, 1) := dl_9_ok (1683, (.pop, 1)) (List.mem_of_getElem? (i := 87) rfl)
set_option maxRecDepth 100000 in
theorem dL_law_1684 : decode code 1684 = .ok (.aload_n 2, 1) := dl_9_ok (1684, (.aload_n 2, 1)) (List.mem_of_getElem? (i := 88) rfl)
set_option maxRecDepth 100000 in
theorem dL_law_1685 : decode code 1685 = .ok (.aload_n 0, 1) := dl_9_ok (1685, (.aload_n 0, 1)) (List.mem_of_getElem? (i := 89) rfl)
set_option maxRecDepth 100000 in
theorem dL_law_1686 : decode code 1686 = .ok (.iload_n 3, 1) := dl_9_ok (1686, (.iload_n 3, 1)) (List.mem_of_getElem? (i := 90) rfl)
set_option maxRecDepth 100000 in
theorem dL_law_1687 : decode code 1687 = .ok (.iconst 1, 1) := dl_9_ok (1687, (.iconst 1, 1)) (List.mem_of_getElem? (i := 91) rfl)
set_option maxRecDepth 100000 in
theorem dL_law_1688 : decode code 1688 = .ok (.iadd, 1) := dl_9_ok (1688, (.iadd, 1)) (List.mem_of_getElem? (i := 92) rfl)
set_option maxRecDepth 100000 in
theorem dL_law_1689 : decode code 1689 = .ok (.iaload, 1) := dl_9_ok (1689, (.iaload, 1)) (List.mem_of_getElem? (i := 93) rfl)
set_option maxRecDepth 100000 in
theorem dL_law_1690 : decode code 1690 = .ok (.invokevirtual 238, 3) := dl_9_ok (1690, (.invokevirtual 238, 3)) (List.mem_of_getElem? (i := 94) rfl)
set_option maxRecDepth 100000 in
theorem dL_law_1693 : decode code 1693 = .ok (.pop, 1) := dl_9_ok (1693, (.pop, 1)) (List.mem_of_getElem? (i := 95) rfl)
set_option maxRecDepth 100000 in
theorem dL_law_1694 : decode code 1694 = .ok (.goto 966, 3) := dl_9_ok (1694, (.goto 966, 3)) (List.mem_of_getElem? (i := 96) rfl)
set_option maxRecDepth 100000 in
theorem dL_law_1697 : decode code 1697 = .ok (.aload_n 1, 1) := dl_9_ok (1697, (.aload_n 1, 1)) (List.mem_of_getElem? (i := 97) rfl)
set_option maxRecDepth 100000 in
theorem dL_law_1698 : decode code 1698 = .ok (.invokevirtual 239, 3) := dl_9_ok (1698, (.invokevirtual 239, 3)) (List.mem_of_getElem? (i := 98) rfl)
set_option maxRecDepth 100000 in
theorem dL_law_1701 : decode code 1701 = .ok (.pop, 1) := dl_9_ok (1701, (.pop, 1)) (List.mem_of_getElem? (i := 99) rfl)
def dl_10 : List (Nat × (Instr × Nat)) := [(1702, (.aload_n 2, 1)), (1703, (.invokevirtual 242, 3)), (1706, (.pop, 1)), (1707, (.goto 953, 3)), (1710, (.aload_n 1, 1)), (1711, (.invokevirtual 243, 3)), (1714, (.pop, 1)), (1715, (.aload_n 2, 1)), (1716, (.invokevirtual 246, 3)), (1719, (.pop, 1)), (1720, (.goto 940, 3)), (1723, (.aload_n 1, 1)), (1724, (.aload_n 0, 1)), (1725, (.iload_n 3, 1)), (1726, (.iconst 1, 1)), (1727, (.iadd, 1)), (1728, (.iaload, 1)), (1729, (.aload_n 0, 1)), (1730, (.iload_n 3, 1)), (1731, (.iconst 2, 1)), (1732, (.iadd, 1)), (1733, (.iaload, 1)), (1734, (.invokevirtual 247, 3)), (1737, (.pop, 1)), (1738, (.aload_n 2, 1)), (1739, (.aload_n 0, 1)), (1740, (.iload_n 3, 1)), (1741, (.iconst 1, 1)), (1742, (.iadd, 1)), (1743, (.iaload, 1)), (1744, (.aload_n 0, 1)), (1745, (.iload_n 3, 1)), (1746, (.iconst 2, 1)), (1747, (.iadd, 1)), (1748, (.iaload, 1)), (1749, (.invokevirtual 250, 3)), (1752, (.pop, 1)), (1753, (.goto 907, 3)), (1756, (.aload_n 1, 1)), (1757, (.aload_n 0, 1)), (1758, (.iload_n 3, 1)), (1759, (.iconst 1, 1)), (1760, (.iadd, 1)), (1761, (.iaload, 1)), (1762, (.aload_n 0, 1)), (1763, (.iload_n 3, 1)), (1764, (.iconst 2, 1)), (1765, (.iadd, 1)), (1766, (.iaload, 1)), (1767, (.invokevirtual 251, 3)), (1770, (.pop, 1)), (1771, (.aload_n 2, 1)), (1772, (.aload_n 0, 1)), (1773, (.iload_n 3, 1)), (1774, (.iconst 1, 1)), (1775, (.iadd, 1)), (1776, (.iaload, 1)), (1777, (.aload_n 0, 1)), (1778, (.iload_n 3, 1)), (1779, (.iconst 2, 1)), (1780, (.iadd, 1)), (1781, (.iaload, 1)), (1782, (.invokevirtual 254, 3)), (1785, (.pop, 1)), (1786, (.goto 874, 3)), (1789, (.aload_n 1, 1)), (1790, (.aload_n 0, 1)), (1791, (.iload_n 3, 1)), (1792, (.iconst 1, 1)), (1793, (.iadd, 1)), (1794, (.iaload, 1)), (1795, (.aload_n 0, 1)), (1796, (.iload_n 3, 1)), (1797, (.iconst 2, 1)), (1798, (.iadd, 1)), (1799, (.iaload, 1)), (1800, (.invokevirtual 255, 3)), (1803, (.pop, 1)), (1804, (.aload_n 2, 1)), (1805, (.aload_n 0, 1)), (1806, (.iload_n 3, 1)), (1807, (.iconst 1, 1)), (1808, (.iadd, 1)), (1809, (.iaload, 1)), (1810, (.aload_n 0, 1)), (1811, (.iload_n 3, 1)), (1812, (.iconst 2, 1)), (1813, (.iadd, 1)), (1814, (.iaload, 1)), (1815, (.invokevirtual 258, 3)), (1818, (.pop, 1)), (1819, (.goto 841, 3)), (1822, (.aload_n 1, 1)), (1823, (.aload_n 0, 1)), (1824, (.iload_n 3, 1)), (1825, (.iconst 1, 1)), (1826, (.iadd, 1)), (1827, (.iaload, 1)), (1828, (.aload_n 0, 1)), (1829, (.iload_n 3, 1))]
set_option maxRecDepth 100000 in
theorem dl_10_ok : ∀ x ∈ dl_10, decode code x.1 = .ok x.2 := by decide +kernel
set_option maxRecDepth 100000 in
theorem dL_law_1702 : decode code 1702 = .ok (.aload_n 2, 1) := dl_10_ok (1702, (.aload_n 2, 1)) (List.mem_of_getElem? (i := 0) rfl)
set_option maxRecDepth 100000 in
theorem dL_law_1703 : decode code 1703 = .ok (.invokevirtual 242, 3) := dl_10_ok (1703, (.invokevirtual 242, 3)) (List.mem_of_getElem? (i := 1) rfl)
set_option maxRecDepth 100000 in
theorem dL_law_1706 : decode code 1706 = .ok (.pop, 1) := dl_10_ok (1706, (.pop, 1)) (List.mem_of_getElem? (i := 2) rfl)
set_option maxRecDepth 100000 in
theorem dL_law_1707 : decode code 1707 = .ok (.goto 953, 3) := dl_10_ok (1707, (.goto 953, 3)) (List.mem_of_getElem? (i := 3) rfl)
set_option maxRecDepth 100000 in
theorem dL_law_1710 : decode code 1710 = .ok (.aload_n 1, 1) := dl_10_ok (1710, (.aload_n 1, 1)) (List.mem_of_getElem? (i := 4) rfl)
set_option maxRecDepth 100000 in
theorem dL_law_1711 : decode code 1711 = .ok (.invokevirtual 243, 3) := dl_10_ok (1711, (.invokevirtual 243, 3)) (List.mem_of_getElem? (i := 5) rfl)
set_option maxRecDepth 100000 in
theorem dL_law_1714 : decode code 1714 = .ok (.pop, 1) := dl_10_ok (1714, (.pop, 1)) (List.mem_of_getElem? (i := 6) rfl)
set_option maxRecDepth 100000 in
theorem dL_law_1715 : decode code 1715 = .ok (.aload_n 2, 1) := dl_10_ok (1715, (.aload_n 2, 1)) (List.mem_of_getElem? (i := 7) rfl)
set_option maxRecDepth 100000 in
theorem dL_law_1716 : decode code 1716 = .ok (.invokevirtual 246, 3) := dl_10_ok (1716, (.invokevirtual 246, 3)) (List.mem_of_getElem? (i := 8) rfl)
set_option maxRecDepth 100000 in
theorem dL_law_1719 : decode code 1719 = .ok (.pop, 1) := dl_10_ok (1719, (.pop, 1)) (List.mem_of_getElem? (i := 9) rfl)
set_option maxRecDepth 100000 in
theorem dL_law_1720 : decode code 1720 = .ok (.goto 940, 3) := dl_10_ok (1720, (.goto 940, 3)) (List.mem_of_getElem? (i := 10) rfl)
set_option maxRecDepth 100000 in
theorem dL_law_1723 : decode code 1723 = .ok (.aload_n 1, 1) := dl_10_ok (1723, (.aload_n 1, 1)) (List.mem_of_getElem? (i := 11) rfl)
set_option maxRecDepth 100000 in
theorem dL_law_1724 : decode code 1724 = .ok (.aload_n 0, 1) := dl_10_ok (1724, (.aload_n 0, 1)) (List.mem_of_getElem? (i := 12) rfl)
set_option maxRecDepth 100000 in
theorem dL_law_1725 : decode code 1725 = .ok (.iload_n 3, 1) := dl_10_ok (1725, (.iload_n 3, 1)) (List.mem_of_getElem? (i := 13) rfl)
set_option maxRecDepth 100000 in
theorem dL_law_1726 : decode code 1726 = .ok (.iconst 1, 1) := dl_10_ok (1726, (.iconst 1, 1)) (List.mem_of_getElem? (i := 14) rfl)
set_option maxRecDepth 100000 in
theorem dL_law_1727 : decode code 1727 = .ok (.iadd, 1) := dl_10_ok (1727, (.iadd, 1)) (List.mem_of_getElem? (i := 15) rfl)
set_option maxRecDepth 100000 in
theorem dL_law_1728 : decode code 1728 = .ok (.iaload, 1) := dl_10_ok (1728, (.iaload, 1)) (List.mem_of_getElem? (i := 16) rfl)
set_option maxRecDepth 100000 in
theorem dL_law_1729 : decode code 1729 = .ok (.aload_n 0, 1) := dl_10_ok (1729, (.aload_n 0, 1)) (List.mem_of_getElem? (i := 17) rfl)
set_option maxRecDepth 100000 in
theorem dL_law_1730 : decode code 1730 = .ok (.iload_n 3, 1) := dl_10_ok (1730, (.iload_n 3, 1)) (List.mem_of_getElem? (i := 18) rfl)
set_option maxRecDepth 100000 in
theorem dL_law_1731 : decode code 1731 = .ok (.iconst 2, 1) := dl_10_ok (1731, (.iconst 2, 1)) (List.mem_of_getElem? (i := 19) rfl)
set_option maxRecDepth 100000 in
theorem dL_law_1732 : decode code 1732 = .ok (.iadd, 1) := dl_10_ok (1732, (.iadd, 1)) (List.mem_of_getElem? (i := 20) rfl)
set_option maxRecDepth 100000 in
theorem dL_law_1733 : decode code 1733 = .ok (.iaload, 1) := dl_10_ok (1733, (.iaload, 1)) (List.mem_of_getElem? (i := 21) rfl)
set_option maxRecDepth 100000 in
theorem dL_law_1734 : decode code 1734 = .ok (.invokevirtual 247, 3) := dl_10_ok (1734, (.invokevirtual 247, 3)) (List.mem_of_getElem? (i := 22) rfl)
set_option maxRecDepth 100000 in
theorem dL_law_1737 : decode code 1737 = .ok (.pop, 1) := dl_10_ok (1737, (.pop, 1)) (List.mem_of_getElem? (i := 23) rfl)
set_option maxRecDepth 100000 in
theorem dL_law_1738 : decode code 1738 = .ok (.aload_n 2, 1) := dl_10_ok (1738, (.aload_n 2, 1)) (List.mem_of_getElem? (i := 24) rfl)
set_option maxRecDepth 100000 in
theorem dL_law_1739 : decode code 1739 = .ok (.aload_n 0, 1) := dl_10_ok (1739, (.aload_n 0, 1)) (List.mem_of_getElem? (i := 25) rfl)
set_option maxRecDepth 100000 in
theorem dL_law_1740 : decode code 1740 = .ok (.iload_n 3, 1) := dl_10_ok (1740, (.iload_n 3, 1)) (List.mem_of_getElem? (i := 26) rfl)
set_option maxRecDepth 100000 in
theorem dL_law_1741 : decode code 1741 = .ok (.iconst 1, 1) := dl_10_ok (1741, (.iconst 1, 1)) (List.mem_of_getElem? (i := 27) rfl)
set_option maxRecDepth 100000 in
theorem dL_law_1742 : decode code 1742 = .ok (.iadd, 1) := dl_10_ok (1742, (.iadd, 1)) (List.mem_of_getElem? (i := 28) rfl)
set_option maxRecDepth 100000 in
theorem dL_law_1743 : decode code 1743 = .ok (.iaload, 1) := dl_10_ok (1743, (.iaload, 1)) (List.mem_of_getElem? (i := 29) rfl)
set_option maxRecDepth 100000 in
theorem dL_law_1744 : decode code 1744 = .ok (.aload_n 0, 1) := dl_10_ok (1744, (.aload_n 0, 1)) (List.mem_of_getElem? (i := 30) rfl)
set_option maxRecDepth 100000 in
theorem dL_law_1745 : decode code 1745 = .ok (.iload_n 3, 1) := dl_10_ok (1745, (.iload_n 3, 1)) (List.mem_of_getElem? (i := 31) rfl)
set_option maxRecDepth 100000 in
theorem dL_law_1746 : decode code 1746 = .ok (.iconst 2, 1) := dl_10_ok (1746, (.iconst 2, 1)) (List.mem_of_getElem? (i := 32) rfl)
set_option maxRecDepth 100000 in
theorem dL_law_1747 : decode code 1747 = .ok (.iadd, 1) := dl_10_ok (1747, (.iadd, 1)) (List.mem_of_getElem? (i := 33) rfl)
set_option maxRecDepth 100000 in
theorem dL_law_1748 : decode code 1748 = .ok (.iaload, 1) := dl_10_ok (1748, (.iaload, 1)) (List.mem_of_getElem? (i := 34) rfl)
set_option maxRecDepth 100000 in
theorem dL_law_1749 : decode code 1749 = .ok (.invokevirtual 250, 3) := dl_10_ok (1749, (.invokevirtual 250, 3)) (List.mem_of_getElem? (i := 35) rfl)
set_option maxRecDepth 100000 in
theorem dL_law_1752 : decode code 1752 = .ok (.pop, 1) := dl_10_ok (1752, (.pop, 1)) (List.mem_of_getElem? (i := 36) rfl)
set_option maxRecDepth 100000 in
theorem dL_law_1753 : decode code 1753 = .ok (.goto 907, 3) := dl_10_ok (1753, (.goto 907, 3)) (List.mem_of_getElem? (i := 37) rfl)
set_option maxRecDepth 100000 in
theorem dL_law_1756 : decode code 1756 = .ok (.aload_n 1, 1) := dl_10_ok (1756, (.aload_n 1, 1)) (List.mem_of_getElem? (i := 38) rfl)
set_option maxRecDepth 100000 in
theorem dL_law_1757 : decode code 1757 = .ok (.aload_n 0, 1) := dl_10_ok (1757, (.aload_n 0, 1)) (List.mem_of_getElem? (i := 39) rfl)
set_option maxRecDepth 100000 in
theorem dL_law_1758 : decode code 1758 = .ok (.iload_n 3, 1) := dl_10_ok (1758, (.iload_n 3, 1)) (List.mem_of_getElem? (i := 40) rfl)
set_option maxRecDepth 100000 in
theorem dL_law_1759 : decode code 1759 = .ok (.iconst 1, 1) := dl_10_ok (1759, (.iconst 1, 1)) (List.mem_of_getElem? (i := 41) rfl)
set_option maxRecDepth 100000 in
theorem dL_law_1760 : decode code 1760 = .ok (.iadd, 1) := dl_10_ok (1760, (.iadd, 1)) (List.mem_of_getElem? (i := 42) rfl)
set_option maxRecDepth 100000 in
theorem dL_law_1761 : decode code 1761 = .ok (.iaload, 1) := dl_10_ok (1761, (.iaload, 1)) (List.mem_of_getElem? (i := 43) rfl)
set_option maxRecDepth 100000 in
theorem dL_law_1762 : decode code 1762 = .ok (.aload_n 0, 1) := dl_10_ok (1762, (.aload_n 0, 1)) (List.mem_of_getElem? (i := 44) rfl)
set_option maxRecDepth 100000 in
theorem dL_law_1763 : decode code 1763 = .ok (.iload_n 3, 1) := dl_10_ok (1763, (.iload_n 3, 1)) (List.mem_of_getElem? (i := 45) rfl)
set_option maxRecDepth 100000 in
theorem dL_law_1764 : decode code 1764 = .ok (.iconst 2, 1) := dl_10_ok (1764, (.iconst 2, 1)) (List.mem_of_getElem? (i := 46) rfl)
set_option maxRecDepth 100000 in
theorem dL_law_1765 : decode code 1765 = .ok (.iadd, 1) := dl_10_ok (1765, (.iadd, 1)) (List.mem_of_getElem? (i := 47) rfl)
set_option maxRecDepth 100000 in
theorem dL_law_1766 : decode code 1766 = .ok (.iaload, 1) := dl_10_ok (1766, (.iaload, 1)) (List.mem_of_getElem? (i := 48) rfl)
set_option maxRecDepth 100000 in
theorem dL_law_1767 : decode code 1767 = .ok (.invokevirtual 251, 3) := dl_10_ok (1767, (.invokevirtual 251, 3)) (List.mem_of_getElem? (i := 49) rfl)
set_option maxRecDepth 100000 in
theorem dL_law_1770 : decode code 1770 = .ok (.pop, 1) := dl_10_ok (1770, (.pop, 1)) (List.mem_of_getElem? (i := 50) rfl)
set_option maxRecDepth 100000 in
theorem dL_law_1771 : decode code 1771 = .ok (.aload_n 2, 1) := dl_10_ok (1771, (.aload_n 2, 1)) (List.mem_of_getElem? (i := 51) rfl)
set_option maxRecDepth 100000 in
theorem dL_law_1772 : decode code 1772 = .ok (.aload_n 0, 1) := dl_10_ok (1772, (.aload_n 0, 1)) (List.mem_of_getElem? (i := 52) rfl)
set_option maxRecDepth 100000 in
theorem dL_law_1773 : decode code 1773 = .ok (.iload_n 3, 1) := dl_10_ok (1773, (.iload_n 3, 1)) (List.mem_of_getElem? (i := 53) rfl)
set_option maxRecDepth 100000 in
theorem dL_law_1774 : decode code 1774 = .ok (.iconst 1, 1) := dl_10_ok (1774, (.iconst 1, 1)) (List.mem_of_getElem? (i := 54) rfl)
set_option maxRecDepth 100000 in
theorem dL_law_1775 : decode code 1775 = .ok (.iadd, 1) := dl_10_ok (1775, (.iadd, 1)) (List.mem_of_getElem? (i := 55) rfl)
set_option maxRecDepth 100000 in
theorem dL_law_1776 : decode code 1776 = .ok (.iaload, 1) := dl_10_ok (1776, (.iaload, 1)) (List.mem_of_getElem? (i := 56) rfl)
set_option maxRecDepth 100000 in
theorem dL_law_1777 : decode code 1777 = .ok (.aload_n 0, 1) := dl_10_ok (1777, (.aload_n 0, 1)) (List.mem_of_getElem? (i := 57) rfl)
set_option maxRecDepth 100000 in
theorem dL_law_1778 : decode code 1778 = .ok (.iload_n 3, 1) := dl_10_ok (1778, (.iload_n 3, 1)) (List.mem_of_getElem? (i := 58) rfl)
set_option maxRecDepth 100000 in
theorem dL_law_1779 : decode code 1779 = .ok (.iconst 2, 1) := dl_10_ok (1779, (.iconst 2, 1)) (List.mem_of_getElem? (i := 59) rfl)
set_option maxRecDepth 100000 in
theorem dL_law_1780 : decode code 1780 = .ok (.iadd, 1) := dl_10_ok (1780, (.iadd, 1)) (List.mem_of_getElem? (i := 60) rfl)
set_option maxRecDepth 100000 in
theorem dL_law_1781 : decode code 1781 = .ok (.iaload, 1) := dl_10_ok (1781, (.iaload, 1)) (List.mem_of_getElem? (i := 61) rfl)
set_option maxRecDepth 100000 in
theorem dL_law_1782 : decode code 1782 = .ok (.invokevirtual 254, 3) := dl_10_ok (1782, (.invokevirtual 254, 3)) (List.mem_of_getElem? (i := 62) rfl)
set_option maxRecDepth 100000 in
theorem dL_law_1785 : decode code 1785 = .ok (.pop, 1) := dl_10_ok (1785, (.pop, 1)) (List.mem_of_getElem? (i := 63) rfl)
set_option maxRecDepth 100000 in
theorem dL_law_1786 : decode code 1786 = .ok (.goto 874, 3) := dl_10_ok (1786, (.goto 874, 3)) (List.mem_of_getElem? (i := 64) rfl)
set_option maxRecDepth 100000 in
theorem dL_law_1789 : decode code 1789 = .ok (.aload_n 1, 1) := dl_10_ok (1789, (.aload_n 1, 1)) (List.mem_of_getElem? (i := 65) rfl)
set_option maxRecDepth 100000 in
theorem dL_law_1790 : decode code 1790 = .ok (.aload_n 0, 1) := dl_10_ok (1790, (.aload_n 0, 1)) (List.mem_of_getElem? (i := 66) rfl)
set_option maxRecDepth 100000 in
theorem dL_law_1791 : decode code 1791 = .ok (.iload_n 3, 1) := dl_10_ok (1791, (.iload_n 3, 1)) (List.mem_of_getElem? (i := 67) rfl)
set_option maxRecDepth 100000 in
theorem dL_law_1792 : decode code 1792 = .ok (.iconst 1, 1) := dl_10_ok (1792, (.iconst 1, 1)) (List.mem_of_getElem? (i := 68) rfl)
set_option maxRecDepth 100000 in
theorem dL_law_1793 : decode code 1793 = .ok (.iadd, 1) := dl_10_ok (1793, (.iadd, 1)) (List.mem_of_getElem? (i := 69) rfl)
set_option maxRecDepth 100000 in
theorem dL_law_1794 : decode code 1794 = .ok (.iaload, 1) := dl_10_ok (1794, (.iaload, 1)) (List.mem_of_getElem? (i := 70) rfl)
set_option maxRecDepth 100000 in
theorem dL_law_1795 : decode code 1795 = .ok (.aload_n 0, 1) := dl_10_ok (1795, (.aload_n 0, 1)) (List.mem_of_getElem? (i := 71) rfl)
set_option maxRecDepth 100000 in
theorem dL_law_1796 : decode code 1796 = .ok (.iload_n 3, 1) := dl_10_ok (1796, (.iload_n 3, 1)) (List.mem_of_getElem? (i := 72) rfl)
set_option maxRecDepth 100000 in
theorem dL_law_1797 : decode code 1797 = .ok (.iconst 2, 1) := dl_10_ok (1797, (.iconst 2, 1)) (List.mem_of_getElem? (i := 73) rfl)
set_option maxRecDepth 100000 in
theorem dL_law_1798 : decode code 1798 = .ok (.iadd, 1) := dl_10_ok (1798, (.iadd, 1)) (List.mem_of_getElem? (i := 74) rfl)
set_option maxRecDepth 100000 in
theorem dL_law_1799 : decode code 1799 = .ok (.iaload, 1) := dl_10_ok (1799, (.iaload, 1)) (List.mem_of_getElem? (i := 75) rfl)
set_option maxRecDepth 100000 in
theorem dL_law_1800 : decode code 1800 = .ok (.invokevirtual 255, 3) := dl_10_ok (1800, (.invokevirtual 255, 3)) (List.mem_of_getElem? (i := 76) rfl)
set_option maxRecDepth 100000 in
theorem dL_law_1803 : decode code 1803 = .ok (.pop, 1) := dl_10_ok (1803, (.pop, 1)) (List.mem_of_getElem? (i := 77) rfl)
set_option maxRecDepth 100000 in
theorem dL_law_1804 : decode code 1804 = .ok (.aload_n 2, 1) := dl_10_ok (1804, (.aload_n 2, 1)) (List.mem_of_getElem? (i := 78) rfl)
set_option maxRecDepth 100000 in
theorem dL_law_1805 : decode code 1805 = .ok (.aload_n 0, 1) := dl_10_ok (1805, (.aload_n 0, 1)) (List.mem_of_getElem? (i := 79) rfl)
set_option maxRecDepth 100000 in
theorem dL_law_1806 : decode code 1806 = .ok (.iload_n 3, 1) := dl_10_ok (1806, (.iload_n 3, 1)) (List.mem_of_getElem? (i := 80) rfl)
set_option maxRecDepth 100000 in
theorem dL_law_1807 : decode code 1807 = .ok (.iconst 1, 1) := dl_10_ok (1807, (.iconst 1, 1)) (List.mem_of_getElem? (i := 81) rfl)
set_option maxRecDepth 100000 in
theorem dL_law_1808 : decode code 1808 = .ok (.iadd, 1) := dl_10_ok (1808, (.iadd, 1)) (List.mem_of_getElem? (i := 82) rfl)
set_option maxRecDepth 100000 in
theorem dL_law_1809 : decode code 1809 = .ok (.iaload, 1) := dl_10_ok (1809, (.iaload, 1)) (List.mem_of_getElem? (i := 83) rfl)
set_option maxRecDepth 100000 in
theorem dL_law_1810 : decode code 1810 = .ok (.aload_n 0, 1) := dl_10_ok (1810, (.aload_n 0, 1)) (List.mem_of_getElem? (i := 84) rfl)
set_option maxRecDepth 100000 in
theorem dL_law_1811 : decode code 1811 = .ok (.iload_n 3, 1) := dl_10_ok (1811, (.iload_n 3, 1)) (List.mem_of_getElem? (i := 85) rfl)
set_option maxRecDepth 100000 in
theorem dL_law_1812 : decode code 1812 = .ok (.iconst 2, 1) := dl_10_ok (1812, (.iconst 2, 1)) (List.mem_of_getElem? (i := 86) rfl)
set_option maxRecDepth 100000 in
theorem dL_law_1813 : decode code 1813 = .ok (.iadd, 1) := dl_10_ok (1813, (.iadd, 1)) (List.mem_of_getElem? (i := 87) rfl)
set_option maxRecDepth 100000 in
theorem dL_law_1814 : decode code 1814 = .ok (.iaload, 1) := dl_10_ok (1814, (.iaload, 1)) (List.mem_of_getElem? (i := 88) rfl)
set_option maxRecDepth 100000 in
theorem dL_law_1815 : decode code 1815 = .ok (.invokevirtual 258, 3) := dl_10_ok (1815, (.invokevirtual 258, 3)) (List.mem_of_getElem? (i := 89) rfl)
set_option maxRecDepth 100000 in
theorem dL_law_1818 : decode code 1818 = .ok (.pop, 1) := dl_10_ok (1818, (.pop, 1)) (List.mem_of_getElem? (i := 90) rfl)
set_option maxRecDepth 100000 in
theorem dL_law_1819 : decode code 1819 = .ok (.goto 841, 3) := dl_10_ok (1819, (.goto 841, 3)) (List.mem_of_getElem? (i := 91) rfl)
set_option maxRecDepth 100000 in
theorem dL_law_1822 : decode code 1822 = .ok (.aload_n 1, 1) := dl_10_ok (1822, (.aload_n 1, 1)) (List.mem_of_getElem? (i := 92) rfl)
set_option maxRecDepth 100000 in
theorem dL_law_1823 : decode code 1823 = .ok (.aload_n 0, 1) := dl_10_ok (1823, (.aload_n 0, 1)) (List.mem_of_getElem? (i := 93) rfl)
set_option maxRecDepth 100000 in
theorem dL_law_1824 : decode code 1824 = .ok (.iload_n 3, 1) := dl_10_ok (1824, (.iload_n 3, 1)) (List.mem_of_getElem? (i := 94) rfl)
set_option maxRecDepth 100000 in
theorem dL_law_1825 : decode code 1825 = .ok (.iconst 1, 1) := dl_10_ok (1825, (.iconst 1, 1)) (List.mem_of_getElem? (i := 95) rfl)
set_option maxRecDepth 100000 in
theorem dL_law_1826 : decode code 1826 = .ok (.iadd, 1) := dl_10_ok (1826, (.iadd, 1)) (List.mem_of_getElem? (i := 96) rfl)
set_option maxRecDepth 100000 in
theorem dL_law_1827 : decode code 1827 = .ok (.iaload, 1) := dl_10_ok (1827, (.iaload, 1)) (List.mem_of_getElem? (i := 97) rfl)
set_option maxRecDepth 100000 in
theorem dL_law_1828 : decode code 1828 = .ok (.aload_n 0, 1) := dl_10_ok (1828, (.aload_n 0, 1)) (List.mem_of_getElem? (i := 98) rfl)
set_option maxRecDepth 100000 in
theorem dL_law_1829 : decode code 1829 = .ok (.iload_n 3, 1) := dl_10_ok (1829, (.iload_n 3, 1)) (List.mem_of_getElem? (i := 99) rfl)
def dl_11 : List (Nat × (Instr × Nat)) := [(1830, (.iconst 2, 1)), (1831, (.iadd, 1)), (1832, (.iaload, 1)), (1833, (.invokevirtual 259, 3)), (1836, (.pop, 1)), (1837, (.aload_n 2, 1)), (1838, (.aload_n 0, 1)), (1839, (.iload_n 3, 1)), (1840, (.iconst 1, 1)), (1841, (.iadd, 1)), (1842, (.iaload, 1)), (1843, (.aload_n 0, 1)), (1844, (.iload_n 3, 1)), (1845, (.iconst 2, 1)), (1846, (.iadd, 1)), (1847, (.iaload, 1)), (1848, (.invokevirtual 262, 3)), (1851, (.pop, 1)), (1852, (.goto 808, 3)), (1855, (.aload_n 1, 1)), (1856, (.aload_n 0, 1)), (1857, (.iload_n 3, 1)), (1858, (.iconst 1, 1)), (1859, (.iadd, 1)), (1860, (.iaload, 1)), (1861, (.aload_n 0, 1)), (1862, (.iload_n 3, 1)), (1863, (.iconst 2, 1)), (1864, (.iadd, 1)), (1865, (.iaload, 1)), (1866, (.invokevirtual 263, 3)), (1869, (.pop, 1)), (1870, (.aload_n 2, 1)), (1871, (.aload_n 0, 1)), (1872, (.iload_n 3, 1)), (1873, (.iconst 1, 1)), (1874, (.iadd, 1)), (1875, (.iaload, 1)), (1876, (.aload_n 0, 1)), (1877, (.iload_n 3, 1)), (1878, (.iconst 2, 1)), (1879, (.iadd, 1)), (1880, (.iaload, 1)), (1881, (.invokevirtual 266, 3)), (1884, (.pop, 1)), (1885, (.goto 775, 3)), (1888, (.aload_n 1, 1)), (1889, (.aload_n 0, 1)), (1890, (.iload_n 3, 1)), (1891, (.iconst 1, 1)), (1892, (.iadd, 1)), (1893, (.iaload, 1)), (1894, (.invokevirtual 267, 3)), (1897, (.pop, 1)), (1898, (.aload_n 2, 1)), (1899, (.aload_n 0, 1)), (1900, (.iload_n 3, 1)), (1901, (.iconst 1, 1)), (1902, (.iadd, 1)), (1903, (.iaload, 1)), (1904, (.invokevirtual 270, 3)), (1907, (.pop, 1)), (1908, (.goto 752, 3)), (1911, (.aload_n 1, 1)), (1912, (.aload_n 0, 1)), (1913, (.iload_n 3, 1)), (1914, (.iconst 1, 1)), (1915, (.iadd, 1)), (1916, (.iaload, 1)), (1917, (.invokevirtual 271, 3)), (1920, (.pop, 1)), (1921, (.aload_n 2, 1)), (1922, (.aload_n 0, 1)), (1923, (.iload_n 3, 1)), (1924, (.iconst 1, 1)), (1925, (.iadd, 1)), (1926, (.iaload, 1)), (1927, (.invokevirtual 274, 3)), (1930, (.pop, 1)), (1931, (.goto 729, 3)), (1934, (.aload_n 1, 1)), (1935, (.aload_n 0, 1)), (1936, (.iload_n 3, 1)), (1937, (.iconst 1, 1)), (1938, (.iadd, 1)), (1939, (.iaload, 1)), (1940, (.invokevirtual 275, 3)), (1943, (.pop, 1)), (1944, (.aload_n 2, 1)), (1945, (.aload_n 0, 1)), (1946, (.iload_n 3, 1)), (1947, (.iconst 1, 1)), (1948, (.iadd, 1)), (1949, (.iaload, 1)), (1950, (.invokevirtual 278, 3)), (1953, (.pop, 1)), (1954, (.goto 706, 3)), (1957, (.aload_n 1, 1)), (1958, (.aload_n 0, 1)), (1959, (.iload_n 3, 1))]
set_option maxRecDepth 100000 in
theorem dl_11_ok : ∀ x ∈ dl_11, decode code x.1 = .ok x.2 := by decide +kernel
set_option maxRecDepth 100000 in
theorem dL_law_1830 : decode code 1830 = .ok (.iconst 2, 1) := dl_11_ok (1830, (.iconst 2, 1)) (List.mem_of_getElem? (i := 0) rfl)
set_option maxRecDepth 100000 in
theorem dL_law_1831 : decode code 1831 = .ok (.iadd, 1) := dl_11_ok (1831, (.iadd, 1)) (List.mem_of_getElem? (i := 1) rfl)
set_option maxRecDepth 100000 in
theorem dL_law_1832 : decode code 1832 = .ok (.iaload, 1) := dl_11_ok (1832, (.iaload, 1)) (List.mem_of_getElem? (i := 2) rfl)
set_option maxRecDepth 100000 in
theorem dL_law_1833 : decode code 1833 = .ok (.invokevirtual 259, 3) := dl_11_ok (1833, (.invokevirtual 259, 3)) (List.mem_of_getElem? (i := 3) rfl)
set_option maxRecDepth 100000 in
theorem dL_law_1836 : decode code 1836 = .ok (.pop, 1) := dl_11_ok (1836, (.pop, 1)) (List.mem_of_getElem? (i := 4) rfl)
set_option maxRecDepth 100000 in
theorem dL_law_1837 : decode code 1837 = .ok (.aload_n 2, 1) := dl_11_ok (1837, (.aload_n 2, 1)) (List.mem_of_getElem? (i := 5) rfl)
set_option maxRecDepth 100000 in
theorem dL_law_1838 : decode code 1838 = .ok (.aload_n 0, 1) := dl_11_ok (1838, (.aload_n 0, 1)) (List.mem_of_getElem? (i := 6) rfl)
set_option maxRecDepth 100000 in
theorem dL_law_1839 : decode code 1839 = .ok (.iload_n 3, 1) := dl_11_ok (1839, (.iload_n 3, 1)) (List.mem_of_getElem? (i := 7) rfl)
set_option maxRecDepth 100000 in
theorem dL_law_1840 : decode code 1840 = .ok (.iconst 1, 1) := dl_11_ok (1840, (.iconst 1, 1)) (List.mem_of_getElem? (i := 8) rfl)
set_option maxRecDepth 100000 in
theorem dL_law_1841 : decode code 1841 = .ok (.iadd, 1) := dl_11_ok (1841, (.iadd, 1)) (List.mem_of_getElem? (i := 9) rfl)
set_option maxRecDepth 100000 in
theorem dL_law_1842 : decode code 1842 = .ok (.iaload, 1) := dl_11_ok (1842, (.iaload, 1)) (List.mem_of_getElem? (i := 10) rfl)
set_option maxRecDepth 100000 in
theorem dL_law_1843 : decode code 1843 = .ok (.aload_n 0, 1) := dl_11_ok (1843, (.aload_n 0, 1)) (List.mem_of_getElem? (i := 11) rfl)
set_option maxRecDepth 100000 in
theorem dL_law_1844 : decode code 1844 = .ok (.iload_n 3, 1) := dl_11_ok (1844, (.iload_n 3, 1)) (List.mem_of_getElem? (i := 12) rfl)
set_option maxRecDepth 100000 in
theorem dL_law_1845 : decode code 1845 = .ok (.iconst 2, 1) := dl_11_ok (1845, (.iconst 2, 1)) (List.mem_of_getElem? (i := 13) rfl)
set_option maxRecDepth 100000 in
theorem dL_law_1846 : decode code 1846 = .ok (.iadd, 1) := dl_11_ok (1846, (.iadd, 1)) (List.mem_of_getElem? (i := 14) rfl)
set_option maxRecDepth 100000 in
theorem dL_law_1847 : decode code 1847 = .ok (.iaload, 1) := dl_11_ok (1847, (.iaload, 1)) (List.mem_of_getElem? (i := 15) rfl)
set_option maxRecDepth 100000 in
theorem dL_law_1848 : decode code 1848 = .ok (.invokevirtual 262, 3) := dl_11_ok (1848, (.invokevirtual 262, 3)) (List.mem_of_getElem? (i := 16) rfl)
set_option maxRecDepth 100000 in
theorem dL_law_1851 : decode code 1851 = .ok (.pop, 1) := dl_11_ok (1851, (.pop, 1)) (List.mem_of_getElem? (i := 17) rfl)
set_option maxRecDepth 100000 in
theorem dL_law_1852 : decode code 1852 = .ok (.goto 808, 3) := dl_11_ok (1852, (.goto 808, 3)) (List.mem_of_getElem? (i := 18) rfl)
set_option maxRecDepth 100000 in
theorem dL_law_1855 : decode code 1855 = .ok (.aload_n 1, 1) := dl_11_ok (1855, (.aload_n 1, 1)) (List.mem_of_getElem? (i := 19) rfl)
set_option maxRecDepth 100000 in
theorem dL_law_1856 : decode code 1856 = .ok (.aload_n 0, 1) := dl_11_ok (1856, (.aload_n 0, 1)) (List.mem_of_getElem? (i := 20) rfl)
set_option maxRecDepth 100000 in
theorem dL_law_1857 : decode code 1857 = .ok (.iload_n 3, 1) := dl_11_ok (1857, (.iload_n 3, 1)) (List.mem_of_getElem? (i := 21) rfl)
set_option maxRecDepth 100000 in
theorem dL_law_1858 : decode code 1858 = .ok (.iconst 1, 1) := dl_11_ok (1858, (.iconst 1, 1)) (List.mem_of_getElem? (i := 22) rfl)
set_option maxRecDepth 100000 in
theorem dL_law_1859 : decode code 1859 = .ok (.iadd, 1) := dl_11_ok (1859, (.iadd, 1)) (List.mem_of_getElem? (i := 23) rfl)
set_option maxRecDepth 100000 in
theorem dL_law_1860 : decode code 1860 = .ok (.iaload, 1) := dl_11_ok (1860, (.iaload, 1)) (List.mem_of_getElem? (i := 24) rfl)
set_option maxRecDepth 100000 in
theorem dL_law_1861 : decode code 1861 = .ok (.aload_n 0, 1) := dl_11_ok (1861, (.aload_n 0, 1)) (List.mem_of_getElem? (i := 25) rfl)
set_option maxRecDepth 100000 in
theorem dL_law_1862 : decode code 1862 = .ok (.iload_n 3, 1) := dl_11_ok (1862, (.iload_n 3, 1)) (List.mem_of_getElem? (i := 26) rfl)
set_option maxRecDepth 100000 in
theorem dL_law_1863 : decode code 1863 = .ok (.iconst 2, 1) := dl_11_ok (1863, (.iconst 2, 1)) (List.mem_of_getElem? (i := 27) rfl)
set_option maxRecDepth 100000 in
theorem dL_law_1864 : decode code 1864 = .ok (.iadd, 1) := dl_11_ok (1864, (.iadd, 1)) (List.mem_of_getElem? (i := 28) rfl)
set_option maxRecDepth 100000 in
theorem dL_law_1865 : decode code 1865 = .ok (.iaload, 1) := dl_11_ok (1865, (.iaload, 1)) (List.mem_of_getElem? (i := 29) rfl)
set_option maxRecDepth 100000 in
theorem dL_law_1866 : decode code 1866 = .ok (.invokevirtual 263, 3) := dl_11_ok (1866, (.invokevirtual 263, 3)) (List.mem_of_getElem? (i := 30) rfl)
set_option maxRecDepth 100000 in
theorem dL_law_1869 : decode code 1869 = .ok (.pop, 1) := dl_11_ok (1869, (.pop, 1)) (List.mem_of_getElem? (i := 31) rfl)
set_option maxRecDepth 100000 in
theorem dL_law_1870 : decode code 1870 = .ok (.aload_n 2, 1) := dl_11_ok (1870, (.aload_n 2, 1)) (List.mem_of_getElem? (i := 32) rfl)
set_option maxRecDepth 100000 in
theorem dL_law_1871 : decode code 1871 = .ok (.aload_n 0, 1) := dl_11_ok (1871, (.aload_n 0, 1)) (List.mem_of_getElem? (i := 33) rfl)
set_option maxRecDepth 100000 in
theorem dL_law_1872 : decode code 1872 = .ok (.iload_n 3, 1) := dl_11_ok (1872, (.iload_n 3, 1)) (List.mem_of_getElem? (i := 34) rfl)
set_option maxRecDepth 100000 in
theorem dL_law_1873 : decode code 1873 = .ok (.iconst 1, 1) := dl_11_ok (1873, (.iconst 1, 1)) (List.mem_of_getElem? (i := 35) rfl)
set_option maxRecDepth 100000 in
theorem dL_law_1874 : decode code 1874 = .ok (.iadd, 1) := dl_11_ok (1874, (.iadd, 1)) (List.mem_of_getElem? (i := 36) rfl)
set_option maxRecDepth 100000 in
theorem dL_law_1875 : decode code 1875 = .ok (.iaload, 1) := dl_11_ok (1875, (.iaload, 1)) (List.mem_of_getElem? (i := 37) rfl)
set_option maxRecDepth 100000 in
theorem dL_law_1876 : decode code 1876 = .ok (.aload_n 0, 1) := dl_11_ok (1876, (.aload_n 0, 1)) (List.mem_of_getElem? (i := 38) rfl)
set_option maxRecDepth 100000 in
theorem dL_law_1877 : decode code 1877 = .ok (.iload_n 3, 1) := dl_11_ok (1877, (.iload_n 3, 1)) (List.mem_of_getElem? (i := 39) rfl)
set_option maxRecDepth 100000 in
theorem dL_law_1878 : decode code 1878 = .ok (.iconst 2, 1) := dl_11_ok (1878, (.iconst 2, 1)) (List.mem_of_getElem? (i := 40) rfl)
set_option maxRecDepth 100000 in
theorem dL_law_1879 : decode code 1879 = .ok (.iadd, 1) := dl_11_ok (1879, (.iadd, 1)) (List.mem_of_getElem? (i := 41) rfl)
set_option maxRecDepth 100000 in
theorem dL_law_1880 : decode code 1880 = .ok (.iaload, 1) := dl_11_ok (1880, (.iaload, 1)) (List.mem_of_getElem? (i := 42) rfl)
set_option maxRecDepth 100000 in
theorem dL_law_1881 : decode code 1881 = .ok (.invokevirtual 266, 3) := dl_11_ok (1881, (.invokevirtual 266, 3)) (List.mem_of_getElem? (i := 43) rfl)
set_option maxRecDepth 100000 in
theorem dL_law_1884 : decode code 1884 = .ok (.pop, 1) := dl_11_ok (1884, (.pop, 1)) (List.mem_of_getElem? (i := 44) rfl)
set_option maxRecDepth 100000 in
theorem dL_law_1885 : decode code 1885 = .ok (.goto 775, 3) := dl_11_ok (1885, (.goto 775, 3)) (List.mem_of_getElem? (i := 45) rfl)
set_option maxRecDepth 100000 in
theorem dL_law_1888 : decode code 1888 = .ok (.aload_n 1, 1) := dl_11_ok (1888, (.aload_n 1, 1)) (List.mem_of_getElem? (i := 46) rfl)
set_option maxRecDepth 100000 in
theorem dL_law_1889 : decode code 1889 = .ok (.aload_n 0, 1) := dl_11_ok (1889, (.aload_n 0, 1)) (List.mem_of_getElem? (i := 47) rfl)
set_option maxRecDepth 100000 in
theorem dL_law_1890 : decode code 1890 = .ok (.iload_n 3, 1) := dl_11_ok (1890, (.iload_n 3, 1)) (List.mem_of_getElem? (i := 48) rfl)
set_option maxRecDepth 100000 in
theorem dL_law_1891 : decode code 1891 = .ok (.iconst 1, 1) := dl_11_ok (1891, (.iconst 1, 1)) (List.mem_of_getElem? (i := 49) rfl)
set_option maxRecDepth 100000 in
theorem dL_law_1892 : decode code 1892 = .ok (.iadd, 1) := dl_11_ok (1892, (.iadd, 1)) (List.mem_of_getElem? (i := 50) rfl)
set_option maxRecDepth 100000 in
theorem dL_law_1893 : decode code 1893 = .ok (.iaload, 1) := dl_11_ok (1893, (.iaload, 1)) (List.mem_of_getElem? (i := 51) rfl)
set_option maxRecDepth 100000 in
theorem dL_law_1894 : decode code 1894 = .ok (.invokevirtual 267, 3) := dl_11_ok (1894, (.invokevirtual 267, 3)) (List.mem_of_getElem? (i := 52) rfl)
set_option maxRecDepth 100000 in
theorem dL_law_1897 : decode code 1897 = .ok (.pop, 1) := dl_11_ok (1897, (.pop, 1)) (List.mem_of_getElem? (i := 53) rfl)
set_option maxRecDepth 100000 in
theorem dL_law_1898 : decode code 1898 = .ok (.aload_n 2, 1) := dl_11_ok (1898, (.aload_n 2, 1)) (List.mem_of_getElem? (i := 54) rfl)
set_option maxRecDepth 100000 in
theorem dL_law_1899 : decode code 1899 = .ok (.aload_n 0, 1) := dl_11_ok (1899, (.aload_n 0, 1)) (List.mem_of_getElem? (i := 55) rfl)
set_option maxRecDepth 100000 in
theorem dL_law_1900 : decode code 1900 = .ok (.iload_n 3, 1) := dl_11_ok (1900, (.iload_n 3, 1)) (List.mem_of_getElem? (i := 56) rfl)
set_option maxRecDepth 100000 in
theorem dL_law_1901 : decode code 1901 = .ok (.iconst 1, 1) := dl_11_ok (1901, (.iconst 1, 1)) (List.mem_of_getElem? (i := 57) rfl)
set_option maxRecDepth 100000 in
theorem dL_law_1902 : decode code 1902 = .ok (.iadd, 1) := dl_11_ok (1902, (.iadd, 1)) (List.mem_of_getElem? (i := 58) rfl)
set_option maxRecDepth 100000 in
theorem dL_law_1903 : decode code 1903 = .ok (.iaload, 1) := dl_11_ok (1903, (.iaload, 1)) (List.mem_of_getElem? (i := 59) rfl)
set_option maxRecDepth 100000 in
theorem dL_law_1904 : decode code 1904 = .ok (.invokevirtual 270, 3) := dl_11_ok (1904, (.invokevirtual 270, 3)) (List.mem_of_getElem? (i := 60) rfl)
set_option maxRecDepth 100000 in
theorem dL_law_1907 : decode code 1907 = .ok (.pop, 1) := dl_11_ok (1907, (.pop, 1)) (List.mem_of_getElem? (i := 61) rfl)
set_option maxRecDepth 100000 in
theorem dL_law_1908 : decode code 1908 = .ok (.goto 752, 3) := dl_11_ok (1908, (.goto 752, 3)) (List.mem_of_getElem? (i := 62) rfl)
set_option maxRecDepth 100000 in
theorem dL_law_1911 : decode code 1911 = .ok (.aload_n 1, 1) := dl_11_ok (1911, (.aload_n 1, 1)) (List.mem_of_getElem? (i := 63) rfl)
set_option maxRecDepth 100000 in
theorem dL_law_1912 : decode code 1912 = .ok (.aload_n 0, 1) := dl_11_ok (1912, (.aload_n 0, 1)) (List.mem_of_getElem? (i := 64) rfl)
set_option maxRecDepth 100000 in
theorem dL_law_1913 : decode code 1913 = .ok (.iload_n 3, 1) := dl_11_ok (1913, (.iload_n 3, 1)) (List.mem_of_getElem? (i := 65) rfl)
set_option maxRecDepth 100000 in
theorem dL_law_1914 : decode code 1914 = .ok (.iconst 1, 1) := dl_11_ok (1914, (.iconst 1, 1)) (List.mem_of_getElem? (i := 66) rfl)
set_option maxRecDepth 100000 in
theorem dL_law_1915 : decode code 1915 = .ok (.iadd, 1) := dl_11_ok (1915, (.iadd, 1)) (List.mem_of_getElem? (i := 67) rfl)
set_option maxRecDepth 100000 in
theorem dL_law_1916 : decode code 1916 = .ok (.iaload, 1) := dl_11_ok (1916, (.iaload, 1)) (List.mem_of_getElem? (i := 68) rfl)
set_option maxRecDepth 100000 in
theorem dL_law_1917 : decode code 1917 = .ok (.invokevirtual 271, 3) := dl_11_ok (1917, (.invokevirtual 271, 3)) (List.mem_of_getElem? (i := 69) rfl)
set_option maxRecDepth 100000 in
theorem dL_law_1920 : decode code 1920 = .ok (.pop, 1) := dl_11_ok (1920, (.pop, 1)) (List.mem_of_getElem? (i := 70) rfl)
set_option maxRecDepth 100000 in
theorem dL_law_1921 : decode code 1921 = .ok (.aload_n 2, 1) := dl_11_ok (1921, (.aload_n 2, 1)) (List.mem_of_getElem? (i := 71) rfl)
set_option maxRecDepth 100000 in
theorem dL_law_1922 : decode code 1922 = .ok (.aload_n 0, 1) := dl_11_ok (1922, (.aload_n 0, 1)) (List.mem_of_getElem? (i := 72) rfl)
set_option maxRecDepth 100000 in
theorem dL_law_1923 : decode code 1923 = .ok (.iload_n 3, 1) := dl_11_ok (1923, (.iload_n 3, 1)) (List.mem_of_getElem? (i := 73) rfl)
set_option maxRecDepth 100000 in
theorem dL_law_1924 : decode code 1924 = .ok (.iconst 1, 1) := dl_11_ok (1924, (.iconst 1, 1)) (List.mem_of_getElem? (i := 74) rfl)
set_option maxRecDepth 100000 in
theorem dL_law_1925 : decode code 1925 = .ok (.iadd, 1) := dl_11_ok (1925, (.iadd, 1)) (List.mem_of_getElem? (i := 75) rfl)
set_option maxRecDepth 100000 in
theorem dL_law_1926 : decode code 1926 = .ok (.iaload, 1) := dl_11_ok (1926, (.iaload, 1)) (List.mem_of_getElem? (i := 76) rfl)
set_option maxRecDepth 100000 in
theorem dL_law_1927 : decode code 1927 = .ok (.invokevirtual 274, 3) := dl_11_ok (1927, (.invokevirtual 274, 3)) (List.mem_of_getElem? (i := 77) rfl)
set_option maxRecDepth 100000 in
theorem dL_law_1930 : decode code 1930 = .ok (.pop, 1) := dl_11_ok (1930, (.pop, 1)) (List.mem_of_getElem? (i := 78) rfl)
set_option maxRecDepth 100000 in
theorem dL_law_1931 : decode code 1931 = .ok (.goto 729, 3) := dl_11_ok (1931, (.goto 729, 3)) (List.mem_of_getElem? (i := 79) rfl)
set_option maxRecDepth 100000 in
theorem dL_law_1934 : decode code 1934 = .ok (.aload_n 1, 1) := dl_11_ok (1934, (.aload_n 1, 1)) (List.mem_of_getElem? (i := 80) rfl)
set_option maxRecDepth 100000 in
theorem dL_law_1935 : decode code 1935 = .ok (.aload_n 0, 1) := dl_11_ok (1935, (.aload_n 0, 1)) (List.mem_of_getElem? (i := 81) rfl)
set_option maxRecDepth 100000 in
theorem dL_law_1936 : decode code 1936 = .ok (.iload_n 3, 1) := dl_11_ok (1936, (.iload_n 3, 1)) (List.mem_of_getElem? (i := 82) rfl)
set_option maxRecDepth 100000 in
theorem dL_law_1937 : decode code 1937 = .ok (.iconst 1, 1) := dl_11_ok (1937, (.iconst 1, 1)) (List.mem_of_getElem? (i := 83) rfl)
set_option maxRecDepth 100000 in
theorem dL_law_1938 : decode code 1938 = .ok (.iadd, 1) := dl_11_ok (1938, (.iadd, 1)) (List.mem_of_getElem? (i := 84) rfl)
set_option maxRecDepth 100000 in
theorem dL_law_1939 : decode code 1939 = .ok (.iaload, 1) := dl_11_ok (1939, (.iaload, 1)) (List.mem_of_getElem? (i := 85) rfl)
set_option maxRecDepth 100000 in
theorem dL_law_1940 : decode code 1940 = .ok (.invokevirtual 275, 3) := dl_11_ok (1940, (.invokevirtual 275, 3)) (List.mem_of_getElem? (i := 86) rfl)
set_option maxRecDepth 100000 in
theorem dL_law_1943 : decode code 1943 = .ok (.pop, 1) := dl_11_ok (1943, (.pop, 1)) (List.mem_of_getElem? (i := 87) rfl)
set_option maxRecDepth 100000 in
theorem dL_law_1944 : decode code 1944 = .ok (.aload_n 2, 1) := dl_11_ok (1944, (.aload_n 2, 1)) (List.mem_of_getElem? (i := 88) rfl)
set_option maxRecDepth 100000 in
theorem dL_law_1945 : decode code 1945 = .ok (.aload_n 0, 1) := dl_11_ok (1945, (.aload_n 0, 1)) (List.mem_of_getElem? (i := 89) rfl)
set_option maxRecDepth 100000 in
theorem dL_law_1946 : decode code 1946 = .ok (.iload_n 3, 1) := dl_11_ok (1946, (.iload_n 3, 1)) (List.mem_of_getElem? (i := 90) rfl)
set_option maxRecDepth 100000 in
theorem dL_law_1947 : decode code 1947 = .ok (.iconst 1, 1) := dl_11_ok (1947, (.iconst 1, 1)) (List.mem_of_getElem? (i := 91) rfl)
set_option maxRecDepth 100000 in
theorem dL_law_1948 : decode code 1948 = .ok (.iadd, 1) := dl_11_ok (1948, (.iadd, 1)) (List.mem_of_getElem? (i := 92) rfl)
set_option maxRecDepth 100000 in
theorem dL_law_1949 : decode code 1949 = .ok (.iaload, 1) := dl_11_ok (1949, (.iaload, 1)) (List.mem_of_getElem? (i := 93) rfl)
set_option maxRecDepth 100000 in
theorem dL_law_1950 : decode code 1950 = .ok (.invokevirtual 278, 3) := dl_11_ok (1950, (.invokevirtual 278, 3)) (List.mem_of_getElem? (i := 94) rfl)
set_option maxRecDepth 100000 in
theorem dL_law_1953 : decode code 1953 = .ok (.pop, 1) := dl_11_ok (1953, (.pop, 1)) (List.mem_of_getElem? (i := 95) rfl)
set_option maxRecDepth 100000 in
theorem dL_law_1954 : decode code 1954 = .ok (.goto 706, 3) := dl_11_ok (1954, (.goto 706, 3)) (List.mem_of_getElem? (i := 96) rfl)
set_option maxRecDepth 100000 in
theorem dL_law_1957 : decode code 1957 = .ok (.aload_n 1, 1) := dl_11_ok (1957, (.aload_n 1, 1)) (List.mem_of_getElem? (i := 97) rfl)
set_option maxRecDepth 100000 in
theorem dL_law_1958 : decode code 1958 = .ok (.aload_n 0, 1) := dl_11_ok (1958, (.aload_n 0, 1)) (List.mem_of_getElem? (i := 98) rfl)
set_option maxRecDepth 100000 in
theorem dL_law_1959 : decode code 1959 = .ok (.iload_n 3, 1) := dl_11_ok (1959, (.iload_n 3, 1)) (List.mem_of_getElem? (i := 99) rfl)
