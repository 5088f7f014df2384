set_option maxRecDepth 20000 in
theorem ggL_law_X12_landing : GoodIn wsL_law wsX12_landing := goodIn_r _ [699, 209, 700, 148, 701, 702, 703, 5, 704, 213, 214, 215, 705, 706, 707, 708, 709, 710, 711, 221, 222, 223, 1557, 1558, 1559, 1560, 1561, 1562, 1563, 1564, 1565, 1566, 1567, 1568, 1569, 1570, 1571, 1572, 1573, 1574, 1575, 1576, 1577, 1578, 1579, 1580, 1581, 1582, 1583, 1584, 1585, 1586, 1587, 1588, 1589, 1590, 1591, 1592, 1593, 1594, 1595, 1596, 1597, 1598, 1599, 1600, 1601, 1602, 1603, 1604, 1605, 1606, 1607, 1608, 1609] (by decide +kernel) (by decide +kernel)
set_option maxRecDepth 20000 in
theorem gL_law_X12_landing : GoodIn wsL_law (wsV RL 78 RX12 yX12_landing wsX12_landing) := goodIn_app (goodIn_of _ (by decide +kernel)) ggL_law_X12_landing
set_option maxRecDepth 20000 in
theorem ggL_law_X11_led : GoodIn wsL_law wsX11_led := goodIn_r _ [715, 15, 677, 529, 530, 56, 531, 517, 233, 234, 235, 14, 236, 237, 678, 679, 680, 681, 682, 683, 684, 685, 81, 83, 1550, 1551, 1552, 1553, 1554, 1555, 1556, 1610, 1611, 1612, 1613, 1614, 1615, 1616, 1617, 1618, 1619, 1620, 1621, 1622, 1623, 1624, 1625, 1626, 1627, 1628, 1674, 1675, 1676] (by decide +kernel) (by decide +kernel)
set_option maxRecDepth 20000 in
theorem gL_law_X11_led : GoodIn wsL_law (wsV RL 79 RX11 yX11_led wsX11_led) := goodIn_app (goodIn_of _ (by decide +kernel)) ggL_law_X11_led
set_option maxRecDepth 20000 in
theorem ggL_law_X12_led : GoodIn wsL_law wsX12_led := goodIn_r _ [719, 209, 148, 701, 702, 703, 5, 704, 213, 214, 215, 274, 275, 276, 277, 705, 706, 707, 1557, 1558, 1559, 1560, 1561, 1562, 1563, 1564, 1565, 1566, 1567, 1568, 1569, 1570, 1571, 1572, 1573, 1574, 1575, 1576, 1577, 1578, 1579, 1580, 1581, 1582, 1583, 1584, 1585, 1586, 1587, 1588, 1589, 1590, 1591, 1592, 1593, 1594, 1595, 1596, 1597, 1598, 1599, 1600, 1601, 1602, 1603, 1604, 1605, 1606, 1607, 1608, 1609] (by decide +kernel) (by decide +kernel)
set_option maxRecDepth 20000 in
theorem gL_law_X12_led : GoodIn wsL_law (wsV RL 82 RX12 yX12_led wsX12_led) := goodIn_app (goodIn_of _ (by decide +kernel)) ggL_law_X12_led
set_option maxRecDepth 20000 in
theorem ggL_law_X11_heat : GoodIn wsL_law wsX11_heat := goodIn_r _ [723, 15, 180, 181, 2, 182, 183, 184, 185, 186, 187, 233, 234, 235, 14, 236, 237, 201, 202, 203, 204, 1550, 1551, 1552, 1553, 1554, 1555, 1556, 1610, 1611, 1612, 1613, 1614, 1615, 1616, 1617, 1618, 1619, 1620, 1621, 1622, 1623, 1624, 1625, 1626, 1627, 1628, 1677, 1678, 1679, 1680, 1681, 1682, 1683] (by decide +kernel) (by decide +kernel)
set_option maxRecDepth 20000 in
theorem gL_law_X11_heat : GoodIn wsL_law (wsV RL 83 RX11 yX11_heat wsX11_heat) := goodIn_app (goodIn_of _ (by decide +kernel)) ggL_law_X11_heat
set_option maxRecDepth 20000 in
theorem ggL_law_X12_heat : GoodIn wsL_law wsX12_heat := goodIn_r _ [727, 209, 728, 729, 148, 213, 214, 5, 215, 216, 217, 218, 219, 220, 274, 275, 276, 277, 221, 222, 223, 1557, 1558, 1559, 1560, 1561, 1562, 1563, 1564, 1565, 1566, 1567, 1568, 1569, 1570, 1571, 1572, 1573, 1574, 1575, 1576, 1577, 1578, 1579, 1580, 1581, 1582, 1583, 1584, 1585, 1586, 1587, 1588, 1589, 1590, 1591, 1592, 1593, 1594, 1595, 1596, 1597, 1598, 1599, 1600, 1601, 1602, 1603, 1604, 1605, 1606, 1607, 1608, 1609] (by decide +kernel) (by decide +kernel)
set_option maxRecDepth 20000 in
theorem gL_law_X12_heat : GoodIn wsL_law (wsV RL 86 RX12 yX12_heat wsX12_heat) := goodIn_app (goodIn_of _ (by decide +kernel)) ggL_law_X12_heat
set_option maxRecDepth 20000 in
theorem ggL_law_X11_price : GoodIn wsL_law wsX11_price := goodIn_r _ [733, 15, 180, 181, 2, 182, 323, 324, 325, 183, 184, 185, 186, 187, 734, 514, 515, 56, 516, 517, 81, 83, 518, 519, 199, 520, 521, 522, 523, 735, 525, 526, 527, 528, 529, 530, 531, 201, 202, 203, 204, 1550, 1551, 1552, 1553, 1554, 1555, 1556, 1610, 1611, 1612, 1613, 1614, 1615, 1616, 1617, 1618, 1619, 1620, 1621, 1622, 1623, 1624, 1625, 1626, 1627, 1628, 1674, 1675, 1676] (by decide +kernel) (by decide +kernel)
set_option maxRecDepth 20000 in
theorem gL_law_X11_price : GoodIn wsL_law (wsV RL 87 RX11 yX11_price wsX11_price) := goodIn_app (goodIn_of _ (by decide +kernel)) ggL_law_X11_price
set_option maxRecDepth 20000 in
theorem ggL_law_X12_price : GoodIn wsL_law wsX12_price := goodIn_r _ [739, 209, 211, 148, 312, 313, 5, 314, 315, 213, 214, 215, 351, 352, 353, 354, 216, 217, 218, 219, 220, 1557, 1558, 1559, 1560, 1561, 1562, 1563, 1564, 1565, 1566, 1567, 1568, 1569, 1570, 1571, 1572, 1573, 1574, 1575, 1576, 1577, 1578, 1579, 1580, 1581, 1582, 1583, 1584, 1585, 1586, 1587, 1588, 1589, 1590, 1591, 1592, 1593, 1594, 1595, 1596, 1597, 1598, 1599, 1600, 1601, 1602, 1603, 1604, 1605, 1606, 1607, 1608, 1609] (by decide +kernel) (by decide +kernel)
set_option maxRecDepth 20000 in
theorem gL_law_X12_price : GoodIn wsL_law (wsV RL 90 RX12 yX12_price wsX12_price) := goodIn_app (goodIn_of _ (by decide +kernel)) ggL_law_X12_price
set_option maxRecDepth 20000 in
theorem ggL_law_X11_force : GoodIn wsL_law wsX11_force := goodIn_r _ [743, 15, 320, 321, 2, 322, 323, 324, 325, 180, 181, 182, 183, 184, 185, 186, 187, 339, 340, 341, 50, 342, 338, 73, 74, 75, 343, 344, 345, 346, 201, 202, 203, 204, 1550, 1551, 1552, 1553, 1554, 1555, 1556, 1610, 1611, 1612, 1613, 1614, 1615, 1616, 1617, 1618, 1619, 1620, 1621, 1622, 1623, 1624, 1625, 1626, 1627, 1628, 1670, 1671, 1672, 1673] (by decide +kernel) (by decide +kernel)
set_option maxRecDepth 20000 in
theorem gL_law_X11_force : GoodIn wsL_law (wsV RL 91 RX11 yX11_force wsX11_force) := goodIn_app (goodIn_of _ (by decide +kernel)) ggL_law_X11_force
set_option maxRecDepth 20000 in
theorem ggL_law_X12_force : GoodIn wsL_law wsX12_force := goodIn_r _ [747, 209, 148, 351, 352, 5, 353, 354, 213, 214, 215, 216, 217, 218, 219, 220, 1557, 1558, 1559, 1560, 1561, 1562, 1563, 1564, 1565, 1566, 1567, 1568, 1569, 1570, 1571, 1572, 1573, 1574, 1575, 1576, 1577, 1578, 1579, 1580, 1581, 1582, 1583, 1584, 1585, 1586, 1587, 1588, 1589, 1590, 1591, 1592, 1593, 1594, 1595, 1596, 1597, 1598, 1599, 1600, 1601, 1602, 1603, 1604, 1605, 1606, 1607, 1608, 1609] (by decide +kernel) (by decide +kernel)
set_option maxRecDepth 20000 in
theorem gL_law_X12_force : GoodIn wsL_law (wsV RL 94 RX12 yX12_force wsX12_force) := goodIn_app (goodIn_of _ (by decide +kernel)) ggL_law_X12_force
set_option maxRecDepth 20000 in
theorem ggL_law_X11_bill : GoodIn wsL_law wsX11_bill := goodIn_r _ [751, 232, 15, 660, 180, 181, 2, 182, 183, 184, 185, 186, 187, 677, 529, 530, 56, 531, 517, 752, 683, 684, 685, 81, 83, 735, 525, 526, 527, 528, 201, 202, 203, 204, 1550, 1551, 1552, 1553, 1554, 1555, 1556, 1610, 1611, 1612, 1613, 1614, 1615, 1616, 1617, 1618, 1619, 1620, 1621, 1622, 1623, 1624, 1625, 1626, 1627, 1628, 1674, 1675, 1676] (by decide +kernel) (by decide +kernel)
set_option maxRecDepth 20000 in
theorem gL_law_X11_bill : GoodIn wsL_law (wsV RL 95 RX11 yX11_bill wsX11_bill) := goodIn_app (goodIn_of _ (by decide +kernel)) ggL_law_X11_bill
