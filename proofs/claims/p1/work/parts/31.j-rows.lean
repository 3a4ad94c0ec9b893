set_option maxRecDepth 20000 in
theorem ggL_law_X12_rounds : GoodIn wsL_law wsX12_rounds := goodIn_r _ [1008, 174, 151, 139, 152, 1009, 1010, 150, 1011, 1012, 1013, 5, 1014, 594, 595, 596, 597, 590, 591, 592, 593, 598, 599, 600, 601, 521, 522, 523, 602, 603, 604, 605, 606, 607, 608, 609, 610, 611, 612, 613, 614, 615, 688, 689, 690, 691, 684, 685, 686, 687, 1596, 1597, 1598, 1599, 1600, 1601, 1602, 1603, 1604, 1605, 1606, 1607, 1608, 1609, 1610, 1611, 1612, 1613, 1614, 1615, 1616, 1617, 1618, 1619, 1620, 1621, 1622, 1623, 1624, 1625, 1626, 1627, 1628, 1629, 1630, 1631, 1632, 1633, 1634, 1635, 1636, 1637, 1638, 1639, 1640, 1641, 1642] rfl (by decide +kernel)
set_option maxRecDepth 20000 in
theorem gL_law_X12_rounds : GoodIn wsL_law (wsV RL 130 RX12 yX12_rounds wsX12_rounds) := goodIn_app (goodIn_of _ (by decide +kernel)) ggL_law_X12_rounds
set_option maxRecDepth 20000 in
theorem ggL_law_X11_parted : GoodIn wsL_law wsX11_parted := goodIn_r _ [1018, 48, 1577, 1578, 1579, 1580, 1581, 1582, 1583, 1584, 1585, 1586, 1587, 1588, 1589, 1590, 1591, 1592, 1593, 1594, 1595] rfl (by decide +kernel)
set_option maxRecDepth 20000 in
theorem gL_law_X11_parted : GoodIn wsL_law (wsV RL 131 RX11 yX11_parted wsX11_parted) := goodIn_app (goodIn_of _ (by decide +kernel)) ggL_law_X11_parted
set_option maxRecDepth 20000 in
theorem ggL_law_X12_parted : GoodIn wsL_law wsX12_parted := goodIn_r _ [1022, 174, 1010, 1009, 150, 510, 511, 5, 512, 1596, 1597, 1598, 1599, 1600, 1601, 1602, 1603, 1604, 1605, 1606, 1607, 1608, 1609, 1610, 1611, 1612, 1613, 1614, 1615, 1616, 1617, 1618, 1619, 1620, 1621, 1622, 1623, 1624, 1625, 1626, 1627, 1628, 1629, 1630, 1631, 1632, 1633, 1634, 1635, 1636, 1637, 1638, 1639, 1640, 1641, 1642] rfl (by decide +kernel)
set_option maxRecDepth 20000 in
theorem gL_law_X12_parted : GoodIn wsL_law (wsV RL 134 RX12 yX12_parted wsX12_parted) := goodIn_app (goodIn_of _ (by decide +kernel)) ggL_law_X12_parted
set_option maxRecDepth 20000 in
theorem ggL_law_X11_partedGood : GoodIn wsL_law wsX11_partedGood := goodIn_r _ [1026, 54, 1577, 1578, 1579, 1580, 1581, 1582, 1583, 1584, 1585, 1586, 1587, 1588, 1589, 1590, 1591, 1592, 1593, 1594, 1595] rfl (by decide +kernel)
set_option maxRecDepth 20000 in
theorem gL_law_X11_partedGood : GoodIn wsL_law (wsV RL 135 RX11 yX11_partedGood wsX11_partedGood) := goodIn_app (goodIn_of _ (by decide +kernel)) ggL_law_X11_partedGood
set_option maxRecDepth 20000 in
theorem ggL_law_X12_partedGood : GoodIn wsL_law wsX12_partedGood := goodIn_r _ [1030, 174, 152, 1596, 1597, 1598, 1599, 1600, 1601, 1602, 1603, 1604, 1605, 1606, 1607, 1608, 1609, 1610, 1611, 1612, 1613, 1614, 1615, 1616, 1617, 1618, 1619, 1620, 1621, 1622, 1623, 1624, 1625, 1626, 1627, 1628, 1629, 1630, 1631, 1632, 1633, 1634, 1635, 1636, 1637, 1638, 1639, 1640, 1641, 1642] rfl (by decide +kernel)
set_option maxRecDepth 20000 in
theorem gL_law_X12_partedGood : GoodIn wsL_law (wsV RL 138 RX12 yX12_partedGood wsX12_partedGood) := goodIn_app (goodIn_of _ (by decide +kernel)) ggL_law_X12_partedGood
set_option maxRecDepth 20000 in
theorem ggL_law_X11_tracks : GoodIn wsL_law wsX11_tracks := goodIn_r _ [1034, 16, 20, 1035, 1036, 1037, 19, 1038, 294, 1039, 1040, 1041, 15, 1042, 169, 61, 643, 644, 645, 646, 292, 1043, 1044, 1045, 1046, 72, 74, 887, 822, 823, 76, 824, 386, 387, 388, 1577, 1578, 1579, 1580, 1581, 1582, 1583, 1584, 1585, 1586, 1587, 1588, 1589, 1590, 1591, 1592, 1593, 1594, 1595, 1643, 1644, 1645, 1646, 1647, 1648, 1649, 1650, 1651, 1652, 1653, 1654, 1655, 1656, 1657, 1658, 1659, 1660, 1661, 1662, 1663, 1664, 1665, 1666, 1667, 1668, 1669, 1701, 1702, 1703, 1704, 1705, 1706, 1707, 1692, 1693, 1694, 1695, 1696, 1697, 1698, 1699, 1700] rfl (by decide +kernel)
set_option maxRecDepth 20000 in
theorem gL_law_X11_tracks : GoodIn wsL_law (wsV RL 139 RX11 yX11_tracks wsX11_tracks) := goodIn_app (goodIn_of _ (by decide +kernel)) ggL_law_X11_tracks
set_option maxRecDepth 20000 in
theorem ggL_law_X12_tracks : GoodIn wsL_law wsX12_tracks := goodIn_r _ [1050, 174, 138, 139, 432, 433, 434, 5, 435, 175, 510, 511, 512, 655, 656, 657, 658, 854, 855, 856, 857, 598, 599, 600, 601, 521, 522, 523, 609, 610, 611, 1596, 1597, 1598, 1599, 1600, 1601, 1602, 1603, 1604, 1605, 1606, 1607, 1608, 1609, 1610, 1611, 1612, 1613, 1614, 1615, 1616, 1617, 1618, 1619, 1620, 1621, 1622, 1623, 1624, 1625, 1626, 1627, 1628, 1629, 1630, 1631, 1632, 1633, 1634, 1635, 1636, 1637, 1638, 1639, 1640, 1641, 1642] rfl (by decide +kernel)
set_option maxRecDepth 20000 in
theorem gL_law_X12_tracks : GoodIn wsL_law (wsV RL 142 RX12 yX12_tracks wsX12_tracks) := goodIn_app (goodIn_of _ (by decide +kernel)) ggL_law_X12_tracks
set_option maxRecDepth 20000 in
theorem ggL_law_X11_votes : GoodIn wsL_law wsX11_votes := goodIn_r _ [1054, 20, 643, 644, 645, 19, 646, 292, 1055, 1056, 1057, 1058, 293, 72, 1577, 1578, 1579, 1580, 1581, 1582, 1583, 1584, 1585, 1586, 1587, 1588, 1589, 1590, 1591, 1592, 1593, 1594, 1595, 1658, 1659, 1660, 1661, 1662, 1663, 1664, 1665, 1666, 1667, 1668, 1669, 1692, 1693, 1694, 1695, 1696, 1697, 1698, 1699, 1700] rfl (by decide +kernel)
set_option maxRecDepth 20000 in
theorem gL_law_X11_votes : GoodIn wsL_law (wsV RL 143 RX11 yX11_votes wsX11_votes) := goodIn_app (goodIn_of _ (by decide +kernel)) ggL_law_X11_votes
set_option maxRecDepth 20000 in
theorem ggL_law_X12_votes : GoodIn wsL_law wsX12_votes := goodIn_r _ [1062, 174, 655, 656, 657, 5, 658, 139, 510, 511, 512, 1063, 1064, 1065, 1066, 590, 591, 592, 593, 684, 685, 686, 687, 1596, 1597, 1598, 1599, 1600, 1601, 1602, 1603, 1604, 1605, 1606, 1607, 1608, 1609, 1610, 1611, 1612, 1613, 1614, 1615, 1616, 1617, 1618, 1619, 1620, 1621, 1622, 1623, 1624, 1625, 1626, 1627, 1628, 1629, 1630, 1631, 1632, 1633, 1634, 1635, 1636, 1637, 1638, 1639, 1640, 1641, 1642] rfl (by decide +kernel)
set_option maxRecDepth 20000 in
theorem gL_law_X12_votes : GoodIn wsL_law (wsV RL 146 RX12 yX12_votes wsX12_votes) := goodIn_app (goodIn_of _ (by decide +kernel)) ggL_law_X12_votes
set_option maxRecDepth 20000 in
theorem ggL_law_X11_against : GoodIn wsL_law wsX11_against := goodIn_r _ [1070, 20, 643, 644, 645, 19, 646, 292, 1055, 1056, 1057, 1058, 293, 72, 1577, 1578, 1579, 1580, 1581, 1582, 1583, 1584, 1585, 1586, 1587, 1588, 1589, 1590, 1591, 1592, 1593, 1594, 1595, 1658, 1659, 1660, 1661, 1662, 1663, 1664, 1665, 1666, 1667, 1668, 1669, 1692, 1693, 1694, 1695, 1696, 1697, 1698, 1699, 1700] rfl (by decide +kernel)
set_option maxRecDepth 20000 in
theorem gL_law_X11_against : GoodIn wsL_law (wsV RL 147 RX11 yX11_against wsX11_against) := goodIn_app (goodIn_of _ (by decide +kernel)) ggL_law_X11_against
set_option maxRecDepth 20000 in
theorem ggL_law_X12_against : GoodIn wsL_law wsX12_against := goodIn_r _ [1074, 174, 655, 656, 657, 5, 658, 139, 510, 511, 512, 1063, 1064, 1065, 1066, 590, 591, 592, 593, 684, 685, 686, 687, 1596, 1597, 1598, 1599, 1600, 1601, 1602, 1603, 1604, 1605, 1606, 1607, 1608, 1609, 1610, 1611, 1612, 1613, 1614, 1615, 1616, 1617, 1618, 1619, 1620, 1621, 1622, 1623, 1624, 1625, 1626, 1627, 1628, 1629, 1630, 1631, 1632, 1633, 1634, 1635, 1636, 1637, 1638, 1639, 1640, 1641, 1642] rfl (by decide +kernel)
set_option maxRecDepth 20000 in
theorem gL_law_X12_against : GoodIn wsL_law (wsV RL 150 RX12 yX12_against wsX12_against) := goodIn_app (goodIn_of _ (by decide +kernel)) ggL_law_X12_against
set_option maxRecDepth 20000 in
theorem ggL_law_X11_missed : GoodIn wsL_law wsX11_missed := goodIn_r _ [1078, 20, 643, 644, 645, 19, 646, 292, 1055, 1056, 1057, 1058, 293, 72, 1577, 1578, 1579, 1580, 1581, 1582, 1583, 1584, 1585, 1586, 1587, 1588, 1589, 1590, 1591, 1592, 1593, 1594, 1595, 1658, 1659, 1660, 1661, 1662, 1663, 1664, 1665, 1666, 1667, 1668, 1669, 1692, 1693, 1694, 1695, 1696, 1697, 1698, 1699, 1700] rfl (by decide +kernel)
set_option maxRecDepth 20000 in
theorem gL_law_X11_missed : GoodIn wsL_law (wsV RL 151 RX11 yX11_missed wsX11_missed) := goodIn_app (goodIn_of _ (by decide +kernel)) ggL_law_X11_missed
