set_option maxRecDepth 20000 in
theorem ggL_law_X12_meets : GoodIn wsL_law wsX12_meets := goodIn_r _ [903, 174, 582, 583, 584, 5, 585, 139, 510, 511, 512, 904, 905, 906, 907, 598, 599, 600, 601, 521, 522, 523, 1596, 1597, 1598, 1599, 1600, 1601, 1602, 1603, 1604, 1605, 1606, 1607, 1608, 1609, 1610, 1611, 1612, 1613, 1614, 1615, 1616, 1617, 1618, 1619, 1620, 1621, 1622, 1623, 1624, 1625, 1626, 1627, 1628, 1629, 1630, 1631, 1632, 1633, 1634, 1635, 1636, 1637, 1638, 1639, 1640, 1641, 1642] rfl (by decide +kernel)
set_option maxRecDepth 20000 in
theorem gL_law_X12_meets : GoodIn wsL_law (wsV RL 107 RX12 yX12_meets wsX12_meets) := goodIn_app (goodIn_of _ (by decide +kernel)) ggL_law_X12_meets
set_option maxRecDepth 20000 in
theorem ggL_law_X11_best : GoodIn wsL_law wsX11_best := goodIn_r _ [911, 20, 55, 56, 643, 644, 645, 19, 646, 292, 667, 668, 669, 670, 293, 72, 671, 556, 557, 558, 69, 559, 560, 561, 562, 294, 70, 74, 563, 564, 565, 76, 566, 387, 388, 367, 2, 368, 567, 568, 569, 570, 571, 572, 573, 574, 575, 576, 577, 912, 913, 914, 915, 916, 917, 918, 1577, 1578, 1579, 1580, 1581, 1582, 1583, 1584, 1585, 1586, 1587, 1588, 1589, 1590, 1591, 1592, 1593, 1594, 1595, 1658, 1659, 1660, 1661, 1662, 1663, 1664, 1665, 1666, 1667, 1668, 1669, 1692, 1693, 1694, 1695, 1696, 1697, 1698, 1699, 1700, 1701, 1702, 1703, 1704, 1705, 1706, 1707] rfl (by decide +kernel)
set_option maxRecDepth 20000 in
theorem gL_law_X11_best : GoodIn wsL_law (wsV RL 108 RX11 yX11_best wsX11_best) := goodIn_app (goodIn_of _ (by decide +kernel)) ggL_law_X11_best
set_option maxRecDepth 20000 in
theorem ggL_law_X12_best : GoodIn wsL_law wsX12_best := goodIn_r _ [922, 174, 139, 148, 149, 655, 656, 657, 5, 658, 510, 511, 512, 688, 689, 690, 691, 684, 685, 686, 687, 594, 595, 596, 597, 590, 591, 592, 593, 598, 599, 600, 601, 521, 522, 523, 602, 603, 604, 605, 606, 607, 608, 609, 610, 611, 612, 613, 614, 615, 1596, 1597, 1598, 1599, 1600, 1601, 1602, 1603, 1604, 1605, 1606, 1607, 1608, 1609, 1610, 1611, 1612, 1613, 1614, 1615, 1616, 1617, 1618, 1619, 1620, 1621, 1622, 1623, 1624, 1625, 1626, 1627, 1628, 1629, 1630, 1631, 1632, 1633, 1634, 1635, 1636, 1637, 1638, 1639, 1640, 1641, 1642] rfl (by decide +kernel)
set_option maxRecDepth 20000 in
theorem gL_law_X12_best : GoodIn wsL_law (wsV RL 111 RX12 yX12_best wsX12_best) := goodIn_app (goodIn_of _ (by decide +kernel)) ggL_law_X12_best
set_option maxRecDepth 20000 in
theorem ggL_law_X11_bestAt : GoodIn wsL_law wsX11_bestAt := goodIn_r _ [926, 55, 56, 1577, 1578, 1579, 1580, 1581, 1582, 1583, 1584, 1585, 1586, 1587, 1588, 1589, 1590, 1591, 1592, 1593, 1594, 1595] rfl (by decide +kernel)
set_option maxRecDepth 20000 in
theorem gL_law_X11_bestAt : GoodIn wsL_law (wsV RL 112 RX11 yX11_bestAt wsX11_bestAt) := goodIn_app (goodIn_of _ (by decide +kernel)) ggL_law_X11_bestAt
set_option maxRecDepth 20000 in
theorem ggL_law_X12_bestAt : GoodIn wsL_law wsX12_bestAt := goodIn_r _ [930, 174, 148, 149, 1596, 1597, 1598, 1599, 1600, 1601, 1602, 1603, 1604, 1605, 1606, 1607, 1608, 1609, 1610, 1611, 1612, 1613, 1614, 1615, 1616, 1617, 1618, 1619, 1620, 1621, 1622, 1623, 1624, 1625, 1626, 1627, 1628, 1629, 1630, 1631, 1632, 1633, 1634, 1635, 1636, 1637, 1638, 1639, 1640, 1641, 1642] rfl (by decide +kernel)
set_option maxRecDepth 20000 in
theorem gL_law_X12_bestAt : GoodIn wsL_law (wsV RL 115 RX12 yX12_bestAt wsX12_bestAt) := goodIn_app (goodIn_of _ (by decide +kernel)) ggL_law_X12_bestAt
set_option maxRecDepth 20000 in
theorem ggL_law_X11_fences : GoodIn wsL_law wsX11_fences := goodIn_r _ [934, 21, 20, 377, 378, 379, 19, 380, 292, 293, 294, 79, 295, 296, 297, 68, 69, 70, 72, 74, 381, 382, 383, 76, 384, 385, 386, 387, 388, 389, 390, 391, 392, 393, 394, 395, 396, 78, 397, 398, 399, 400, 401, 402, 403, 404, 935, 936, 914, 937, 938, 668, 669, 670, 671, 556, 557, 558, 559, 560, 561, 562, 563, 564, 565, 566, 367, 2, 368, 567, 568, 569, 570, 571, 572, 573, 574, 575, 576, 577, 1577, 1578, 1579, 1580, 1581, 1582, 1583, 1584, 1585, 1586, 1587, 1588, 1589, 1590, 1591, 1592, 1593, 1594, 1595, 1658, 1659, 1660, 1661, 1662, 1663, 1664, 1665, 1666, 1667, 1668, 1669, 1692, 1693, 1694, 1695, 1696, 1697, 1698, 1699, 1700, 1701, 1702, 1703, 1704, 1705, 1706, 1707] rfl (by decide +kernel)
set_option maxRecDepth 20000 in
theorem gL_law_X11_fences : GoodIn wsL_law (wsV RL 116 RX11 yX11_fences wsX11_fences) := goodIn_app (goodIn_of _ (by decide +kernel)) ggL_law_X11_fences
set_option maxRecDepth 20000 in
theorem ggL_law_X12_fences : GoodIn wsL_law wsX12_fences := goodIn_r _ [942, 174, 139, 688, 689, 690, 5, 691, 684, 685, 686, 687, 594, 595, 596, 597, 590, 591, 592, 593, 598, 599, 600, 601, 521, 522, 523, 602, 603, 604, 605, 606, 607, 608, 609, 610, 611, 612, 613, 614, 615, 1596, 1597, 1598, 1599, 1600, 1601, 1602, 1603, 1604, 1605, 1606, 1607, 1608, 1609, 1610, 1611, 1612, 1613, 1614, 1615, 1616, 1617, 1618, 1619, 1620, 1621, 1622, 1623, 1624, 1625, 1626, 1627, 1628, 1629, 1630, 1631, 1632, 1633, 1634, 1635, 1636, 1637, 1638, 1639, 1640, 1641, 1642] rfl (by decide +kernel)
set_option maxRecDepth 20000 in
theorem gL_law_X12_fences : GoodIn wsL_law (wsV RL 119 RX12 yX12_fences wsX12_fences) := goodIn_app (goodIn_of _ (by decide +kernel)) ggL_law_X12_fences
set_option maxRecDepth 20000 in
theorem ggL_law_L_risk : GoodIn wsL_law wsL_risk := goodIn_ca (goodIn_r _ [945, 544, 946, 947, 948, 2, 949, 549, 550, 20, 551, 552, 553, 19, 554, 293, 950, 951, 914, 952, 953, 954, 955, 956, 822, 823, 76, 824, 386, 387, 388, 957, 958, 959, 960, 961, 962, 963, 718, 719, 720, 964, 965, 966, 967, 968, 969, 970, 971, 1577, 1578, 1579, 1580, 1581, 1582, 1583, 1584, 1585, 1586, 1587, 1588, 1589, 1590, 1591, 1592, 1593, 1594, 1595, 1658, 1659, 1660, 1661, 1662, 1663, 1664, 1665, 1666, 1667, 1668, 1669, 1692, 1693, 1694, 1695, 1696, 1697, 1698, 1699, 1700, 1701, 1702, 1703, 1704, 1705, 1706, 1707] rfl (by decide +kernel)) (goodIn_sub (fun _ h => List.mem_append_right _ h) (by decide +kernel))
set_option maxRecDepth 20000 in
theorem gL_law_L_risk : GoodIn wsL_law (va_wsS RL 120 yL_risk wsL_risk) := goodIn_app (goodIn_of _ (by decide +kernel)) ggL_law_L_risk
set_option maxRecDepth 20000 in
theorem ggL_law_X12_risk : GoodIn wsL_law wsX12_risk := goodIn_r _ [975, 174, 976, 977, 582, 583, 584, 5, 585, 139, 510, 511, 512, 590, 591, 592, 593, 978, 979, 980, 981, 849, 982, 605, 606, 607, 608, 609, 610, 611, 598, 599, 600, 601, 521, 522, 523, 863, 864, 865, 866, 684, 685, 686, 687, 854, 855, 856, 857, 983, 984, 985, 586, 587, 588, 589, 1596, 1597, 1598, 1599, 1600, 1601, 1602, 1603, 1604, 1605, 1606, 1607, 1608, 1609, 1610, 1611, 1612, 1613, 1614, 1615, 1616, 1617, 1618, 1619, 1620, 1621, 1622, 1623, 1624, 1625, 1626, 1627, 1628, 1629, 1630, 1631, 1632, 1633, 1634, 1635, 1636, 1637, 1638, 1639, 1640, 1641, 1642] rfl (by decide +kernel)
set_option maxRecDepth 20000 in
theorem gL_law_X12_risk : GoodIn wsL_law (wsV RL 122 RX12 yX12_risk wsX12_risk) := goodIn_app (goodIn_of _ (by decide +kernel)) ggL_law_X12_risk
set_option maxRecDepth 20000 in
theorem ggL_law_X11_perils : GoodIn wsL_law wsX11_perils := goodIn_r _ [989, 20, 551, 552, 553, 19, 554, 293, 950, 951, 914, 952, 953, 954, 955, 956, 822, 823, 76, 824, 386, 387, 388, 957, 958, 959, 1577, 1578, 1579, 1580, 1581, 1582, 1583, 1584, 1585, 1586, 1587, 1588, 1589, 1590, 1591, 1592, 1593, 1594, 1595, 1658, 1659, 1660, 1661, 1662, 1663, 1664, 1665, 1666, 1667, 1668, 1669, 1692, 1693, 1694, 1695, 1696, 1697, 1698, 1699, 1700, 1701, 1702, 1703, 1704, 1705, 1706, 1707] rfl (by decide +kernel)
set_option maxRecDepth 20000 in
theorem gL_law_X11_perils : GoodIn wsL_law (wsV RL 123 RX11 yX11_perils wsX11_perils) := goodIn_app (goodIn_of _ (by decide +kernel)) ggL_law_X11_perils
set_option maxRecDepth 20000 in
theorem ggL_law_X12_perils : GoodIn wsL_law wsX12_perils := goodIn_r _ [993, 174, 582, 583, 584, 5, 585, 139, 510, 511, 512, 590, 591, 592, 593, 978, 979, 980, 981, 977, 976, 849, 982, 605, 606, 607, 608, 609, 610, 611, 598, 599, 600, 601, 521, 522, 523, 863, 864, 865, 866, 684, 685, 686, 687, 854, 855, 856, 857, 983, 984, 985, 1596, 1597, 1598, 1599, 1600, 1601, 1602, 1603, 1604, 1605, 1606, 1607, 1608, 1609, 1610, 1611, 1612, 1613, 1614, 1615, 1616, 1617, 1618, 1619, 1620, 1621, 1622, 1623, 1624, 1625, 1626, 1627, 1628, 1629, 1630, 1631, 1632, 1633, 1634, 1635, 1636, 1637, 1638, 1639, 1640, 1641, 1642] rfl (by decide +kernel)
set_option maxRecDepth 20000 in
theorem gL_law_X12_perils : GoodIn wsL_law (wsV RL 126 RX12 yX12_perils wsX12_perils) := goodIn_app (goodIn_of _ (by decide +kernel)) ggL_law_X12_perils
set_option maxRecDepth 20000 in
theorem ggL_law_X11_rounds : GoodIn wsL_law wsX11_rounds := goodIn_r _ [997, 21, 20, 48, 54, 377, 378, 379, 19, 380, 292, 293, 294, 79, 295, 296, 297, 68, 69, 70, 72, 74, 381, 382, 383, 76, 384, 385, 386, 387, 388, 389, 390, 391, 392, 393, 394, 395, 396, 78, 397, 398, 399, 400, 401, 402, 403, 404, 998, 999, 914, 1000, 1001, 1002, 1003, 1004, 556, 557, 558, 559, 560, 561, 562, 563, 564, 565, 566, 367, 2, 368, 567, 568, 569, 570, 571, 572, 573, 574, 575, 576, 577, 551, 552, 553, 554, 667, 668, 669, 670, 671, 1577, 1578, 1579, 1580, 1581, 1582, 1583, 1584, 1585, 1586, 1587, 1588, 1589, 1590, 1591, 1592, 1593, 1594, 1595, 1658, 1659, 1660, 1661, 1662, 1663, 1664, 1665, 1666, 1667, 1668, 1669, 1692, 1693, 1694, 1695, 1696, 1697, 1698, 1699, 1700, 1701, 1702, 1703, 1704, 1705, 1706, 1707] rfl (by decide +kernel)
set_option maxRecDepth 20000 in
theorem gL_law_X11_rounds : GoodIn wsL_law (wsV RL 127 RX11 yX11_rounds wsX11_rounds) := goodIn_app (goodIn_of _ (by decide +kernel)) ggL_law_X11_rounds
