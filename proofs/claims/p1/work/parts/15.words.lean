set_option maxRecDepth 100000 in
theorem ig_X0 : GoodIn lw_tbl (wsX00) := goodIn_r _ [362, 364, 366, 368, 370, 372, 374, 376, 378] (by decide +kernel) (by decide +kernel)
theorem il_X0 : ∀ w ∈ wsX00, w ∈ lw_tbl := fun w h => (ig_X0 w h).1
set_option maxRecDepth 100000 in
theorem ig_X1 : GoodIn lw_tbl (wsX10) := goodIn_r _ [466, 468, 470, 472, 474, 476, 478, 480, 482, 484, 486, 488] (by decide +kernel) (by decide +kernel)
theorem il_X1 : ∀ w ∈ wsX10, w ∈ lw_tbl := fun w h => (ig_X1 w h).1
set_option maxRecDepth 100000 in
theorem ig_X2 : GoodIn lw_tbl (wsX20) := goodIn_r _ [396, 398, 400, 402, 404, 406] (by decide +kernel) (by decide +kernel)
theorem il_X2 : ∀ w ∈ wsX20, w ∈ lw_tbl := fun w h => (ig_X2 w h).1
set_option maxRecDepth 100000 in
theorem ig_X3 : GoodIn lw_tbl (wsX30) := goodIn_r _ [332, 334, 336, 338, 340] (by decide +kernel) (by decide +kernel)
theorem il_X3 : ∀ w ∈ wsX30, w ∈ lw_tbl := fun w h => (ig_X3 w h).1
set_option maxRecDepth 100000 in
theorem ig_X4 : GoodIn lw_tbl (wsX40) := goodIn_r _ [641, 643, 645, 647, 649] (by decide +kernel) (by decide +kernel)
theorem il_X4 : ∀ w ∈ wsX40, w ∈ lw_tbl := fun w h => (ig_X4 w h).1
set_option maxRecDepth 100000 in
theorem ig_X5 : GoodIn lw_tbl (wsX50) := goodIn_r _ [594, 596, 598, 600, 602, 604, 606, 608, 610, 612, 614, 616, 618, 620, 622, 624, 626] (by decide +kernel) (by decide +kernel)
theorem il_X5 : ∀ w ∈ wsX50, w ∈ lw_tbl := fun w h => (ig_X5 w h).1
set_option maxRecDepth 100000 in
theorem ig_X6 : GoodIn lw_tbl (wsX60) := goodIn_r _ [434, 436] (by decide +kernel) (by decide +kernel)
theorem il_X6 : ∀ w ∈ wsX60, w ∈ lw_tbl := fun w h => (ig_X6 w h).1
set_option maxRecDepth 100000 in
theorem ig_X7 : GoodIn lw_tbl (wsX70) := goodIn_r _ [519, 521, 523, 525, 527, 529] (by decide +kernel) (by decide +kernel)
theorem il_X7 : ∀ w ∈ wsX70, w ∈ lw_tbl := fun w h => (ig_X7 w h).1
set_option maxRecDepth 100000 in
theorem ig_X8 : GoodIn lw_tbl (wsX80) := goodIn_r _ [565, 567, 569, 571] (by decide +kernel) (by decide +kernel)
theorem il_X8 : ∀ w ∈ wsX80, w ∈ lw_tbl := fun w h => (ig_X8 w h).1
set_option maxRecDepth 100000 in
theorem ig_X9 : GoodIn lw_tbl (wsX90) := goodIn_r _ [270, 272, 274, 276, 278, 280, 282, 284, 286, 288, 290] (by decide +kernel) (by decide +kernel)
theorem il_X9 : ∀ w ∈ wsX90, w ∈ lw_tbl := fun w h => (ig_X9 w h).1
set_option maxRecDepth 100000 in
theorem ig_X10 : GoodIn lw_tbl (wsX100) := goodIn_r _ [544, 546] (by decide +kernel) (by decide +kernel)
theorem il_X10 : ∀ w ∈ wsX100, w ∈ lw_tbl := fun w h => (ig_X10 w h).1
set_option maxRecDepth 100000 in
theorem ig_X11 : GoodIn lw_tbl (wsX110) := goodIn_r _ [661, 663, 665, 667, 669, 671, 673, 675, 677] (by decide +kernel) (by decide +kernel)
theorem il_X11 : ∀ w ∈ wsX110, w ∈ lw_tbl := fun w h => (ig_X11 w h).1
set_option maxRecDepth 100000 in
theorem ig_X12 : GoodIn lw_tbl (wsX120) := goodIn_r _ [1566, 1568, 1570, 1572, 1574, 1576, 1578, 1580, 1582, 1584, 1586, 1588, 1590, 1592, 1594, 1596, 1598, 1600, 1602, 1604, 1606, 1608, 1610, 1612, 1614, 1616, 1618, 1620, 1622, 1624, 1626, 1628, 1630, 1632, 1634, 1636, 1638, 1640, 1642, 1644, 1646, 1648, 1650, 1652, 1654, 1656, 1658, 1660, 1662, 1664, 1666, 1668, 1670, 1672, 1674, 1676, 1678, 1680, 1682, 1684, 1686, 1688, 1690, 1692, 1694, 1696, 1698, 1700, 1702, 1704, 1706, 1708, 1710, 1712, 1714, 1716, 1718, 1720, 1722, 1724, 1726, 1728, 1730, 1732, 1734, 1736, 1738, 1740, 1742, 1744, 1746, 1748, 1750, 1752] (by decide +kernel) (by decide +kernel)
theorem il_X12 : ∀ w ∈ wsX120, w ∈ lw_tbl := fun w h => (ig_X12 w h).1
set_option maxRecDepth 100000 in
theorem gl_X11_init_1 : GoodIn lw_tbl ([.code yX11_init cX11_init 1 none]) := goodIn_r _ [193] (by decide +kernel) (by decide +kernel)
set_option maxRecDepth 100000 in
theorem gl_X11_init_2 : GoodIn lw_tbl (wsX11_init_r1) := goodIn_r _ [194, 195, 196, 197, 198, 168, 652, 296, 297, 173, 653, 343, 344, 174, 654, 381, 382, 175, 655, 409, 410, 177, 656, 491] (by decide +kernel) (by decide +kernel)
set_option maxRecDepth 100000 in
theorem gl_X11_init_3 : GoodIn lw_tbl (wsX11_init_r2) := goodIn_r _ [492, 179, 657, 629, 630, 183, 658, 294, 659, 660, 199, 200, 201, 202, 293, 252, 253, 254, 295, 255, 256, 257, 204, 205] (by decide +kernel) (by decide +kernel)
set_option maxRecDepth 100000 in
theorem gl_X11_init_4 : GoodIn lw_tbl (wsX11_init_r3) := goodIn_r _ [206, 169, 207, 2169, 208, 209, 210, 211, 212, 2170, 214, 215, 216, 217, 218, 219, 220, 221, 222, 223, 170, 224, 225, 226] (by decide +kernel) (by decide +kernel)
set_option maxRecDepth 100000 in
theorem gl_X11_init_5 : GoodIn lw_tbl (wsX11_init_r4) := goodIn_r _ [227, 228, 230, 231, 171, 232, 233, 234, 172, 235, 236, 237, 238, 239, 240, 241, 242, 243, 244, 245, 246, 248, 250, 298] (by decide +kernel) (by decide +kernel)
set_option maxRecDepth 100000 in
theorem gl_X11_init_6 : GoodIn lw_tbl (wsX11_init_r5) := goodIn_r _ [299, 300, 301, 324, 328, 329, 330, 331, 303, 304, 305, 307, 306, 308, 309, 310, 311, 312, 313, 314, 315, 316, 317, 318] (by decide +kernel) (by decide +kernel)
set_option maxRecDepth 100000 in
theorem gl_X11_init_7 : GoodIn lw_tbl (wsX11_init_r6) := goodIn_r _ [319, 320, 321, 322, 345, 346, 347, 348, 350, 352, 354, 358, 359, 360, 361, 349, 383, 384, 385, 386, 392, 393, 394, 390] (by decide +kernel) (by decide +kernel)
set_option maxRecDepth 100000 in
theorem gl_X11_init_8 : GoodIn lw_tbl (wsX11_init_r7) := goodIn_r _ [391, 387, 388, 176, 389, 411, 412, 413, 414, 415, 416, 178, 442, 445, 448, 452, 439, 440, 441, 463, 417, 418, 419, 420] (by decide +kernel) (by decide +kernel)
set_option maxRecDepth 100000 in
theorem gl_X11_init_9 : GoodIn lw_tbl (wsX11_init_r8) := goodIn_r _ [421, 493, 494, 495, 496, 497, 578, 579, 580, 499, 583, 585, 501, 589, 574, 575, 576, 503, 504, 180, 577, 532, 181, 533] (by decide +kernel) (by decide +kernel)
set_option maxRecDepth 100000 in
theorem gl_X11_init_10 : GoodIn lw_tbl (wsX11_init_r9) := goodIn_r _ [182, 582, 554, 500, 505, 506, 507, 508, 509, 513, 512, 511, 534, 535, 536, 537, 538, 542, 549, 550, 551, 552, 553, 556] (by decide +kernel) (by decide +kernel)
set_option maxRecDepth 100000 in
theorem gl_X11_init_11 : GoodIn lw_tbl (wsX11_init_r10) := goodIn_r _ [559, 562, 631, 632, 633, 634, 636, 637, 638, 635] (by decide +kernel) (by decide +kernel)
set_option maxRecDepth 100000 in
theorem gl_X11_init_12 : GoodIn lw_tbl (wsX90) := goodIn_r _ [270, 272, 274, 276, 278, 280, 282, 284, 286, 288, 290] (by decide +kernel) (by decide +kernel)
set_option maxRecDepth 100000 in
theorem gl_X11_init_13 : GoodIn lw_tbl (wsX110) := goodIn_r _ [661, 663, 665, 667, 669, 671, 673, 675, 677] (by decide +kernel) (by decide +kernel)
set_option maxRecDepth 100000 in
theorem gl_X11_init_14 : GoodIn lw_tbl (wsX30) := goodIn_r _ [332, 334, 336, 338, 340] (by decide +kernel) (by decide +kernel)
set_option maxRecDepth 100000 in
theorem gl_X11_init_15 : GoodIn lw_tbl (wsX00) := goodIn_r _ [362, 364, 366, 368, 370, 372, 374, 376, 378] (by decide +kernel) (by decide +kernel)
set_option maxRecDepth 100000 in
theorem gl_X11_init_16 : GoodIn lw_tbl (wsX20) := goodIn_r _ [396, 398, 400, 402, 404, 406] (by decide +kernel) (by decide +kernel)
set_option maxRecDepth 100000 in
theorem gl_X11_init_17 : GoodIn lw_tbl (wsX10) := goodIn_r _ [466, 468, 470, 472, 474, 476, 478, 480, 482, 484, 486, 488] (by decide +kernel) (by decide +kernel)
set_option maxRecDepth 100000 in
theorem gl_X11_init_18 : GoodIn lw_tbl (wsX50) := goodIn_r _ [594, 596, 598, 600, 602, 604, 606, 608, 610, 612, 614, 616, 618, 620, 622, 624, 626] (by decide +kernel) (by decide +kernel)
set_option maxRecDepth 100000 in
theorem gl_X11_init_19 : GoodIn lw_tbl (wsX40) := goodIn_r _ [641, 643, 645, 647, 649] (by decide +kernel) (by decide +kernel)
set_option maxRecDepth 100000 in
theorem gl_X11_init_20 : GoodIn lw_tbl (wsX60) := goodIn_r _ [434, 436] (by decide +kernel) (by decide +kernel)
set_option maxRecDepth 100000 in
theorem gl_X11_init_21 : GoodIn lw_tbl (wsX70) := goodIn_r _ [519, 521, 523, 525, 527, 529] (by decide +kernel) (by decide +kernel)
set_option maxRecDepth 100000 in
theorem gl_X11_init_22 : GoodIn lw_tbl (wsX80) := goodIn_r _ [565, 567, 569, 571] (by decide +kernel) (by decide +kernel)
set_option maxRecDepth 100000 in
theorem gl_X11_init_23 : GoodIn lw_tbl (wsX100) := goodIn_r _ [544, 546] (by decide +kernel) (by decide +kernel)
theorem gl_X11_init : GoodIn lw_tbl wsX11_init := goodIn_app gl_X11_init_1 (goodIn_app (goodIn_app (goodIn_app (goodIn_app (goodIn_app (goodIn_app (goodIn_app (goodIn_app (goodIn_app (goodIn_app (goodIn_app (goodIn_app (goodIn_app (gl_X11_init_2) (goodIn_app (gl_X11_init_3) (goodIn_app (gl_X11_init_4) (goodIn_app (gl_X11_init_5) (goodIn_app (gl_X11_init_6) (goodIn_app (gl_X11_init_7) (goodIn_app (gl_X11_init_8) (goodIn_app (gl_X11_init_9) (goodIn_app (gl_X11_init_10) (gl_X11_init_11)))))))))) (gl_X11_init_12)) (gl_X11_init_13)) (gl_X11_init_14)) (gl_X11_init_15)) (gl_X11_init_16)) (gl_X11_init_17)) (gl_X11_init_18)) (gl_X11_init_19)) (gl_X11_init_20)) (gl_X11_init_21)) (gl_X11_init_22)) (gl_X11_init_23))
set_option maxRecDepth 100000 in
theorem gl_X12_init_1 : GoodIn lw_tbl ([.code yX12_init cX12_init 1 none]) := goodIn_r _ [1457] (by decide +kernel) (by decide +kernel)
set_option maxRecDepth 100000 in
theorem gl_X12_init_2 : GoodIn lw_tbl (wsX12_init_r1) := goodIn_r _ [1458, 195, 196, 294, 1474, 1475, 1476, 1477, 1478, 1479, 1480, 1482, 1484, 1485, 1486, 1487, 1489, 1490, 1491, 1493, 1494, 1459, 1496, 1497] (by decide +kernel) (by decide +kernel)
set_option maxRecDepth 100000 in
theorem gl_X12_init_3 : GoodIn lw_tbl (wsX12_init_r2) := goodIn_r _ [1498, 1499, 1500, 1501, 1502, 1503, 1511, 1512, 1513, 1514, 1515, 1516, 1521, 1522, 1523, 1524, 1526, 1527, 1528, 1529, 1530, 1531, 1532, 1533] (by decide +kernel) (by decide +kernel)
set_option maxRecDepth 100000 in
theorem gl_X12_init_4 : GoodIn lw_tbl (wsX12_init_r3) := goodIn_r _ [1534, 1536, 1537, 1538, 295, 1539, 1755, 1540, 1542, 1543, 1544, 1545, 1550, 1554, 1556, 1557, 1558, 1559, 1561, 1564, 1565, 1481, 1483, 1461] (by decide +kernel) (by decide +kernel)
set_option maxRecDepth 100000 in
theorem gl_X12_init_5 : GoodIn lw_tbl (wsX12_init_r4) := goodIn_r _ [1463, 83, 184, 1464, 1465, 205, 206, 169, 207, 2169, 208, 209, 210, 211, 212, 2170, 1466, 215, 216, 217, 218, 219, 220, 221] (by decide +kernel) (by decide +kernel)
set_option maxRecDepth 100000 in
theorem gl_X12_init_6 : GoodIn lw_tbl (wsX12_init_r5) := goodIn_r _ [222, 223, 170, 224, 225, 226, 227, 228, 230, 231, 171, 232, 233, 234, 172, 235, 236, 237, 238, 239, 240, 241, 242, 243] (by decide +kernel) (by decide +kernel)
set_option maxRecDepth 100000 in
theorem gl_X12_init_7 : GoodIn lw_tbl (wsX12_init_r6) := goodIn_r _ [244, 245, 246, 248, 250, 1467, 1469, 84, 1470, 1473] (by decide +kernel) (by decide +kernel)
set_option maxRecDepth 100000 in
theorem gl_X12_init_8 : GoodIn lw_tbl (wsX120) := goodIn_r _ [1566, 1568, 1570, 1572, 1574, 1576, 1578, 1580, 1582, 1584, 1586, 1588, 1590, 1592, 1594, 1596, 1598, 1600, 1602, 1604, 1606, 1608, 1610, 1612, 1614, 1616, 1618, 1620, 1622, 1624, 1626, 1628, 1630, 1632, 1634, 1636, 1638, 1640, 1642, 1644, 1646, 1648, 1650, 1652, 1654, 1656, 1658, 1660, 1662, 1664, 1666, 1668, 1670, 1672, 1674, 1676, 1678, 1680, 1682, 1684, 1686, 1688, 1690, 1692, 1694, 1696, 1698, 1700, 1702, 1704, 1706, 1708, 1710, 1712, 1714, 1716, 1718, 1720, 1722, 1724, 1726, 1728, 1730, 1732, 1734, 1736, 1738, 1740, 1742, 1744, 1746, 1748, 1750, 1752] (by decide +kernel) (by decide +kernel)
theorem gl_X12_init : GoodIn lw_tbl wsX12_init := goodIn_app gl_X12_init_1 (goodIn_app (goodIn_app (gl_X12_init_2) (goodIn_app (gl_X12_init_3) (goodIn_app (gl_X12_init_4) (goodIn_app (gl_X12_init_5) (goodIn_app (gl_X12_init_6) (gl_X12_init_7)))))) (gl_X12_init_8))
