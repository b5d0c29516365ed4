set_option maxRecDepth 20000 in
theorem ggL_law_L_tired : GoodIn wsL_law wsL_tired := goodIn_ca (goodIn_ca (goodIn_r _ [1503, 316, 1504, 1505, 1506, 2, 1507, 1508, 448, 449, 450, 451, 333, 334, 17, 452, 453, 454, 16, 455, 193, 43, 1842, 1843, 1844, 1845, 1846, 1847, 1848, 1849, 1850, 1851, 1852, 1853, 1772, 1773, 1774, 1775, 1776, 1777, 1791, 1792, 1793, 1794, 1795, 1796, 1797, 1798, 1799, 1800, 1801] (by decide +kernel) (by decide +kernel)) (goodIn_sub (fun _ h => List.mem_append_left _ (List.mem_append_left _ (List.mem_append_left _ (List.mem_append_left _ (List.mem_append_left _ (List.mem_append_left _ (List.mem_append_left _ (List.mem_append_right _ h)))))))) (by decide +kernel))) (goodIn_sub (fun _ h => List.mem_append_left _ (List.mem_append_left _ (List.mem_append_left _ (List.mem_append_left _ (List.mem_append_right _ h))))) (by decide +kernel))
set_option maxRecDepth 20000 in
theorem gL_law_L_tired : GoodIn wsL_law (va_wsS RL 298 yL_tired wsL_tired) := goodIn_app (goodIn_of _ (by decide +kernel)) ggL_law_L_tired
set_option maxRecDepth 20000 in
theorem ggL_law_X17_tired : GoodIn wsL_law wsX17_tired := goodIn_r _ [1512, 223, 146, 466, 467, 468, 469, 5, 470, 237, 238, 239, 144, 240, 241, 230, 231, 232, 381, 382, 383, 384, 385, 386, 387, 388, 389, 390, 391, 392, 393, 394, 395, 396, 158, 233, 234, 235, 236, 1778, 1779, 1780, 1781, 1782, 1783, 1784, 1785, 1786, 1787, 1788, 1789, 1790, 1884, 1885, 1886, 1887, 1888, 1889, 1890, 1891, 1892, 1893, 1894, 1874, 1875, 1876] (by decide +kernel) (by decide +kernel)
set_option maxRecDepth 20000 in
theorem gL_law_X17_tired : GoodIn wsL_law (wsV RL 300 RX17 yX17_tired wsX17_tired) := goodIn_app (goodIn_of _ (by decide +kernel)) ggL_law_X17_tired
set_option maxRecDepth 20000 in
theorem ggL_law_L_lasts : GoodIn wsL_law wsL_lasts := goodIn_ca (goodIn_ca (goodIn_ca (goodIn_ca (goodIn_ca (goodIn_r _ [1515, 316, 1516, 1517, 1518, 2, 1519, 441, 442, 1520, 17, 1449, 448, 449, 450, 451, 333, 334, 452, 453, 454, 16, 455, 193, 43, 1461, 1462, 1463, 1464, 178, 179, 183, 184, 185, 1521, 1474, 1475, 55, 1476, 365, 363, 1477, 1478, 1479, 1480, 1481, 1482, 1483, 1484, 73, 366, 74, 1842, 1843, 1844, 1845, 1846, 1847, 1848, 1849, 1850, 1851, 1852, 1853, 1772, 1773, 1774, 1775, 1776, 1777, 1791, 1792, 1793, 1794, 1795, 1796, 1797, 1798, 1799, 1800, 1801, 1835, 1836, 1837, 1838, 1839, 1840, 1841] (by decide +kernel) (by decide +kernel)) (goodIn_sub (fun _ h => List.mem_append_left _ (List.mem_append_left _ (List.mem_append_left _ (List.mem_append_left _ (List.mem_append_left _ (List.mem_append_left _ (List.mem_append_left _ (List.mem_append_right _ h)))))))) (by decide +kernel))) (goodIn_sub (fun _ h => List.mem_append_left _ (List.mem_append_left _ (List.mem_append_left _ (List.mem_append_right _ h)))) (by decide +kernel))) (goodIn_sub (fun _ h => List.mem_append_left _ (List.mem_append_left _ (List.mem_append_left _ (List.mem_append_left _ (List.mem_append_right _ h))))) (by decide +kernel))) (goodIn_sub (fun _ h => List.mem_append_left _ (List.mem_append_left _ (List.mem_append_left _ (List.mem_append_left _ (List.mem_append_left _ (List.mem_append_left _ (List.mem_append_right _ h))))))) (by decide +kernel))) (goodIn_sub (fun _ h => List.mem_append_left _ (List.mem_append_right _ h)) (by decide +kernel))
set_option maxRecDepth 20000 in
theorem gL_law_L_lasts : GoodIn wsL_law (va_wsS RL 301 yL_lasts wsL_lasts) := goodIn_app (goodIn_of _ (by decide +kernel)) ggL_law_L_lasts
set_option maxRecDepth 20000 in
theorem ggL_law_X17_lasts : GoodIn wsL_law wsX17_lasts := goodIn_ca (goodIn_ca (goodIn_r _ [1525, 223, 146, 466, 152, 467, 468, 469, 5, 470, 237, 238, 239, 144, 240, 241, 230, 231, 232, 233, 234, 235, 236, 381, 382, 383, 384, 385, 386, 387, 388, 389, 390, 391, 392, 393, 394, 395, 396, 158, 514, 515, 516, 407, 517, 518, 1493, 1494, 1495, 1496, 412, 1778, 1779, 1780, 1781, 1782, 1783, 1784, 1785, 1786, 1787, 1788, 1789, 1790, 1884, 1885, 1886, 1887, 1888, 1889, 1890, 1891, 1892, 1893, 1894, 1874, 1875, 1876] (by decide +kernel) (by decide +kernel)) (goodIn_sub (fun _ h => List.mem_append_left _ (List.mem_append_right _ h)) (by decide +kernel))) (goodIn_sub (fun _ h => List.mem_append_left _ (List.mem_append_left _ (List.mem_append_left _ (List.mem_append_left _ (List.mem_append_left _ (List.mem_append_left _ (List.mem_append_left _ (List.mem_append_right _ h)))))))) (by decide +kernel))
set_option maxRecDepth 20000 in
theorem gL_law_X17_lasts : GoodIn wsL_law (wsV RL 303 RX17 yX17_lasts wsX17_lasts) := goodIn_app (goodIn_of _ (by decide +kernel)) ggL_law_X17_lasts
set_option maxRecDepth 20000 in
theorem ggL_law_L_mend : GoodIn wsL_law wsL_mend := goodIn_ca (goodIn_ca (goodIn_ca (goodIn_r _ [1528, 316, 1529, 1530, 1531, 2, 1532, 441, 442, 1520, 1533, 448, 449, 450, 451, 333, 334, 17, 452, 453, 454, 16, 455, 193, 43, 1534, 1535, 1536, 55, 1537, 363, 365, 364, 1842, 1843, 1844, 1845, 1846, 1847, 1848, 1849, 1850, 1851, 1852, 1853, 1772, 1773, 1774, 1775, 1776, 1777, 1791, 1792, 1793, 1794, 1795, 1796, 1797, 1798, 1799, 1800, 1801] (by decide +kernel) (by decide +kernel)) (goodIn_sub (fun _ h => List.mem_append_left _ (List.mem_append_left _ (List.mem_append_left _ (List.mem_append_left _ (List.mem_append_left _ (List.mem_append_left _ (List.mem_append_left _ (List.mem_append_right _ h)))))))) (by decide +kernel))) (goodIn_sub (fun _ h => List.mem_append_left _ (List.mem_append_left _ (List.mem_append_left _ (List.mem_append_right _ h)))) (by decide +kernel))) (goodIn_sub (fun _ h => List.mem_append_left _ (List.mem_append_left _ (List.mem_append_left _ (List.mem_append_left _ (List.mem_append_right _ h))))) (by decide +kernel))
set_option maxRecDepth 20000 in
theorem gL_law_L_mend : GoodIn wsL_law (va_wsS RL 304 yL_mend wsL_mend) := goodIn_app (goodIn_of _ (by decide +kernel)) ggL_law_L_mend
set_option maxRecDepth 20000 in
theorem ggL_law_X17_mend : GoodIn wsL_law wsX17_mend := goodIn_r _ [1541, 223, 146, 466, 467, 468, 469, 5, 470, 237, 238, 239, 144, 240, 241, 230, 231, 232, 233, 234, 235, 236, 381, 382, 383, 384, 385, 386, 387, 388, 389, 390, 391, 392, 393, 394, 395, 396, 158, 514, 515, 516, 407, 517, 518, 1778, 1779, 1780, 1781, 1782, 1783, 1784, 1785, 1786, 1787, 1788, 1789, 1790, 1884, 1885, 1886, 1887, 1888, 1889, 1890, 1891, 1892, 1893, 1894, 1874, 1875, 1876] (by decide +kernel) (by decide +kernel)
set_option maxRecDepth 20000 in
theorem gL_law_X17_mend : GoodIn wsL_law (wsV RL 306 RX17 yX17_mend wsX17_mend) := goodIn_app (goodIn_of _ (by decide +kernel)) ggL_law_X17_mend
set_option maxRecDepth 20000 in
theorem ggL_law_L_wish : GoodIn wsL_law wsL_wish := goodIn_ca (goodIn_ca (goodIn_ca (goodIn_ca (goodIn_r _ [1544, 173, 1545, 1546, 1547, 2, 1548, 178, 179, 441, 442, 738, 739, 17, 1549, 37, 180, 183, 184, 185, 595, 596, 597, 598, 599, 343, 344, 345, 1550, 1551, 1552, 36, 1553, 1554, 1555, 1556, 1557, 137, 1558, 1559, 1560, 760, 761, 16, 762, 763, 601, 602, 603, 193, 191, 604, 483, 484, 485, 486, 487, 488, 489, 47, 490, 43, 491, 605, 606, 607, 49, 608, 214, 215, 216, 764, 690, 691, 692, 693, 694, 695, 696, 697, 698, 699, 700, 213, 701, 702, 703, 704, 217, 218, 705, 706, 707, 708, 709, 710, 711, 712, 1561, 1562, 1563, 1564, 1565, 1566, 1567, 1568, 1569, 1570, 1571, 1572, 1573, 1574, 1575, 1576, 1577, 1578, 1579, 340, 341, 61, 342, 200, 201, 1580, 347, 348, 349, 45, 350, 351, 352, 353, 354, 355, 356, 55, 357, 358, 359, 360, 361, 362, 363, 364, 365, 73, 366, 74, 367, 368, 369, 370, 71, 72, 371, 209, 210, 211, 212, 194, 195, 196, 197, 198, 199, 202, 203, 204, 205, 206, 207, 1581, 1582, 1583, 1584, 56, 57, 744, 745, 746, 747, 1585, 1586, 1587, 1588, 1589, 1590, 1591, 1592, 1593, 1594, 1772, 1773, 1774, 1775, 1776, 1777, 1791, 1792, 1793, 1794, 1795, 1796, 1797, 1798, 1799, 1800, 1801, 1829, 1830, 1831, 1832, 1833, 1834, 1835, 1836, 1837, 1838, 1839, 1840, 1841, 1842, 1843, 1844, 1845, 1846, 1847, 1848, 1849, 1850, 1851, 1852, 1853, 1854, 1855, 1856, 1857, 1858, 1859] (by decide +kernel) (by decide +kernel)) (goodIn_sub (fun _ h => List.mem_append_left _ (List.mem_append_left _ (List.mem_append_left _ (List.mem_append_left _ (List.mem_append_left _ (List.mem_append_left _ (List.mem_append_left _ (List.mem_append_right _ h)))))))) (by decide +kernel))) (goodIn_sub (fun _ h => List.mem_append_left _ (List.mem_append_left _ (List.mem_append_left _ (List.mem_append_left _ (List.mem_append_left _ (List.mem_append_left _ (List.mem_append_right _ h))))))) (by decide +kernel))) (goodIn_sub (fun _ h => List.mem_append_left _ (List.mem_append_left _ (List.mem_append_left _ (List.mem_append_right _ h)))) (by decide +kernel))) (goodIn_sub (fun _ h => List.mem_append_left _ (List.mem_append_left _ (List.mem_append_right _ h))) (by decide +kernel))
set_option maxRecDepth 20000 in
theorem gL_law_L_wish : GoodIn wsL_law (va_wsS RL 307 yL_wish wsL_wish) := goodIn_app (goodIn_of _ (by decide +kernel)) ggL_law_L_wish
set_option maxRecDepth 20000 in
theorem ggL_law_X17_wish : GoodIn wsL_law wsX17_wish := goodIn_ca (goodIn_r _ [1598, 223, 224, 226, 145, 225, 153, 376, 146, 230, 231, 5, 232, 233, 234, 235, 236, 237, 238, 239, 144, 240, 241, 769, 770, 771, 772, 613, 614, 615, 616, 617, 618, 619, 620, 621, 142, 143, 154, 155, 156, 157, 158, 159, 160, 161, 162, 163, 164, 165, 166, 167, 168, 12, 13, 510, 511, 512, 513, 466, 381, 382, 383, 384, 385, 386, 387, 388, 389, 390, 391, 392, 393, 394, 395, 396, 514, 515, 516, 407, 517, 518, 519, 520, 521, 522, 416, 415, 523, 524, 525, 417, 418, 419, 420, 412, 413, 414, 526, 527, 528, 529, 530, 531, 532, 533, 534, 535, 536, 259, 260, 261, 262, 246, 247, 263, 264, 265, 266, 267, 268, 269, 270, 271, 272, 273, 274, 275, 276, 277, 278, 279, 280, 281, 282, 283, 284, 285, 286, 287, 288, 289, 290, 291, 292, 293, 294, 295, 296, 297, 298, 299, 300, 301, 302, 303, 304, 305, 306, 307, 308, 622, 623, 624, 625, 626, 627, 628, 629, 630, 631, 632, 633, 634, 635, 636, 637, 638, 639, 640, 641, 642, 643, 644, 645, 646, 647, 648, 649, 650, 651, 652, 653, 654, 542, 543, 544, 655, 546, 547, 548, 717, 718, 719, 720, 721, 722, 723, 724, 725, 726, 727, 728, 729, 730, 1599, 1600, 1601, 1602, 397, 398, 399, 229, 400, 255, 256, 257, 258, 401, 402, 403, 404, 405, 406, 227, 228, 408, 409, 410, 411, 109, 248, 249, 250, 251, 252, 253, 254, 1603, 1604, 1605, 1606, 1607, 1608, 1609, 1610, 1611, 1612, 1613, 1614, 1615, 1616, 1617, 1618, 1619, 1620, 1621, 1622, 1623, 812, 813, 1778, 1779, 1780, 1781, 1782, 1783, 1784, 1785, 1786, 1787, 1788, 1789, 1790, 1877, 1878, 1879, 1880, 1881, 1882, 1883, 1874, 1875, 1876, 1884, 1885, 1886, 1887, 1888, 1889, 1890, 1891, 1892, 1893, 1894, 1895, 1896, 1897, 1898, 1899, 1900, 1901, 1902, 1903, 1904, 1905] (by decide +kernel) (by decide +kernel)) (goodIn_sub (fun _ h => List.mem_append_left _ (List.mem_append_left _ (List.mem_append_left _ (List.mem_append_left _ (List.mem_append_left _ (List.mem_append_left _ (List.mem_append_left _ (List.mem_append_right _ h)))))))) (by decide +kernel))
set_option maxRecDepth 20000 in
theorem gL_law_X17_wish : GoodIn wsL_law (wsV RL 309 RX17 yX17_wish wsX17_wish) := goodIn_app (goodIn_of _ (by decide +kernel)) ggL_law_X17_wish
set_option maxRecDepth 20000 in
theorem ggL_law_L_restore : GoodIn wsL_law wsL_restore := goodIn_ca (goodIn_ca (goodIn_ca (goodIn_ca (goodIn_r _ [1626, 316, 1627, 1628, 1629, 2, 1630, 321, 322, 323, 324, 178, 179, 325, 326, 327, 328, 17, 180, 329, 330, 331, 332, 333, 334, 335, 336, 337, 16, 338, 190, 193, 45, 339, 340, 341, 61, 342, 200, 201, 184, 185, 343, 344, 345, 346, 347, 348, 349, 43, 350, 351, 352, 353, 354, 355, 356, 55, 357, 358, 359, 360, 361, 362, 363, 364, 365, 73, 366, 74, 367, 368, 369, 370, 71, 72, 371, 209, 210, 49, 211, 212, 213, 214, 215, 216, 217, 218, 194, 195, 196, 197, 198, 199, 202, 203, 204, 205, 206, 207, 1854, 1855, 1856, 1857, 1858, 1859, 1772, 1773, 1774, 1775, 1776, 1777, 1791, 1792, 1793, 1794, 1795, 1796, 1797, 1798, 1799, 1800, 1801, 1842, 1843, 1844, 1845, 1846, 1847, 1848, 1849, 1850, 1851, 1852, 1853, 1835, 1836, 1837, 1838, 1839, 1840, 1841] (by decide +kernel) (by decide +kernel)) (goodIn_sub (fun _ h => List.mem_append_left _ (List.mem_append_left _ (List.mem_append_left _ (List.mem_append_left _ (List.mem_append_left _ (List.mem_append_left _ (List.mem_append_left _ (List.mem_append_right _ h)))))))) (by decide +kernel))) (goodIn_sub (fun _ h => List.mem_append_left _ (List.mem_append_left _ (List.mem_append_left _ (List.mem_append_left _ (List.mem_append_left _ (List.mem_append_left _ (List.mem_append_right _ h))))))) (by decide +kernel))) (goodIn_sub (fun _ h => List.mem_append_left _ (List.mem_append_left _ (List.mem_append_left _ (List.mem_append_left _ (List.mem_append_left _ (List.mem_append_right _ h)))))) (by decide +kernel))) (goodIn_sub (fun _ h => List.mem_append_left _ (List.mem_append_left _ (List.mem_append_left _ (List.mem_append_left _ (List.mem_append_right _ h))))) (by decide +kernel))
set_option maxRecDepth 20000 in
theorem gL_law_L_restore : GoodIn wsL_law (va_wsS RL 310 yL_restore wsL_restore) := goodIn_app (goodIn_of _ (by decide +kernel)) ggL_law_L_restore
set_option maxRecDepth 20000 in
theorem ggL_law_X17_restore : GoodIn wsL_law wsX17_restore := goodIn_r _ [1634, 1635, 373, 374, 5, 375, 223, 145, 376, 146, 377, 378, 379, 380, 237, 238, 239, 144, 240, 241, 230, 231, 232, 233, 234, 235, 236, 381, 382, 383, 384, 385, 386, 387, 388, 389, 390, 391, 392, 393, 394, 395, 396, 158, 397, 398, 399, 229, 400, 255, 256, 257, 258, 401, 402, 403, 404, 405, 406, 407, 227, 228, 408, 409, 410, 411, 12, 13, 109, 412, 413, 414, 415, 416, 417, 418, 419, 420, 259, 260, 261, 262, 246, 247, 263, 264, 265, 266, 267, 268, 269, 270, 271, 272, 273, 274, 157, 275, 276, 277, 278, 279, 280, 281, 282, 283, 284, 285, 286, 287, 288, 289, 290, 291, 292, 293, 294, 295, 296, 297, 298, 299, 300, 301, 302, 303, 304, 305, 306, 307, 308, 248, 249, 250, 251, 252, 253, 254, 1778, 1779, 1780, 1781, 1782, 1783, 1784, 1785, 1786, 1787, 1788, 1789, 1790, 1874, 1875, 1876, 1877, 1878, 1879, 1880, 1881, 1882, 1883, 1884, 1885, 1886, 1887, 1888, 1889, 1890, 1891, 1892, 1893, 1894] (by decide +kernel) (by decide +kernel)
set_option maxRecDepth 20000 in
theorem gL_law_X17_restore : GoodIn wsL_law (wsV RL 313 RX17 yX17_restore wsX17_restore) := goodIn_app (goodIn_of _ (by decide +kernel)) ggL_law_X17_restore
set_option maxRecDepth 20000 in
theorem ggL_law_L_forChild : GoodIn wsL_law wsL_forChild := goodIn_ca (goodIn_ca (goodIn_ca (goodIn_r _ [1638, 173, 1639, 1640, 1641, 2, 1642, 178, 179, 17, 183, 184, 185, 595, 596, 597, 598, 441, 442, 599, 759, 760, 761, 16, 762, 763, 601, 602, 603, 193, 191, 604, 483, 484, 485, 486, 487, 488, 489, 47, 490, 43, 491, 605, 606, 607, 49, 608, 214, 215, 216, 764, 690, 691, 692, 693, 694, 695, 696, 697, 698, 699, 700, 213, 701, 702, 703, 704, 217, 218, 705, 706, 707, 708, 709, 710, 711, 712, 1643, 1644, 1645, 1646, 1647, 1157, 1158, 55, 1159, 362, 361, 1648, 1161, 1162, 1163, 359, 360, 670, 671, 672, 673, 73, 74, 674, 276, 277, 278, 675, 676, 677, 678, 366, 679, 1649, 1650, 1651, 1652, 58, 59, 1653, 1654, 1655, 1656, 1657, 1658, 1772, 1773, 1774, 1775, 1776, 1777, 1791, 1792, 1793, 1794, 1795, 1796, 1797, 1798, 1799, 1800, 1801, 1835, 1836, 1837, 1838, 1839, 1840, 1841, 1842, 1843, 1844, 1845, 1846, 1847, 1848, 1849, 1850, 1851, 1852, 1853] (by decide +kernel) (by decide +kernel)) (goodIn_sub (fun _ h => List.mem_append_left _ (List.mem_append_left _ (List.mem_append_left _ (List.mem_append_left _ (List.mem_append_left _ (List.mem_append_left _ (List.mem_append_left _ (List.mem_append_right _ h)))))))) (by decide +kernel))) (goodIn_sub (fun _ h => List.mem_append_left _ (List.mem_append_left _ (List.mem_append_left _ (List.mem_append_left _ (List.mem_append_left _ (List.mem_append_left _ (List.mem_append_right _ h))))))) (by decide +kernel))) (goodIn_sub (fun _ h => List.mem_append_left _ (List.mem_append_left _ (List.mem_append_left _ (List.mem_append_right _ h)))) (by decide +kernel))
set_option maxRecDepth 20000 in
theorem gL_law_L_forChild : GoodIn wsL_law (va_wsS RL 314 yL_forChild wsL_forChild) := goodIn_app (goodIn_of _ (by decide +kernel)) ggL_law_L_forChild
set_option maxRecDepth 20000 in
theorem ggL_law_X17_forChild : GoodIn wsL_law wsX17_forChild := goodIn_ca (goodIn_r _ [1662, 224, 223, 146, 466, 230, 231, 5, 232, 769, 770, 771, 772, 613, 614, 615, 616, 617, 225, 618, 619, 620, 621, 142, 143, 144, 154, 155, 156, 157, 158, 159, 160, 161, 162, 163, 164, 165, 166, 167, 168, 12, 13, 237, 238, 239, 240, 241, 510, 511, 512, 513, 381, 382, 383, 384, 385, 386, 387, 388, 389, 390, 391, 392, 393, 394, 395, 396, 514, 515, 516, 407, 517, 518, 519, 520, 521, 522, 416, 415, 523, 524, 525, 417, 418, 419, 420, 412, 413, 414, 526, 527, 528, 529, 530, 531, 532, 533, 534, 535, 536, 259, 260, 261, 262, 246, 247, 263, 264, 265, 266, 267, 268, 269, 270, 271, 272, 273, 274, 275, 276, 277, 278, 279, 280, 281, 282, 283, 284, 285, 286, 287, 288, 289, 290, 291, 292, 293, 294, 295, 296, 297, 298, 299, 300, 301, 302, 303, 304, 305, 306, 307, 308, 622, 623, 624, 625, 626, 627, 628, 629, 630, 631, 632, 633, 634, 635, 636, 637, 638, 639, 640, 641, 642, 643, 644, 645, 646, 647, 648, 649, 650, 651, 652, 653, 654, 542, 543, 544, 655, 546, 547, 548, 717, 718, 719, 720, 721, 722, 723, 724, 725, 726, 727, 728, 729, 730, 1194, 1195, 1196, 1197, 1198, 1199, 1200, 1201, 1202, 1778, 1779, 1780, 1781, 1782, 1783, 1784, 1785, 1786, 1787, 1788, 1789, 1790, 1884, 1885, 1886, 1887, 1888, 1889, 1890, 1891, 1892, 1893, 1894, 1874, 1875, 1876, 1877, 1878, 1879, 1880, 1881, 1882, 1883, 1895, 1896, 1897, 1898, 1899, 1900, 1901, 1902, 1903, 1904, 1905] (by decide +kernel) (by decide +kernel)) (goodIn_sub (fun _ h => List.mem_append_left _ (List.mem_append_left _ (List.mem_append_left _ (List.mem_append_left _ (List.mem_append_left _ (List.mem_append_left _ (List.mem_append_left _ (List.mem_append_right _ h)))))))) (by decide +kernel))
set_option maxRecDepth 20000 in
theorem gL_law_X17_forChild : GoodIn wsL_law (wsV RL 316 RX17 yX17_forChild wsX17_forChild) := goodIn_app (goodIn_of _ (by decide +kernel)) ggL_law_X17_forChild
set_option maxRecDepth 20000 in
theorem ggL_law_X11_folds : GoodIn wsL_law wsX11_folds := goodIn_r _ [1666, 17, 180, 1772, 1773, 1774, 1775, 1776, 1777, 1791, 1792, 1793, 1794, 1795, 1796, 1797, 1798, 1799, 1800, 1801] (by decide +kernel) (by decide +kernel)
set_option maxRecDepth 20000 in
theorem gL_law_X11_folds : GoodIn wsL_law (wsV RL 317 RX11 yX11_folds wsX11_folds) := goodIn_app (goodIn_of _ (by decide +kernel)) ggL_law_X11_folds
set_option maxRecDepth 20000 in
theorem ggL_law_X17_folds : GoodIn wsL_law wsX17_folds := goodIn_r _ [1670, 223, 146, 237, 238, 239, 144, 240, 241, 1778, 1779, 1780, 1781, 1782, 1783, 1784, 1785, 1786, 1787, 1788, 1789, 1790, 1874, 1875, 1876] (by decide +kernel) (by decide +kernel)
set_option maxRecDepth 20000 in
theorem gL_law_X17_folds : GoodIn wsL_law (wsV RL 320 RX17 yX17_folds wsX17_folds) := goodIn_app (goodIn_of _ (by decide +kernel)) ggL_law_X17_folds
set_option maxRecDepth 20000 in
theorem ggL_law_X11_paper : GoodIn wsL_law wsX11_paper := goodIn_r _ [1674, 17, 1675, 1676, 1677, 16, 1678, 193, 43, 1647, 1157, 1158, 55, 1159, 362, 361, 1648, 1161, 1162, 1163, 359, 360, 670, 671, 672, 673, 73, 74, 674, 276, 277, 278, 675, 676, 677, 678, 366, 679, 1772, 1773, 1774, 1775, 1776, 1777, 1791, 1792, 1793, 1794, 1795, 1796, 1797, 1798, 1799, 1800, 1801, 1842, 1843, 1844, 1845, 1846, 1847, 1848, 1849, 1850, 1851, 1852, 1853, 1835, 1836, 1837, 1838, 1839, 1840, 1841] (by decide +kernel) (by decide +kernel)
set_option maxRecDepth 20000 in
theorem gL_law_X11_paper : GoodIn wsL_law (wsV RL 321 RX11 yX11_paper wsX11_paper) := goodIn_app (goodIn_of _ (by decide +kernel)) ggL_law_X11_paper
set_option maxRecDepth 20000 in
theorem ggL_law_X17_paper : GoodIn wsL_law wsX17_paper := goodIn_ca (goodIn_r _ [1682, 223, 146, 466, 622, 623, 624, 144, 625, 626, 627, 628, 629, 630, 631, 632, 633, 12, 13, 634, 635, 247, 636, 637, 638, 639, 640, 641, 642, 643, 644, 645, 646, 647, 648, 649, 650, 1194, 1195, 1196, 407, 1197, 417, 418, 412, 1198, 276, 277, 278, 1199, 1200, 1201, 1202, 420, 419, 1778, 1779, 1780, 1781, 1782, 1783, 1784, 1785, 1786, 1787, 1788, 1789, 1790, 1902, 1903, 1904, 1905, 1874, 1875, 1876, 1884, 1885, 1886, 1887, 1888, 1889, 1890, 1891, 1892, 1893, 1894] (by decide +kernel) (by decide +kernel)) (goodIn_sub (fun _ h => List.mem_append_left _ (List.mem_append_left _ (List.mem_append_left _ (List.mem_append_left _ (List.mem_append_left _ (List.mem_append_left _ (List.mem_append_left _ (List.mem_append_right _ h)))))))) (by decide +kernel))
set_option maxRecDepth 20000 in
theorem gL_law_X17_paper : GoodIn wsL_law (wsV RL 325 RX17 yX17_paper wsX17_paper) := goodIn_app (goodIn_of _ (by decide +kernel)) ggL_law_X17_paper
set_option maxRecDepth 20000 in
theorem ggL_law_L_scene : GoodIn wsL_law wsL_scene := goodIn_ca (goodIn_ca (goodIn_r _ [1685, 173, 1686, 1687, 1688, 2, 1689, 17, 579, 580, 581, 582, 178, 179, 496, 497, 498, 183, 184, 185, 1690, 1691, 1692, 16, 1693, 193, 1694, 604, 483, 484, 485, 486, 487, 488, 489, 47, 490, 43, 491, 1695, 500, 501, 49, 502, 213, 214, 215, 503, 504, 505, 1696, 557, 558, 559, 560, 561, 562, 1772, 1773, 1774, 1775, 1776, 1777, 1791, 1792, 1793, 1794, 1795, 1796, 1797, 1798, 1799, 1800, 1801, 1835, 1836, 1837, 1838, 1839, 1840, 1841, 1842, 1843, 1844, 1845, 1846, 1847, 1848, 1849, 1850, 1851, 1852, 1853] (by decide +kernel) (by decide +kernel)) (goodIn_sub (fun _ h => List.mem_append_left _ (List.mem_append_left _ (List.mem_append_left _ (List.mem_append_left _ (List.mem_append_left _ (List.mem_append_left _ (List.mem_append_left _ (List.mem_append_right _ h)))))))) (by decide +kernel))) (goodIn_sub (fun _ h => List.mem_append_left _ (List.mem_append_left _ (List.mem_append_left _ (List.mem_append_left _ (List.mem_append_left _ (List.mem_append_left _ (List.mem_append_right _ h))))))) (by decide +kernel))
set_option maxRecDepth 20000 in
theorem gL_law_L_scene : GoodIn wsL_law (va_wsS RL 326 yL_scene wsL_scene) := goodIn_app (goodIn_of _ (by decide +kernel)) ggL_law_L_scene
set_option maxRecDepth 20000 in
theorem ggL_law_X17_scene : GoodIn wsL_law wsX17_scene := goodIn_ca (goodIn_r _ [1700, 223, 617, 230, 231, 5, 232, 618, 619, 620, 621, 142, 143, 144, 146, 154, 155, 156, 157, 158, 159, 160, 161, 162, 163, 164, 165, 166, 167, 168, 12, 13, 237, 238, 239, 240, 241, 510, 511, 512, 513, 466, 381, 382, 383, 384, 385, 386, 387, 388, 389, 390, 391, 392, 393, 394, 395, 396, 514, 515, 516, 407, 517, 518, 519, 520, 521, 522, 416, 415, 523, 524, 525, 417, 418, 419, 420, 412, 413, 414, 526, 527, 528, 529, 530, 531, 532, 533, 534, 535, 536, 259, 260, 261, 262, 246, 247, 263, 264, 265, 266, 267, 268, 269, 270, 271, 272, 273, 274, 275, 276, 277, 278, 279, 280, 281, 282, 283, 284, 285, 286, 287, 288, 289, 290, 291, 292, 293, 294, 295, 296, 297, 298, 299, 300, 301, 302, 303, 304, 305, 306, 307, 308, 622, 623, 624, 625, 626, 627, 628, 629, 630, 631, 632, 633, 634, 635, 636, 637, 638, 639, 640, 641, 642, 643, 644, 645, 646, 647, 648, 649, 650, 537, 538, 539, 540, 541, 542, 543, 544, 545, 546, 547, 548, 567, 568, 569, 570, 1778, 1779, 1780, 1781, 1782, 1783, 1784, 1785, 1786, 1787, 1788, 1789, 1790, 1895, 1896, 1897, 1898, 1899, 1900, 1901, 1874, 1875, 1876, 1884, 1885, 1886, 1887, 1888, 1889, 1890, 1891, 1892, 1893, 1894, 1877, 1878, 1879, 1880, 1881, 1882, 1883, 1902, 1903, 1904, 1905] (by decide +kernel) (by decide +kernel)) (goodIn_sub (fun _ h => List.mem_append_left _ (List.mem_append_left _ (List.mem_append_left _ (List.mem_append_left _ (List.mem_append_left _ (List.mem_append_left _ (List.mem_append_left _ (List.mem_append_right _ h)))))))) (by decide +kernel))
set_option maxRecDepth 20000 in
theorem gL_law_X17_scene : GoodIn wsL_law (wsV RL 328 RX17 yX17_scene wsX17_scene) := goodIn_app (goodIn_of _ (by decide +kernel)) ggL_law_X17_scene
set_option maxRecDepth 20000 in
theorem ggL_law_L_tornShare : GoodIn wsL_law wsL_tornShare := goodIn_ca (goodIn_ca (goodIn_r _ [1703, 1704, 1705, 1706, 1707, 2, 1708, 1709, 1710, 17, 180, 1485, 1486, 1487, 16, 1488, 193, 43, 491, 1772, 1773, 1774, 1775, 1776, 1777, 1791, 1792, 1793, 1794, 1795, 1796, 1797, 1798, 1799, 1800, 1801, 1842, 1843, 1844, 1845, 1846, 1847, 1848, 1849, 1850, 1851, 1852, 1853] (by decide +kernel) (by decide +kernel)) (goodIn_sub (fun _ h => List.mem_append_left _ (List.mem_append_left _ (List.mem_append_left _ (List.mem_append_left _ (List.mem_append_left _ (List.mem_append_left _ (List.mem_append_left _ (List.mem_append_right _ h)))))))) (by decide +kernel))) (goodIn_sub (fun _ h => List.mem_append_right _ h) (by decide +kernel))
set_option maxRecDepth 20000 in
theorem gL_law_L_tornShare : GoodIn wsL_law (va_wsS RL 329 yL_tornShare wsL_tornShare) := goodIn_app (goodIn_of _ (by decide +kernel)) ggL_law_L_tornShare
set_option maxRecDepth 20000 in
theorem ggL_law_X17_tornShare : GoodIn wsL_law wsX17_tornShare := goodIn_r _ [1714, 146, 223, 964, 965, 966, 144, 967, 241, 1497, 1498, 1499, 5, 1500, 466, 622, 623, 624, 625, 626, 627, 628, 629, 630, 631, 632, 633, 12, 13, 634, 635, 247, 636, 637, 638, 639, 640, 641, 642, 643, 644, 645, 646, 647, 648, 649, 650, 514, 515, 516, 407, 517, 518, 237, 238, 239, 240, 1778, 1779, 1780, 1781, 1782, 1783, 1784, 1785, 1786, 1787, 1788, 1789, 1790, 1874, 1875, 1876, 1902, 1903, 1904, 1905, 1884, 1885, 1886, 1887, 1888, 1889, 1890, 1891, 1892, 1893, 1894] (by decide +kernel) (by decide +kernel)
set_option maxRecDepth 20000 in
theorem gL_law_X17_tornShare : GoodIn wsL_law (wsV RL 332 RX17 yX17_tornShare wsX17_tornShare) := goodIn_app (goodIn_of _ (by decide +kernel)) ggL_law_X17_tornShare
set_option maxRecDepth 20000 in
theorem ggL_law_L_meanLength : GoodIn wsL_law wsL_meanLength := goodIn_ca (goodIn_ca (goodIn_r _ [1717, 1704, 1718, 1719, 1720, 2, 1721, 1709, 1710, 17, 1722, 1723, 1724, 16, 1725, 193, 604, 483, 484, 485, 486, 487, 488, 489, 47, 490, 43, 491, 1726, 1727, 1728, 1729, 1694, 1772, 1773, 1774, 1775, 1776, 1777, 1791, 1792, 1793, 1794, 1795, 1796, 1797, 1798, 1799, 1800, 1801, 1835, 1836, 1837, 1838, 1839, 1840, 1841, 1842, 1843, 1844, 1845, 1846, 1847, 1848, 1849, 1850, 1851, 1852, 1853] (by decide +kernel) (by decide +kernel)) (goodIn_sub (fun _ h => List.mem_append_left _ (List.mem_append_left _ (List.mem_append_left _ (List.mem_append_left _ (List.mem_append_left _ (List.mem_append_left _ (List.mem_append_left _ (List.mem_append_right _ h)))))))) (by decide +kernel))) (goodIn_sub (fun _ h => List.mem_append_right _ h) (by decide +kernel))
set_option maxRecDepth 20000 in
theorem gL_law_L_meanLength : GoodIn wsL_law (va_wsS RL 333 yL_meanLength wsL_meanLength) := goodIn_app (goodIn_of _ (by decide +kernel)) ggL_law_L_meanLength
set_option maxRecDepth 20000 in
theorem ggL_law_X17_meanLength : GoodIn wsL_law wsX17_meanLength := goodIn_ca (goodIn_r _ [1733, 617, 223, 618, 619, 620, 5, 621, 142, 143, 144, 146, 154, 155, 156, 157, 158, 159, 160, 161, 162, 163, 164, 165, 166, 167, 168, 12, 13, 237, 238, 239, 240, 241, 510, 511, 512, 513, 466, 230, 231, 232, 381, 382, 383, 384, 385, 386, 387, 388, 389, 390, 391, 392, 393, 394, 395, 396, 514, 515, 516, 407, 517, 518, 519, 520, 521, 522, 416, 415, 523, 524, 525, 417, 418, 419, 420, 412, 413, 414, 526, 527, 528, 529, 530, 531, 532, 533, 534, 535, 536, 259, 260, 261, 262, 246, 247, 263, 264, 265, 266, 267, 268, 269, 270, 271, 272, 273, 274, 275, 276, 277, 278, 279, 280, 281, 282, 283, 284, 285, 286, 287, 288, 289, 290, 291, 292, 293, 294, 295, 296, 297, 298, 299, 300, 301, 302, 303, 304, 305, 306, 307, 308, 622, 623, 624, 625, 626, 627, 628, 629, 630, 631, 632, 633, 634, 635, 636, 637, 638, 639, 640, 641, 642, 643, 644, 645, 646, 647, 648, 649, 650, 964, 965, 966, 967, 1895, 1896, 1897, 1898, 1899, 1900, 1901, 1778, 1779, 1780, 1781, 1782, 1783, 1784, 1785, 1786, 1787, 1788, 1789, 1790, 1874, 1875, 1876, 1884, 1885, 1886, 1887, 1888, 1889, 1890, 1891, 1892, 1893, 1894, 1877, 1878, 1879, 1880, 1881, 1882, 1883, 1902, 1903, 1904, 1905] (by decide +kernel) (by decide +kernel)) (goodIn_sub (fun _ h => List.mem_append_left _ (List.mem_append_left _ (List.mem_append_left _ (List.mem_append_left _ (List.mem_append_left _ (List.mem_append_left _ (List.mem_append_left _ (List.mem_append_right _ h)))))))) (by decide +kernel))
set_option maxRecDepth 20000 in
theorem gL_law_X17_meanLength : GoodIn wsL_law (wsV RL 335 RX17 yX17_meanLength wsX17_meanLength) := goodIn_app (goodIn_of _ (by decide +kernel)) ggL_law_X17_meanLength
set_option maxRecDepth 20000 in
theorem ggL_law_X11_isSound : GoodIn wsL_law wsX11_isSound := goodIn_ca (goodIn_r _ [1737, 33, 17, 1290, 1291, 1292, 32, 1293, 132, 1294, 125, 126, 127, 128, 1295, 1296, 1297, 1298, 1299, 1300, 1301, 1302, 1303, 55, 1304, 358, 359, 360, 361, 674, 276, 277, 278, 362, 1305, 303, 304, 1306, 1307, 1308, 1309, 1310, 1311, 1312, 1313, 1314, 1315, 1316, 1317, 1318, 129, 130, 131, 1319, 1320, 1321, 1322, 1323, 1324, 1325, 1326, 1327, 1328, 1329, 1330, 1331, 1332, 1333, 1334, 1335, 1336, 1337, 1338, 1339, 1738, 1739, 1740, 16, 1741, 193, 604, 483, 484, 485, 486, 487, 488, 489, 47, 490, 43, 491, 1742, 1743, 1744, 49, 1745, 799, 216, 1746, 500, 501, 502, 213, 214, 215, 503, 2, 504, 505, 1747, 557, 558, 559, 560, 561, 562, 1748, 1749, 1750, 1751, 52, 1752, 1753, 1754, 1755, 1694, 697, 698, 699, 700, 701, 702, 703, 704, 217, 218, 705, 706, 707, 708, 709, 710, 711, 712, 1756, 1757, 1758, 1759, 1760, 1761, 1762, 1763, 1764, 1765, 1766, 1767, 1772, 1773, 1774, 1775, 1776, 1777, 1820, 1821, 1822, 1823, 1824, 1825, 1826, 1827, 1828, 1791, 1792, 1793, 1794, 1795, 1796, 1797, 1798, 1799, 1800, 1801, 1842, 1843, 1844, 1845, 1846, 1847, 1848, 1849, 1850, 1851, 1852, 1853, 1835, 1836, 1837, 1838, 1839, 1840, 1841] (by decide +kernel) (by decide +kernel)) (goodIn_sub (fun _ h => List.mem_append_left _ (List.mem_append_left _ (List.mem_append_left _ (List.mem_append_left _ (List.mem_append_left _ (List.mem_append_left _ (List.mem_append_left _ (List.mem_append_right _ h)))))))) (by decide +kernel))
set_option maxRecDepth 20000 in
theorem gL_law_X11_isSound : GoodIn wsL_law (wsV RL 336 RX11 yX11_isSound wsX11_isSound) := goodIn_app (goodIn_of _ (by decide +kernel)) ggL_law_X11_isSound
set_option maxRecDepth 20000 in
theorem ggL_law_X17_isSound : GoodIn wsL_law wsX17_isSound := goodIn_r _ [1771, 223, 1778, 1779, 1780, 1781, 1782, 1783, 1784, 1785, 1786, 1787, 1788, 1789, 1790] (by decide +kernel) (by decide +kernel)
set_option maxRecDepth 20000 in
theorem gL_law_X17_isSound : GoodIn wsL_law (wsV RL 339 RX17 yX17_isSound wsX17_isSound) := goodIn_app (goodIn_of _ (by decide +kernel)) ggL_law_X17_isSound
theorem dL_law_2629 : decode cL_law 2629 = .ok (.aload_n 1, 1) := by decide +kernel
theorem dL_law_2630 : decode cL_law 2630 = .ok (.aload_n 0, 1) := by decide +kernel
theorem dL_law_2631 : decode cL_law 2631 = .ok (.iload 5, 2) := by decide +kernel
theorem dL_law_2633 : decode cL_law 2633 = .ok (.iconst 1, 1) := by decide +kernel
theorem dL_law_2634 : decode cL_law 2634 = .ok (.iadd, 1) := by decide +kernel
theorem dL_law_2635 : decode cL_law 2635 = .ok (.iaload, 1) := by decide +kernel
theorem dL_law_2636 : decode cL_law 2636 = .ok (.aload_n 3, 1) := by decide +kernel
theorem dL_law_2637 : decode cL_law 2637 = .ok (.invokestatic 298, 3) := by decide +kernel
theorem dL_law_2640 : decode cL_law 2640 = .ok (.istore 6, 2) := by decide +kernel
theorem dL_law_2642 : decode cL_law 2642 = .ok (.aload_n 2, 1) := by decide +kernel
theorem dL_law_2643 : decode cL_law 2643 = .ok (.aload_n 0, 1) := by decide +kernel
theorem dL_law_2644 : decode cL_law 2644 = .ok (.iload 5, 2) := by decide +kernel
theorem dL_law_2646 : decode cL_law 2646 = .ok (.iconst 1, 1) := by decide +kernel
theorem dL_law_2647 : decode cL_law 2647 = .ok (.iadd, 1) := by decide +kernel
theorem dL_law_2648 : decode cL_law 2648 = .ok (.iaload, 1) := by decide +kernel
theorem dL_law_2649 : decode cL_law 2649 = .ok (.invokevirtual 300, 3) := by decide +kernel
theorem dL_law_2652 : decode cL_law 2652 = .ok (.istore 7, 2) := by decide +kernel
theorem dL_law_2654 : decode cL_law 2654 = .ok (.aload_n 2, 1) := by decide +kernel
theorem dL_law_2655 : decode cL_law 2655 = .ok (.invokevirtual 179, 3) := by decide +kernel
theorem dL_law_2658 : decode cL_law 2658 = .ok (.iload 6, 2) := by decide +kernel
theorem dL_law_2660 : decode cL_law 2660 = .ok (.if_icmp .eq 5, 3) := by decide +kernel
theorem dL_law_2665 : decode cL_law 2665 = .ok (.iload 6, 2) := by decide +kernel
theorem dL_law_2667 : decode cL_law 2667 = .ok (.ifCond .ne 15, 3) := by decide +kernel
theorem dL_law_2682 : decode cL_law 2682 = .ok (.goto 635, 3) := by decide +kernel
theorem dL_law_2685 : decode cL_law 2685 = .ok (.aload_n 1, 1) := by decide +kernel
theorem dL_law_2686 : decode cL_law 2686 = .ok (.aload_n 0, 1) := by decide +kernel
theorem dL_law_2687 : decode cL_law 2687 = .ok (.iload 5, 2) := by decide +kernel
theorem dL_law_2689 : decode cL_law 2689 = .ok (.iconst 1, 1) := by decide +kernel
theorem dL_law_2690 : decode cL_law 2690 = .ok (.iadd, 1) := by decide +kernel
theorem dL_law_2691 : decode cL_law 2691 = .ok (.iaload, 1) := by decide +kernel
theorem dL_law_2692 : decode cL_law 2692 = .ok (.aload_n 0, 1) := by decide +kernel
theorem dL_law_2693 : decode cL_law 2693 = .ok (.iload 5, 2) := by decide +kernel
theorem dL_law_2695 : decode cL_law 2695 = .ok (.iconst 2, 1) := by decide +kernel
theorem dL_law_2696 : decode cL_law 2696 = .ok (.iadd, 1) := by decide +kernel
theorem dL_law_2697 : decode cL_law 2697 = .ok (.iaload, 1) := by decide +kernel
theorem dL_law_2698 : decode cL_law 2698 = .ok (.aload_n 3, 1) := by decide +kernel
theorem dL_law_2699 : decode cL_law 2699 = .ok (.invokestatic 301, 3) := by decide +kernel
theorem dL_law_2702 : decode cL_law 2702 = .ok (.istore 6, 2) := by decide +kernel
theorem dL_law_2704 : decode cL_law 2704 = .ok (.aload_n 2, 1) := by decide +kernel
theorem dL_law_2705 : decode cL_law 2705 = .ok (.aload_n 0, 1) := by decide +kernel
theorem dL_law_2706 : decode cL_law 2706 = .ok (.iload 5, 2) := by decide +kernel
theorem dL_law_2708 : decode cL_law 2708 = .ok (.iconst 1, 1) := by decide +kernel
theorem dL_law_2709 : decode cL_law 2709 = .ok (.iadd, 1) := by decide +kernel
theorem dL_law_2710 : decode cL_law 2710 = .ok (.iaload, 1) := by decide +kernel
theorem dL_law_2711 : decode cL_law 2711 = .ok (.aload_n 0, 1) := by decide +kernel
theorem dL_law_2712 : decode cL_law 2712 = .ok (.iload 5, 2) := by decide +kernel
theorem dL_law_2714 : decode cL_law 2714 = .ok (.iconst 2, 1) := by decide +kernel
theorem dL_law_2715 : decode cL_law 2715 = .ok (.iadd, 1) := by decide +kernel
theorem dL_law_2716 : decode cL_law 2716 = .ok (.iaload, 1) := by decide +kernel
theorem dL_law_2717 : decode cL_law 2717 = .ok (.invokevirtual 303, 3) := by decide +kernel
theorem dL_law_2720 : decode cL_law 2720 = .ok (.istore 7, 2) := by decide +kernel
theorem dL_law_2722 : decode cL_law 2722 = .ok (.aload_n 2, 1) := by decide +kernel
theorem dL_law_2723 : decode cL_law 2723 = .ok (.invokevirtual 179, 3) := by decide +kernel
theorem dL_law_2726 : decode cL_law 2726 = .ok (.iload 6, 2) := by decide +kernel
theorem dL_law_2728 : decode cL_law 2728 = .ok (.if_icmp .eq 5, 3) := by decide +kernel
theorem dL_law_2733 : decode cL_law 2733 = .ok (.iload 6, 2) := by decide +kernel
theorem dL_law_2735 : decode cL_law 2735 = .ok (.ifCond .ne 15, 3) := by decide +kernel
theorem dL_law_2750 : decode cL_law 2750 = .ok (.goto 567, 3) := by decide +kernel
theorem dL_law_2753 : decode cL_law 2753 = .ok (.aload_n 1, 1) := by decide +kernel
theorem dL_law_2754 : decode cL_law 2754 = .ok (.aload_n 0, 1) := by decide +kernel
theorem dL_law_2755 : decode cL_law 2755 = .ok (.iload 5, 2) := by decide +kernel
theorem dL_law_2757 : decode cL_law 2757 = .ok (.iconst 1, 1) := by decide +kernel
theorem dL_law_2758 : decode cL_law 2758 = .ok (.iadd, 1) := by decide +kernel
theorem dL_law_2759 : decode cL_law 2759 = .ok (.iaload, 1) := by decide +kernel
theorem dL_law_2760 : decode cL_law 2760 = .ok (.aload_n 3, 1) := by decide +kernel
theorem dL_law_2761 : decode cL_law 2761 = .ok (.invokestatic 304, 3) := by decide +kernel
theorem dL_law_2764 : decode cL_law 2764 = .ok (.istore 6, 2) := by decide +kernel
theorem dL_law_2766 : decode cL_law 2766 = .ok (.aload_n 2, 1) := by decide +kernel
theorem dL_law_2767 : decode cL_law 2767 = .ok (.aload_n 0, 1) := by decide +kernel
theorem dL_law_2768 : decode cL_law 2768 = .ok (.iload 5, 2) := by decide +kernel
theorem dL_law_2770 : decode cL_law 2770 = .ok (.iconst 1, 1) := by decide +kernel
theorem dL_law_2771 : decode cL_law 2771 = .ok (.iadd, 1) := by decide +kernel
theorem dL_law_2772 : decode cL_law 2772 = .ok (.iaload, 1) := by decide +kernel
theorem dL_law_2773 : decode cL_law 2773 = .ok (.invokevirtual 306, 3) := by decide +kernel
theorem dL_law_2776 : decode cL_law 2776 = .ok (.istore 7, 2) := by decide +kernel
theorem dL_law_2778 : decode cL_law 2778 = .ok (.aload_n 2, 1) := by decide +kernel
theorem dL_law_2779 : decode cL_law 2779 = .ok (.invokevirtual 179, 3) := by decide +kernel
theorem dL_law_2782 : decode cL_law 2782 = .ok (.iload 6, 2) := by decide +kernel
theorem dL_law_2784 : decode cL_law 2784 = .ok (.if_icmp .eq 5, 3) := by decide +kernel
theorem dL_law_2789 : decode cL_law 2789 = .ok (.iload 6, 2) := by decide +kernel
theorem dL_law_2791 : decode cL_law 2791 = .ok (.ifCond .ne 15, 3) := by decide +kernel
theorem dL_law_2806 : decode cL_law 2806 = .ok (.goto 511, 3) := by decide +kernel
theorem dL_law_2809 : decode cL_law 2809 = .ok (.aload_n 1, 1) := by decide +kernel
theorem dL_law_2810 : decode cL_law 2810 = .ok (.aload_n 0, 1) := by decide +kernel
theorem dL_law_2811 : decode cL_law 2811 = .ok (.iload 5, 2) := by decide +kernel
theorem dL_law_2813 : decode cL_law 2813 = .ok (.iconst 1, 1) := by decide +kernel
theorem dL_law_2814 : decode cL_law 2814 = .ok (.iadd, 1) := by decide +kernel
theorem dL_law_2815 : decode cL_law 2815 = .ok (.iaload, 1) := by decide +kernel
theorem dL_law_2816 : decode cL_law 2816 = .ok (.aload_n 0, 1) := by decide +kernel
theorem dL_law_2817 : decode cL_law 2817 = .ok (.iload 5, 2) := by decide +kernel
theorem dL_law_2819 : decode cL_law 2819 = .ok (.iconst 2, 1) := by decide +kernel
theorem dL_law_2820 : decode cL_law 2820 = .ok (.iadd, 1) := by decide +kernel
theorem dL_law_2821 : decode cL_law 2821 = .ok (.iaload, 1) := by decide +kernel
theorem dL_law_2822 : decode cL_law 2822 = .ok (.aload_n 0, 1) := by decide +kernel
theorem dL_law_2823 : decode cL_law 2823 = .ok (.iload 5, 2) := by decide +kernel
theorem dL_law_2825 : decode cL_law 2825 = .ok (.iconst 3, 1) := by decide +kernel
theorem dL_law_2826 : decode cL_law 2826 = .ok (.iadd, 1) := by decide +kernel
theorem dL_law_2827 : decode cL_law 2827 = .ok (.iaload, 1) := by decide +kernel
theorem dL_law_2828 : decode cL_law 2828 = .ok (.aload_n 0, 1) := by decide +kernel
theorem dL_law_2829 : decode cL_law 2829 = .ok (.iload 5, 2) := by decide +kernel
theorem dL_law_2831 : decode cL_law 2831 = .ok (.iconst 4, 1) := by decide +kernel
theorem dL_law_2832 : decode cL_law 2832 = .ok (.iadd, 1) := by decide +kernel
theorem dL_law_2833 : decode cL_law 2833 = .ok (.iaload, 1) := by decide +kernel
theorem dL_law_2834 : decode cL_law 2834 = .ok (.aload_n 3, 1) := by decide +kernel
theorem dL_law_2835 : decode cL_law 2835 = .ok (.invokestatic 307, 3) := by decide +kernel
theorem dL_law_2838 : decode cL_law 2838 = .ok (.istore 6, 2) := by decide +kernel
theorem dL_law_2840 : decode cL_law 2840 = .ok (.aload_n 2, 1) := by decide +kernel
theorem dL_law_2841 : decode cL_law 2841 = .ok (.aload_n 0, 1) := by decide +kernel
theorem dL_law_2842 : decode cL_law 2842 = .ok (.iload 5, 2) := by decide +kernel
theorem dL_law_2844 : decode cL_law 2844 = .ok (.iconst 1, 1) := by decide +kernel
theorem dL_law_2845 : decode cL_law 2845 = .ok (.iadd, 1) := by decide +kernel
theorem dL_law_2846 : decode cL_law 2846 = .ok (.iaload, 1) := by decide +kernel
theorem dL_law_2847 : decode cL_law 2847 = .ok (.aload_n 0, 1) := by decide +kernel
theorem dL_law_2848 : decode cL_law 2848 = .ok (.iload 5, 2) := by decide +kernel
theorem dL_law_2850 : decode cL_law 2850 = .ok (.iconst 2, 1) := by decide +kernel
theorem dL_law_2851 : decode cL_law 2851 = .ok (.iadd, 1) := by decide +kernel
theorem dL_law_2852 : decode cL_law 2852 = .ok (.iaload, 1) := by decide +kernel
theorem dL_law_2853 : decode cL_law 2853 = .ok (.aload_n 0, 1) := by decide +kernel
theorem dL_law_2854 : decode cL_law 2854 = .ok (.iload 5, 2) := by decide +kernel
theorem dL_law_2856 : decode cL_law 2856 = .ok (.iconst 3, 1) := by decide +kernel
theorem dL_law_2857 : decode cL_law 2857 = .ok (.iadd, 1) := by decide +kernel
theorem dL_law_2858 : decode cL_law 2858 = .ok (.iaload, 1) := by decide +kernel
theorem dL_law_2859 : decode cL_law 2859 = .ok (.aload_n 0, 1) := by decide +kernel
theorem dL_law_2860 : decode cL_law 2860 = .ok (.iload 5, 2) := by decide +kernel
theorem dL_law_2862 : decode cL_law 2862 = .ok (.iconst 4, 1) := by decide +kernel
theorem dL_law_2863 : decode cL_law 2863 = .ok (.iadd, 1) := by decide +kernel
theorem dL_law_2864 : decode cL_law 2864 = .ok (.iaload, 1) := by decide +kernel
theorem dL_law_2865 : decode cL_law 2865 = .ok (.invokevirtual 309, 3) := by decide +kernel
theorem dL_law_2868 : decode cL_law 2868 = .ok (.istore 7, 2) := by decide +kernel
theorem dL_law_2870 : decode cL_law 2870 = .ok (.aload_n 2, 1) := by decide +kernel
theorem dL_law_2871 : decode cL_law 2871 = .ok (.invokevirtual 179, 3) := by decide +kernel
theorem dL_law_2874 : decode cL_law 2874 = .ok (.iload 6, 2) := by decide +kernel
theorem dL_law_2876 : decode cL_law 2876 = .ok (.if_icmp .eq 5, 3) := by decide +kernel
theorem dL_law_2881 : decode cL_law 2881 = .ok (.iload 6, 2) := by decide +kernel
theorem dL_law_2883 : decode cL_law 2883 = .ok (.ifCond .ne 15, 3) := by decide +kernel
theorem dL_law_2898 : decode cL_law 2898 = .ok (.goto 419, 3) := by decide +kernel
theorem dL_law_2901 : decode cL_law 2901 = .ok (.aload_n 1, 1) := by decide +kernel
theorem dL_law_2902 : decode cL_law 2902 = .ok (.aload_n 0, 1) := by decide +kernel
theorem dL_law_2903 : decode cL_law 2903 = .ok (.iload 5, 2) := by decide +kernel
theorem dL_law_2905 : decode cL_law 2905 = .ok (.iconst 1, 1) := by decide +kernel
theorem dL_law_2906 : decode cL_law 2906 = .ok (.iadd, 1) := by decide +kernel
theorem dL_law_2907 : decode cL_law 2907 = .ok (.iaload, 1) := by decide +kernel
theorem dL_law_2908 : decode cL_law 2908 = .ok (.aload_n 0, 1) := by decide +kernel
theorem dL_law_2909 : decode cL_law 2909 = .ok (.iload 5, 2) := by decide +kernel
theorem dL_law_2911 : decode cL_law 2911 = .ok (.iconst 2, 1) := by decide +kernel
theorem dL_law_2912 : decode cL_law 2912 = .ok (.iadd, 1) := by decide +kernel
theorem dL_law_2913 : decode cL_law 2913 = .ok (.iaload, 1) := by decide +kernel
theorem dL_law_2914 : decode cL_law 2914 = .ok (.aload_n 0, 1) := by decide +kernel
theorem dL_law_2915 : decode cL_law 2915 = .ok (.iload 5, 2) := by decide +kernel
theorem dL_law_2917 : decode cL_law 2917 = .ok (.iconst 3, 1) := by decide +kernel
theorem dL_law_2918 : decode cL_law 2918 = .ok (.iadd, 1) := by decide +kernel
theorem dL_law_2919 : decode cL_law 2919 = .ok (.iaload, 1) := by decide +kernel
theorem dL_law_2920 : decode cL_law 2920 = .ok (.aload_n 0, 1) := by decide +kernel
theorem dL_law_2921 : decode cL_law 2921 = .ok (.iload 5, 2) := by decide +kernel
theorem dL_law_2923 : decode cL_law 2923 = .ok (.iconst 4, 1) := by decide +kernel
theorem dL_law_2924 : decode cL_law 2924 = .ok (.iadd, 1) := by decide +kernel
theorem dL_law_2925 : decode cL_law 2925 = .ok (.iaload, 1) := by decide +kernel
theorem dL_law_2926 : decode cL_law 2926 = .ok (.ifCond .eq 7, 3) := by decide +kernel
theorem dL_law_2929 : decode cL_law 2929 = .ok (.iconst 1, 1) := by decide +kernel
theorem dL_law_2930 : decode cL_law 2930 = .ok (.goto 4, 3) := by decide +kernel
theorem dL_law_2933 : decode cL_law 2933 = .ok (.iconst 0, 1) := by decide +kernel
theorem dL_law_2934 : decode cL_law 2934 = .ok (.aload_n 0, 1) := by decide +kernel
theorem dL_law_2935 : decode cL_law 2935 = .ok (.iload 5, 2) := by decide +kernel
theorem dL_law_2937 : decode cL_law 2937 = .ok (.iconst 5, 1) := by decide +kernel
theorem dL_law_2938 : decode cL_law 2938 = .ok (.iadd, 1) := by decide +kernel
theorem dL_law_2939 : decode cL_law 2939 = .ok (.iaload, 1) := by decide +kernel
theorem dL_law_2940 : decode cL_law 2940 = .ok (.aload_n 0, 1) := by decide +kernel
theorem dL_law_2941 : decode cL_law 2941 = .ok (.iload 5, 2) := by decide +kernel
theorem dL_law_2943 : decode cL_law 2943 = .ok (.bipush 6, 2) := by decide +kernel
theorem dL_law_2945 : decode cL_law 2945 = .ok (.iadd, 1) := by decide +kernel
theorem dL_law_2946 : decode cL_law 2946 = .ok (.iaload, 1) := by decide +kernel
theorem dL_law_2947 : decode cL_law 2947 = .ok (.aload_n 3, 1) := by decide +kernel
theorem dL_law_2948 : decode cL_law 2948 = .ok (.invokestatic 310, 3) := by decide +kernel
theorem dL_law_2951 : decode cL_law 2951 = .ok (.istore 6, 2) := by decide +kernel
theorem dL_law_2953 : decode cL_law 2953 = .ok (.aload_n 2, 1) := by decide +kernel
theorem dL_law_2954 : decode cL_law 2954 = .ok (.aload_n 0, 1) := by decide +kernel
theorem dL_law_2955 : decode cL_law 2955 = .ok (.iload 5, 2) := by decide +kernel
theorem dL_law_2957 : decode cL_law 2957 = .ok (.iconst 1, 1) := by decide +kernel
theorem dL_law_2958 : decode cL_law 2958 = .ok (.iadd, 1) := by decide +kernel
theorem dL_law_2959 : decode cL_law 2959 = .ok (.iaload, 1) := by decide +kernel
theorem dL_law_2960 : decode cL_law 2960 = .ok (.aload_n 0, 1) := by decide +kernel
theorem dL_law_2961 : decode cL_law 2961 = .ok (.iload 5, 2) := by decide +kernel
theorem dL_law_2963 : decode cL_law 2963 = .ok (.iconst 2, 1) := by decide +kernel
theorem dL_law_2964 : decode cL_law 2964 = .ok (.iadd, 1) := by decide +kernel
theorem dL_law_2965 : decode cL_law 2965 = .ok (.iaload, 1) := by decide +kernel
theorem dL_law_2966 : decode cL_law 2966 = .ok (.aload_n 0, 1) := by decide +kernel
theorem dL_law_2967 : decode cL_law 2967 = .ok (.iload 5, 2) := by decide +kernel
theorem dL_law_2969 : decode cL_law 2969 = .ok (.iconst 3, 1) := by decide +kernel
theorem dL_law_2970 : decode cL_law 2970 = .ok (.iadd, 1) := by decide +kernel
theorem dL_law_2971 : decode cL_law 2971 = .ok (.iaload, 1) := by decide +kernel
theorem dL_law_2972 : decode cL_law 2972 = .ok (.aload_n 0, 1) := by decide +kernel
theorem dL_law_2973 : decode cL_law 2973 = .ok (.iload 5, 2) := by decide +kernel
theorem dL_law_2975 : decode cL_law 2975 = .ok (.iconst 4, 1) := by decide +kernel
theorem dL_law_2976 : decode cL_law 2976 = .ok (.iadd, 1) := by decide +kernel
theorem dL_law_2977 : decode cL_law 2977 = .ok (.iaload, 1) := by decide +kernel
theorem dL_law_2978 : decode cL_law 2978 = .ok (.ifCond .eq 7, 3) := by decide +kernel
theorem dL_law_2981 : decode cL_law 2981 = .ok (.iconst 1, 1) := by decide +kernel
theorem dL_law_2982 : decode cL_law 2982 = .ok (.goto 4, 3) := by decide +kernel
theorem dL_law_2985 : decode cL_law 2985 = .ok (.iconst 0, 1) := by decide +kernel
theorem dL_law_2986 : decode cL_law 2986 = .ok (.aload_n 0, 1) := by decide +kernel
theorem dL_law_2987 : decode cL_law 2987 = .ok (.iload 5, 2) := by decide +kernel
theorem dL_law_2989 : decode cL_law 2989 = .ok (.iconst 5, 1) := by decide +kernel
theorem dL_law_2990 : decode cL_law 2990 = .ok (.iadd, 1) := by decide +kernel
theorem dL_law_2991 : decode cL_law 2991 = .ok (.iaload, 1) := by decide +kernel
theorem dL_law_2992 : decode cL_law 2992 = .ok (.aload_n 0, 1) := by decide +kernel
theorem dL_law_2993 : decode cL_law 2993 = .ok (.iload 5, 2) := by decide +kernel
theorem dL_law_2995 : decode cL_law 2995 = .ok (.bipush 6, 2) := by decide +kernel
theorem dL_law_2997 : decode cL_law 2997 = .ok (.iadd, 1) := by decide +kernel
theorem dL_law_2998 : decode cL_law 2998 = .ok (.iaload, 1) := by decide +kernel
theorem dL_law_2999 : decode cL_law 2999 = .ok (.invokevirtual 313, 3) := by decide +kernel
theorem dL_law_3002 : decode cL_law 3002 = .ok (.istore 7, 2) := by decide +kernel
theorem dL_law_3004 : decode cL_law 3004 = .ok (.aload_n 2, 1) := by decide +kernel
theorem dL_law_3005 : decode cL_law 3005 = .ok (.invokevirtual 179, 3) := by decide +kernel
theorem dL_law_3008 : decode cL_law 3008 = .ok (.iload 6, 2) := by decide +kernel
theorem dL_law_3010 : decode cL_law 3010 = .ok (.if_icmp .eq 5, 3) := by decide +kernel
theorem dL_law_3015 : decode cL_law 3015 = .ok (.iload 6, 2) := by decide +kernel
theorem dL_law_3017 : decode cL_law 3017 = .ok (.ifCond .ne 15, 3) := by decide +kernel
theorem dL_law_3032 : decode cL_law 3032 = .ok (.goto 285, 3) := by decide +kernel
theorem dL_law_3035 : decode cL_law 3035 = .ok (.aload_n 1, 1) := by decide +kernel
theorem dL_law_3036 : decode cL_law 3036 = .ok (.aload_n 0, 1) := by decide +kernel
theorem dL_law_3037 : decode cL_law 3037 = .ok (.iload 5, 2) := by decide +kernel
theorem dL_law_3039 : decode cL_law 3039 = .ok (.iconst 1, 1) := by decide +kernel
theorem dL_law_3040 : decode cL_law 3040 = .ok (.iadd, 1) := by decide +kernel
theorem dL_law_3041 : decode cL_law 3041 = .ok (.iaload, 1) := by decide +kernel
theorem dL_law_3042 : decode cL_law 3042 = .ok (.aload_n 3, 1) := by decide +kernel
theorem dL_law_3043 : decode cL_law 3043 = .ok (.invokestatic 314, 3) := by decide +kernel
theorem dL_law_3046 : decode cL_law 3046 = .ok (.istore 6, 2) := by decide +kernel
theorem dL_law_3048 : decode cL_law 3048 = .ok (.aload_n 2, 1) := by decide +kernel
theorem dL_law_3049 : decode cL_law 3049 = .ok (.aload_n 0, 1) := by decide +kernel
theorem dL_law_3050 : decode cL_law 3050 = .ok (.iload 5, 2) := by decide +kernel
theorem dL_law_3052 : decode cL_law 3052 = .ok (.iconst 1, 1) := by decide +kernel
theorem dL_law_3053 : decode cL_law 3053 = .ok (.iadd, 1) := by decide +kernel
theorem dL_law_3054 : decode cL_law 3054 = .ok (.iaload, 1) := by decide +kernel
theorem dL_law_3055 : decode cL_law 3055 = .ok (.invokevirtual 316, 3) := by decide +kernel
theorem dL_law_3058 : decode cL_law 3058 = .ok (.istore 7, 2) := by decide +kernel
theorem dL_law_3060 : decode cL_law 3060 = .ok (.aload_n 2, 1) := by decide +kernel
theorem dL_law_3061 : decode cL_law 3061 = .ok (.invokevirtual 179, 3) := by decide +kernel
theorem dL_law_3064 : decode cL_law 3064 = .ok (.iload 6, 2) := by decide +kernel
theorem dL_law_3066 : decode cL_law 3066 = .ok (.if_icmp .eq 5, 3) := by decide +kernel
theorem dL_law_3071 : decode cL_law 3071 = .ok (.iload 6, 2) := by decide +kernel
theorem dL_law_3073 : decode cL_law 3073 = .ok (.ifCond .ne 15, 3) := by decide +kernel
theorem dL_law_3088 : decode cL_law 3088 = .ok (.goto 229, 3) := by decide +kernel
theorem dL_law_3091 : decode cL_law 3091 = .ok (.aload_n 1, 1) := by decide +kernel
theorem dL_law_3092 : decode cL_law 3092 = .ok (.invokevirtual 317, 3) := by decide +kernel
theorem dL_law_3095 : decode cL_law 3095 = .ok (.aload_n 2, 1) := by decide +kernel
theorem dL_law_3096 : decode cL_law 3096 = .ok (.invokevirtual 320, 3) := by decide +kernel
theorem dL_law_3099 : decode cL_law 3099 = .ok (.if_icmp .eq 218, 3) := by decide +kernel
theorem dL_law_3104 : decode cL_law 3104 = .ok (.aload_n 1, 1) := by decide +kernel
theorem dL_law_3105 : decode cL_law 3105 = .ok (.invokevirtual 321, 3) := by decide +kernel
theorem dL_law_3108 : decode cL_law 3108 = .ok (.aload_n 2, 1) := by decide +kernel
theorem dL_law_3109 : decode cL_law 3109 = .ok (.invokevirtual 325, 3) := by decide +kernel
theorem dL_law_3112 : decode cL_law 3112 = .ok (.lcmp, 1) := by decide +kernel
theorem dL_law_3113 : decode cL_law 3113 = .ok (.ifCond .eq 204, 3) := by decide +kernel
theorem dL_law_3118 : decode cL_law 3118 = .ok (.aload_n 1, 1) := by decide +kernel
theorem dL_law_3119 : decode cL_law 3119 = .ok (.aload_n 0, 1) := by decide +kernel
theorem dL_law_3120 : decode cL_law 3120 = .ok (.iload 5, 2) := by decide +kernel
theorem dL_law_3122 : decode cL_law 3122 = .ok (.iconst 1, 1) := by decide +kernel
theorem dL_law_3123 : decode cL_law 3123 = .ok (.iadd, 1) := by decide +kernel
theorem dL_law_3124 : decode cL_law 3124 = .ok (.iaload, 1) := by decide +kernel
theorem dL_law_3125 : decode cL_law 3125 = .ok (.aload_n 3, 1) := by decide +kernel
theorem dL_law_3126 : decode cL_law 3126 = .ok (.invokestatic 326, 3) := by decide +kernel
theorem dL_law_3129 : decode cL_law 3129 = .ok (.istore 6, 2) := by decide +kernel
theorem dL_law_3131 : decode cL_law 3131 = .ok (.aload_n 2, 1) := by decide +kernel
theorem dL_law_3132 : decode cL_law 3132 = .ok (.aload_n 0, 1) := by decide +kernel
theorem dL_law_3133 : decode cL_law 3133 = .ok (.iload 5, 2) := by decide +kernel
theorem dL_law_3135 : decode cL_law 3135 = .ok (.iconst 1, 1) := by decide +kernel
theorem dL_law_3136 : decode cL_law 3136 = .ok (.iadd, 1) := by decide +kernel
theorem dL_law_3137 : decode cL_law 3137 = .ok (.iaload, 1) := by decide +kernel
theorem dL_law_3138 : decode cL_law 3138 = .ok (.invokevirtual 328, 3) := by decide +kernel
theorem dL_law_3141 : decode cL_law 3141 = .ok (.lstore 7, 2) := by decide +kernel
theorem dL_law_3143 : decode cL_law 3143 = .ok (.aload_n 2, 1) := by decide +kernel
theorem dL_law_3144 : decode cL_law 3144 = .ok (.invokevirtual 179, 3) := by decide +kernel
theorem dL_law_3147 : decode cL_law 3147 = .ok (.iload 6, 2) := by decide +kernel
theorem dL_law_3149 : decode cL_law 3149 = .ok (.if_icmp .eq 5, 3) := by decide +kernel
theorem dL_law_3154 : decode cL_law 3154 = .ok (.iload 6, 2) := by decide +kernel
theorem dL_law_3156 : decode cL_law 3156 = .ok (.ifCond .ne 14, 3) := by decide +kernel
theorem dL_law_3159 : decode cL_law 3159 = .ok (.aload_n 3, 1) := by decide +kernel
theorem dL_law_3160 : decode cL_law 3160 = .ok (.iconst 0, 1) := by decide +kernel
theorem dL_law_3161 : decode cL_law 3161 = .ok (.laload, 1) := by decide +kernel
theorem dL_law_3162 : decode cL_law 3162 = .ok (.lload 7, 2) := by decide +kernel
theorem dL_law_3164 : decode cL_law 3164 = .ok (.lcmp, 1) := by decide +kernel
theorem dL_law_3165 : decode cL_law 3165 = .ok (.ifCond .eq 5, 3) := by decide +kernel
theorem dL_law_3170 : decode cL_law 3170 = .ok (.goto 147, 3) := by decide +kernel
theorem dL_law_3173 : decode cL_law 3173 = .ok (.aload_n 1, 1) := by decide +kernel
theorem dL_law_3174 : decode cL_law 3174 = .ok (.aload 4, 2) := by decide +kernel
theorem dL_law_3176 : decode cL_law 3176 = .ok (.invokestatic 329, 3) := by decide +kernel
theorem dL_law_3179 : decode cL_law 3179 = .ok (.istore 6, 2) := by decide +kernel
theorem dL_law_3181 : decode cL_law 3181 = .ok (.aload_n 2, 1) := by decide +kernel
theorem dL_law_3182 : decode cL_law 3182 = .ok (.invokevirtual 332, 3) := by decide +kernel
theorem dL_law_3185 : decode cL_law 3185 = .ok (.fstore 7, 2) := by decide +kernel
theorem dL_law_3187 : decode cL_law 3187 = .ok (.aload_n 2, 1) := by decide +kernel
theorem dL_law_3188 : decode cL_law 3188 = .ok (.invokevirtual 179, 3) := by decide +kernel
theorem dL_law_3191 : decode cL_law 3191 = .ok (.iload 6, 2) := by decide +kernel
theorem dL_law_3193 : decode cL_law 3193 = .ok (.if_icmp .eq 5, 3) := by decide +kernel
theorem dL_law_3198 : decode cL_law 3198 = .ok (.iload 6, 2) := by decide +kernel
theorem dL_law_3200 : decode cL_law 3200 = .ok (.ifCond .ne 36, 3) := by decide +kernel
theorem dL_law_3236 : decode cL_law 3236 = .ok (.goto 81, 3) := by decide +kernel
theorem dL_law_3239 : decode cL_law 3239 = .ok (.aload_n 1, 1) := by decide +kernel
theorem dL_law_3240 : decode cL_law 3240 = .ok (.aload 4, 2) := by decide +kernel
theorem dL_law_3242 : decode cL_law 3242 = .ok (.invokestatic 333, 3) := by decide +kernel
theorem dL_law_3245 : decode cL_law 3245 = .ok (.istore 6, 2) := by decide +kernel
theorem dL_law_3247 : decode cL_law 3247 = .ok (.aload_n 2, 1) := by decide +kernel
theorem dL_law_3248 : decode cL_law 3248 = .ok (.invokevirtual 335, 3) := by decide +kernel
theorem dL_law_3251 : decode cL_law 3251 = .ok (.dstore 7, 2) := by decide +kernel
theorem dL_law_3253 : decode cL_law 3253 = .ok (.aload_n 2, 1) := by decide +kernel
theorem dL_law_3254 : decode cL_law 3254 = .ok (.invokevirtual 179, 3) := by decide +kernel
theorem dL_law_3257 : decode cL_law 3257 = .ok (.iload 6, 2) := by decide +kernel
theorem dL_law_3259 : decode cL_law 3259 = .ok (.if_icmp .eq 5, 3) := by decide +kernel
theorem dL_law_3264 : decode cL_law 3264 = .ok (.iload 6, 2) := by decide +kernel
theorem dL_law_3266 : decode cL_law 3266 = .ok (.ifCond .ne 35, 3) := by decide +kernel
theorem dL_law_3301 : decode cL_law 3301 = .ok (.goto 16, 3) := by decide +kernel
theorem dL_law_3304 : decode cL_law 3304 = .ok (.aload_n 1, 1) := by decide +kernel
theorem dL_law_3305 : decode cL_law 3305 = .ok (.invokevirtual 336, 3) := by decide +kernel
theorem dL_law_3308 : decode cL_law 3308 = .ok (.aload_n 2, 1) := by decide +kernel
theorem dL_law_3309 : decode cL_law 3309 = .ok (.invokevirtual 339, 3) := by decide +kernel
theorem dL_law_3312 : decode cL_law 3312 = .ok (.if_icmp .eq 5, 3) := by decide +kernel
