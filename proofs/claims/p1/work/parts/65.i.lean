set_option maxRecDepth 20000
theorem mem_at {big : List Cond} (ws : List Cond) (ps : List Nat) (hp : ws = ps.filterMap (fun i => big[i]?)) : ∀ w ∈ ws, w ∈ big := by
  intro w hw
  rw [hp] at hw
  obtain ⟨i, -, hi⟩ := List.mem_filterMap.mp hw
  exact List.mem_of_getElem? hi
theorem wl_r1 : ∀ w ∈ wsL_law0_r1, w ∈ lw_tbl := mem_at wsL_law0_r1 [116, 117, 74, 1630, 1631, 86, 2516, 2517, 118, 119, 120, 121, 122, 123, 124, 125, 75, 540, 320, 321, 79, 541, 383, 384] (by decide +kernel)
theorem wl_r2 : ∀ w ∈ wsL_law0_r2, w ∈ lw_tbl := mem_at wsL_law0_r2 [81, 542, 426, 427, 83, 543, 476, 477, 84, 544, 515, 516, 85, 545, 126, 127, 128, 129, 130, 270, 132, 273, 134, 275] (by decide +kernel)
theorem wl_r3 : ∀ w ∈ wsL_law0_r3, w ∈ lw_tbl := mem_at wsL_law0_r3 [136, 76, 276, 278, 280, 295, 175, 77, 183, 185, 187, 190, 232, 78, 137, 138, 139, 140, 176, 177, 178, 179, 180, 182] (by decide +kernel)
theorem wl_r4 : ∀ w ∈ wsL_law0_r4, w ∈ lw_tbl := mem_at wsL_law0_r4 [184, 186, 189, 181, 233, 234, 235, 236, 322, 323, 324, 325, 326, 371, 370, 328, 80, 329, 330, 331, 332, 385, 386, 387] (by decide +kernel)
theorem wl_r5 : ∀ w ∈ wsL_law0_r5, w ∈ lw_tbl := mem_at wsL_law0_r5 [388, 389, 418, 391, 82, 392, 393, 394, 395, 428, 429, 430, 431, 475, 433, 434, 435, 436, 437, 438, 439, 440, 441, 443] (by decide +kernel)
theorem wl_r6 : ∀ w ∈ wsL_law0_r6, w ∈ lw_tbl := mem_at wsL_law0_r6 [432, 478, 479, 480, 481, 483, 484, 485, 487, 488, 490, 492, 482, 517, 518, 519, 520, 521, 1632, 1633, 1634, 1635, 1636, 1637] (by decide +kernel)
theorem wl_r7 : ∀ w ∈ wsL_law0_r7, w ∈ lw_tbl := mem_at wsL_law0_r7 [89, 1669, 1670, 1671, 1672, 1673, 1674, 1675, 1676, 1677, 1638, 1639, 1640, 1648, 1650, 1641, 1642, 88, 1643, 1654, 1644, 1645, 87, 1646] (by decide +kernel)
theorem wl_r8 : ∀ w ∈ wsL_law0_r8, w ∈ lw_tbl := mem_at wsL_law0_r8 [1647, 729, 730, 73, 731, 732, 733, 734, 735, 736, 740, 93, 292, 374, 420, 737, 738, 739, 812, 813, 814, 815, 281, 284] (by decide +kernel)
theorem wl_r9 : ∀ w ∈ wsL_law0_r9, w ∈ lw_tbl := mem_at wsL_law0_r9 [287, 290, 816, 817, 818, 819, 237, 240, 243, 247, 820, 821, 822, 823, 251, 254, 824, 825, 826, 827, 141, 145, 146, 148] (by decide +kernel)
theorem wl_r10 : ∀ w ∈ wsL_law0_r10, w ∈ lw_tbl := mem_at wsL_law0_r10 [150, 154, 157, 1709, 1710, 1711, 1712, 1665, 1666, 1667, 1668, 1739, 1740, 94, 1713, 1714, 1715, 1716, 1718, 45, 1719, 1721, 1725, 1727] (by decide +kernel)
theorem wl_r11 : ∀ w ∈ wsL_law0_r11, w ∈ lw_tbl := mem_at wsL_law0_r11 [1729, 1653, 1731, 1734, 1736, 1738, 1657, 1656, 1741, 1742, 1743, 1744, 1745, 1747, 1750, 1753, 1755, 1757, 1758, 1775, 1778, 1780, 1782, 1783] (by decide +kernel)
theorem wl_r12 : ∀ w ∈ wsL_law0_r12, w ∈ lw_tbl := mem_at wsL_law0_r12 [1785, 46, 1786, 1787, 1789, 47, 1790, 1791, 1793, 48, 1794, 1848, 612, 96, 613, 1849, 1795, 1796, 95, 1797, 1798, 1799, 1800, 1801] (by decide +kernel)
theorem wl_r13 : ∀ w ∈ wsL_law0_r13, w ∈ lw_tbl := mem_at wsL_law0_r13 [1802, 1803, 1804, 97, 1805, 1806, 2551, 1807, 1837, 1838, 1839, 1840, 1841, 1843, 1844, 615, 616, 1845, 1847, 1846, 98, 1705, 1706, 1707] (by decide +kernel)
theorem wl_r14 : ∀ w ∈ wsL_law0_r14, w ∈ lw_tbl := mem_at wsL_law0_r14 [1708, 828, 829, 830, 831, 856, 857, 858, 859, 860, 862, 17, 863, 894, 102, 253, 256, 864, 866, 18, 867, 872, 99, 868] (by decide +kernel)
theorem wl_r15 : ∀ w ∈ wsL_law0_r15, w ∈ lw_tbl := mem_at wsL_law0_r15 [869, 870, 871, 885, 886, 887, 888, 890, 891, 892, 910, 911, 912, 913, 239, 242, 246, 250, 914, 915, 916, 917, 192, 194] (by decide +kernel)
theorem wl_r16 : ∀ w ∈ wsL_law0_r16, w ∈ lw_tbl := mem_at wsL_law0_r16 [195, 196, 198, 200, 202, 204, 142, 918, 919, 920, 921, 922, 1850, 1851, 1852, 1853, 1739, 1854, 1856, 49, 1857, 1859, 1862, 1864] (by decide +kernel)
theorem wl_r17 : ∀ w ∈ wsL_law0_r17, w ∈ lw_tbl := mem_at wsL_law0_r17 [1866, 1867, 1868, 103, 1869, 1870, 1871, 104, 1872, 1873, 1874, 1875, 1876, 1877, 1878, 1879, 1880, 1881, 1883, 50, 1884, 1885, 1886, 105] (by decide +kernel)
theorem wl_r18 : ∀ w ∈ wsL_law0_r18, w ∈ lw_tbl := mem_at wsL_law0_r18 [1887, 1888, 1889, 1890, 1900, 1902, 1904, 1891, 1893, 1894, 1895, 1896, 1898, 923, 924, 925, 926, 927, 928, 929, 244, 248, 1932, 1933] (by decide +kernel)
theorem wl_r19 : ∀ w ∈ wsL_law0_r19, w ∈ lw_tbl := mem_at wsL_law0_r19 [1934, 1935, 930, 931, 932, 934, 935, 936, 937, 948, 106, 197, 199, 188, 191, 143, 938, 940, 19, 941, 942, 943, 944, 945] (by decide +kernel)
set_option maxRecDepth 512
