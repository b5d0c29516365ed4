set_option maxRecDepth 20000 in
theorem ggL_law_L_sheets : GoodIn wsL_law wsL_sheets := goodIn_ca (goodIn_ca (goodIn_r _ [1134, 590, 1135, 1136, 1137, 2, 1138, 29, 1139, 1140, 1141, 1142, 1143, 441, 442, 1144, 1145, 1146, 28, 1147, 1148, 1149, 120, 1150, 1151, 1152, 1153, 1154, 1155, 118, 119, 1156, 1157, 1158, 55, 1159, 362, 361, 1160, 1161, 1162, 1163, 359, 360, 670, 671, 672, 673, 73, 74, 674, 276, 277, 278, 675, 676, 677, 678, 366, 679, 1164, 1165, 1166, 1167, 1168, 1169, 1170, 1171, 1172, 1173, 1174, 1175, 110, 113, 111, 116, 112, 114, 1176, 1177, 1178, 1179, 115, 1180, 1181, 1182, 1183, 117, 1772, 1773, 1774, 1775, 1776, 1777, 1807, 1808, 1809, 1810, 1811, 1812, 1813, 1814, 1815, 1816, 1817, 1818, 1819, 1791, 1792, 1793, 1794, 1795, 1796, 1797, 1798, 1799, 1800, 1801, 1842, 1843, 1844, 1845, 1846, 1847, 1848, 1849, 1850, 1851, 1852, 1853, 1835, 1836, 1837, 1838, 1839, 1840, 1841] (by decide +kernel) (by decide +kernel)) (goodIn_sub (fun _ h => List.mem_append_left _ (List.mem_append_left _ (List.mem_append_left _ (List.mem_append_left _ (List.mem_append_left _ (List.mem_append_left _ (List.mem_append_left _ (List.mem_append_right _ h)))))))) (by decide +kernel))) (goodIn_sub (fun _ h => List.mem_append_left _ (List.mem_append_left _ (List.mem_append_left _ (List.mem_append_right _ h)))) (by decide +kernel))
set_option maxRecDepth 20000 in
theorem gL_law_L_sheets : GoodIn wsL_law (va_wsS RL 260 yL_sheets wsL_sheets) := goodIn_app (goodIn_of _ (by decide +kernel)) ggL_law_L_sheets
set_option maxRecDepth 20000 in
theorem ggL_law_X17_sheets : GoodIn wsL_law wsX17_sheets := goodIn_ca (goodIn_r _ [1187, 223, 684, 276, 277, 278, 1188, 1189, 1190, 5, 1191, 146, 1192, 142, 143, 144, 466, 149, 150, 1193, 109, 237, 238, 239, 240, 241, 154, 155, 156, 157, 158, 159, 160, 161, 162, 163, 164, 165, 166, 167, 168, 12, 13, 622, 623, 624, 625, 626, 627, 628, 629, 630, 631, 632, 633, 634, 635, 247, 636, 637, 638, 639, 640, 641, 642, 643, 644, 645, 646, 647, 648, 649, 650, 1194, 1195, 1196, 407, 1197, 417, 418, 412, 1198, 1199, 1200, 1201, 1202, 420, 419, 1203, 1204, 826, 1205, 1206, 1207, 1208, 1209, 1210, 1211, 1212, 1213, 1214, 1215, 1216, 1217, 1218, 259, 260, 261, 262, 246, 263, 264, 265, 266, 267, 268, 269, 270, 271, 272, 273, 274, 275, 279, 280, 281, 282, 283, 284, 285, 286, 287, 288, 289, 290, 291, 292, 293, 294, 295, 296, 297, 298, 299, 300, 301, 302, 303, 304, 305, 306, 307, 308, 381, 382, 383, 384, 385, 386, 387, 388, 389, 390, 391, 392, 393, 394, 395, 396, 1219, 1220, 1221, 1222, 1223, 1224, 1225, 1226, 233, 234, 235, 236, 1778, 1779, 1780, 1781, 1782, 1783, 1784, 1785, 1786, 1787, 1788, 1789, 1790, 1874, 1875, 1876, 1884, 1885, 1886, 1887, 1888, 1889, 1890, 1891, 1892, 1893, 1894, 1902, 1903, 1904, 1905, 1920] (by decide +kernel) (by decide +kernel)) (goodIn_sub (fun _ h => List.mem_append_left _ (List.mem_append_left _ (List.mem_append_left _ (List.mem_append_left _ (List.mem_append_left _ (List.mem_append_left _ (List.mem_append_left _ (List.mem_append_right _ h)))))))) (by decide +kernel))
set_option maxRecDepth 20000 in
theorem gL_law_X17_sheets : GoodIn wsL_law (wsV RL 262 RX17 yX17_sheets wsX17_sheets) := goodIn_app (goodIn_of _ (by decide +kernel)) ggL_law_X17_sheets
set_option maxRecDepth 20000 in
theorem ggL_law_L_netAt : GoodIn wsL_law wsL_netAt := goodIn_ca (goodIn_ca (goodIn_ca (goodIn_ca (goodIn_r _ [1229, 316, 1230, 1231, 1232, 2, 1233, 178, 179, 29, 448, 449, 450, 451, 333, 334, 17, 452, 453, 454, 16, 455, 193, 43, 1140, 1141, 1142, 1143, 441, 442, 1144, 1145, 1146, 28, 1147, 1148, 1149, 120, 1150, 1151, 1152, 1153, 1154, 1155, 118, 119, 1156, 1157, 1158, 55, 1159, 362, 361, 1160, 1161, 1162, 1163, 359, 360, 670, 671, 672, 673, 73, 74, 674, 276, 277, 278, 675, 676, 677, 678, 366, 679, 1164, 1165, 1166, 1167, 1168, 1169, 1170, 1171, 1172, 1173, 1174, 1175, 110, 113, 111, 116, 112, 114, 1176, 1177, 1178, 1179, 115, 1180, 1181, 1182, 1183, 117, 1234, 1235, 1236, 1237, 1772, 1773, 1774, 1775, 1776, 1777, 1791, 1792, 1793, 1794, 1795, 1796, 1797, 1798, 1799, 1800, 1801, 1807, 1808, 1809, 1810, 1811, 1812, 1813, 1814, 1815, 1816, 1817, 1818, 1819, 1842, 1843, 1844, 1845, 1846, 1847, 1848, 1849, 1850, 1851, 1852, 1853, 1835, 1836, 1837, 1838, 1839, 1840, 1841] (by decide +kernel) (by decide +kernel)) (goodIn_sub (fun _ h => List.mem_append_left _ (List.mem_append_left _ (List.mem_append_left _ (List.mem_append_left _ (List.mem_append_left _ (List.mem_append_left _ (List.mem_append_left _ (List.mem_append_right _ h)))))))) (by decide +kernel))) (goodIn_sub (fun _ h => List.mem_append_left _ (List.mem_append_left _ (List.mem_append_left _ (List.mem_append_left _ (List.mem_append_left _ (List.mem_append_left _ (List.mem_append_right _ h))))))) (by decide +kernel))) (goodIn_sub (fun _ h => List.mem_append_left _ (List.mem_append_left _ (List.mem_append_left _ (List.mem_append_left _ (List.mem_append_right _ h))))) (by decide +kernel))) (goodIn_sub (fun _ h => List.mem_append_left _ (List.mem_append_left _ (List.mem_append_left _ (List.mem_append_right _ h)))) (by decide +kernel))
set_option maxRecDepth 20000 in
theorem gL_law_L_netAt : GoodIn wsL_law (va_wsS RL 263 yL_netAt wsL_netAt) := goodIn_app (goodIn_of _ (by decide +kernel)) ggL_law_L_netAt
set_option maxRecDepth 20000 in
theorem ggL_law_X17_netAt : GoodIn wsL_law wsX17_netAt := goodIn_ca (goodIn_r _ [1241, 223, 467, 468, 469, 5, 470, 146, 237, 238, 239, 144, 240, 241, 230, 231, 232, 233, 234, 235, 236, 1188, 1189, 1190, 1191, 1192, 142, 143, 466, 149, 150, 1193, 109, 154, 155, 156, 157, 158, 159, 160, 161, 162, 163, 164, 165, 166, 167, 168, 12, 13, 622, 623, 624, 625, 626, 627, 628, 629, 630, 631, 632, 633, 634, 635, 247, 636, 637, 638, 639, 640, 641, 642, 643, 644, 645, 646, 647, 648, 649, 650, 1194, 1195, 1196, 407, 1197, 417, 418, 412, 1198, 276, 277, 278, 1199, 1200, 1201, 1202, 420, 419, 1203, 1204, 826, 1205, 1206, 1207, 1208, 1209, 1210, 1211, 1212, 1213, 1214, 1215, 1216, 1217, 1218, 259, 260, 261, 262, 246, 263, 264, 265, 266, 267, 268, 269, 270, 271, 272, 273, 274, 275, 279, 280, 281, 282, 283, 284, 285, 286, 287, 288, 289, 290, 291, 292, 293, 294, 295, 296, 297, 298, 299, 300, 301, 302, 303, 304, 305, 306, 307, 308, 381, 382, 383, 384, 385, 386, 387, 388, 389, 390, 391, 392, 393, 394, 395, 396, 1219, 1220, 1221, 1222, 1223, 1224, 1225, 1226, 1778, 1779, 1780, 1781, 1782, 1783, 1784, 1785, 1786, 1787, 1788, 1789, 1790, 1874, 1875, 1876, 1884, 1885, 1886, 1887, 1888, 1889, 1890, 1891, 1892, 1893, 1894, 1902, 1903, 1904, 1905, 1920] (by decide +kernel) (by decide +kernel)) (goodIn_sub (fun _ h => List.mem_append_left _ (List.mem_append_left _ (List.mem_append_left _ (List.mem_append_left _ (List.mem_append_left _ (List.mem_append_left _ (List.mem_append_left _ (List.mem_append_right _ h)))))))) (by decide +kernel))
set_option maxRecDepth 20000 in
theorem gL_law_X17_netAt : GoodIn wsL_law (wsV RL 266 RX17 yX17_netAt wsX17_netAt) := goodIn_app (goodIn_of _ (by decide +kernel)) ggL_law_X17_netAt
set_option maxRecDepth 20000 in
theorem ggL_law_L_plates : GoodIn wsL_law wsL_plates := goodIn_ca (goodIn_ca (goodIn_ca (goodIn_r _ [1244, 173, 1245, 1246, 1247, 2, 1248, 178, 179, 29, 21, 183, 184, 185, 1140, 1141, 1142, 1143, 441, 442, 1144, 1145, 1146, 28, 1147, 1148, 1149, 120, 1150, 1151, 1152, 1153, 1154, 1155, 118, 119, 1156, 1157, 1158, 55, 1159, 362, 361, 1160, 1161, 1162, 1163, 359, 360, 670, 671, 672, 673, 73, 74, 674, 276, 277, 278, 675, 676, 677, 678, 366, 679, 1164, 1165, 1166, 1167, 1168, 1169, 1170, 1171, 1172, 1173, 1174, 1175, 110, 113, 111, 116, 112, 114, 1176, 1177, 1178, 1179, 115, 1180, 1181, 1182, 1183, 117, 1249, 1250, 1251, 1252, 1253, 1254, 1255, 1256, 1257, 1258, 1259, 1260, 1261, 1262, 1263, 1264, 1772, 1773, 1774, 1775, 1776, 1777, 1807, 1808, 1809, 1810, 1811, 1812, 1813, 1814, 1815, 1816, 1817, 1818, 1819, 1791, 1792, 1793, 1794, 1795, 1796, 1797, 1798, 1799, 1800, 1801, 1842, 1843, 1844, 1845, 1846, 1847, 1848, 1849, 1850, 1851, 1852, 1853, 1835, 1836, 1837, 1838, 1839, 1840, 1841, 1802, 1803, 1804, 1860, 1861, 1862, 1863, 1864, 1865, 1866, 1867] (by decide +kernel) (by decide +kernel)) (goodIn_sub (fun _ h => List.mem_append_left _ (List.mem_append_left _ (List.mem_append_left _ (List.mem_append_left _ (List.mem_append_left _ (List.mem_append_left _ (List.mem_append_left _ (List.mem_append_right _ h)))))))) (by decide +kernel))) (goodIn_sub (fun _ h => List.mem_append_left _ (List.mem_append_left _ (List.mem_append_left _ (List.mem_append_left _ (List.mem_append_left _ (List.mem_append_left _ (List.mem_append_right _ h))))))) (by decide +kernel))) (goodIn_sub (fun _ h => List.mem_append_left _ (List.mem_append_left _ (List.mem_append_left _ (List.mem_append_right _ h)))) (by decide +kernel))
set_option maxRecDepth 20000 in
theorem gL_law_L_plates : GoodIn wsL_law (va_wsS RL 267 yL_plates wsL_plates) := goodIn_app (goodIn_of _ (by decide +kernel)) ggL_law_L_plates
set_option maxRecDepth 20000 in
theorem ggL_law_X17_plates : GoodIn wsL_law wsX17_plates := goodIn_ca (goodIn_r _ [1268, 223, 1269, 147, 896, 230, 231, 5, 232, 233, 234, 235, 236, 1188, 1189, 1190, 1191, 146, 1192, 142, 143, 144, 466, 149, 150, 1193, 109, 237, 238, 239, 240, 241, 154, 155, 156, 157, 158, 159, 160, 161, 162, 163, 164, 165, 166, 167, 168, 12, 13, 622, 623, 624, 625, 626, 627, 628, 629, 630, 631, 632, 633, 634, 635, 247, 636, 637, 638, 639, 640, 641, 642, 643, 644, 645, 646, 647, 648, 649, 650, 1194, 1195, 1196, 407, 1197, 417, 418, 412, 1198, 276, 277, 278, 1199, 1200, 1201, 1202, 420, 419, 1203, 1204, 826, 1205, 1206, 1207, 1208, 1209, 1210, 1211, 1212, 1213, 1214, 1215, 1216, 1217, 1218, 259, 260, 261, 262, 246, 263, 264, 265, 266, 267, 268, 269, 270, 271, 272, 273, 274, 275, 279, 280, 281, 282, 283, 284, 285, 286, 287, 288, 289, 290, 291, 292, 293, 294, 295, 296, 297, 298, 299, 300, 301, 302, 303, 304, 305, 306, 307, 308, 381, 382, 383, 384, 385, 386, 387, 388, 389, 390, 391, 392, 393, 394, 395, 396, 1219, 1220, 1221, 1222, 1223, 1224, 1225, 1226, 1778, 1779, 1780, 1781, 1782, 1783, 1784, 1785, 1786, 1787, 1788, 1789, 1790, 1906, 1907, 1908, 1909, 1910, 1911, 1912, 1913, 1874, 1875, 1876, 1884, 1885, 1886, 1887, 1888, 1889, 1890, 1891, 1892, 1893, 1894, 1902, 1903, 1904, 1905, 1920] (by decide +kernel) (by decide +kernel)) (goodIn_sub (fun _ h => List.mem_append_left _ (List.mem_append_left _ (List.mem_append_left _ (List.mem_append_left _ (List.mem_append_left _ (List.mem_append_left _ (List.mem_append_left _ (List.mem_append_right _ h)))))))) (by decide +kernel))
set_option maxRecDepth 20000 in
theorem gL_law_X17_plates : GoodIn wsL_law (wsV RL 269 RX17 yX17_plates wsX17_plates) := goodIn_app (goodIn_of _ (by decide +kernel)) ggL_law_X17_plates
set_option maxRecDepth 20000 in
theorem ggL_law_L_setGlue : GoodIn wsL_law wsL_setGlue := goodIn_ca (goodIn_ca (goodIn_r _ [1272, 173, 1273, 1274, 1275, 2, 1276, 178, 179, 33, 1277, 183, 184, 185, 1772, 1773, 1774, 1775, 1776, 1777, 1820, 1821, 1822, 1823, 1824, 1825, 1826, 1827, 1828] (by decide +kernel) (by decide +kernel)) (goodIn_sub (fun _ h => List.mem_append_left _ (List.mem_append_left _ (List.mem_append_left _ (List.mem_append_left _ (List.mem_append_left _ (List.mem_append_left _ (List.mem_append_left _ (List.mem_append_right _ h)))))))) (by decide +kernel))) (goodIn_sub (fun _ h => List.mem_append_left _ (List.mem_append_left _ (List.mem_append_left _ (List.mem_append_left _ (List.mem_append_left _ (List.mem_append_left _ (List.mem_append_right _ h))))))) (by decide +kernel))
set_option maxRecDepth 20000 in
theorem gL_law_L_setGlue : GoodIn wsL_law (va_wsS RL 270 yL_setGlue wsL_setGlue) := goodIn_app (goodIn_of _ (by decide +kernel)) ggL_law_L_setGlue
set_option maxRecDepth 20000 in
theorem ggL_law_X17_setGlue : GoodIn wsL_law wsX17_setGlue := goodIn_r _ [1281, 223, 151, 230, 231, 5, 232, 233, 234, 235, 236, 1778, 1779, 1780, 1781, 1782, 1783, 1784, 1785, 1786, 1787, 1788, 1789, 1790] (by decide +kernel) (by decide +kernel)
set_option maxRecDepth 20000 in
theorem gL_law_X17_setGlue : GoodIn wsL_law (wsV RL 272 RX17 yX17_setGlue wsX17_setGlue) := goodIn_app (goodIn_of _ (by decide +kernel)) ggL_law_X17_setGlue
set_option maxRecDepth 20000 in
theorem ggL_law_L_orderAt : GoodIn wsL_law wsL_orderAt := goodIn_ca (goodIn_ca (goodIn_r _ [1284, 946, 1285, 1286, 1287, 2, 1288, 738, 739, 17, 180, 33, 1289, 1290, 1291, 1292, 32, 1293, 132, 1294, 125, 126, 127, 128, 1295, 1296, 1297, 1298, 1299, 1300, 1301, 1302, 1303, 55, 1304, 358, 359, 360, 361, 674, 276, 277, 278, 362, 1305, 303, 304, 1306, 1307, 1308, 1309, 1310, 1311, 1312, 1313, 1314, 1315, 1316, 1317, 1318, 129, 130, 131, 1319, 1320, 1321, 1322, 1323, 1324, 1325, 1326, 1327, 1328, 1329, 1330, 1331, 1332, 1333, 1334, 1335, 1336, 1337, 1338, 1339, 1772, 1773, 1774, 1775, 1776, 1777, 1791, 1792, 1793, 1794, 1795, 1796, 1797, 1798, 1799, 1800, 1801, 1820, 1821, 1822, 1823, 1824, 1825, 1826, 1827, 1828, 1842, 1843, 1844, 1845, 1846, 1847, 1848, 1849, 1850, 1851, 1852, 1853] (by decide +kernel) (by decide +kernel)) (goodIn_sub (fun _ h => List.mem_append_left _ (List.mem_append_left _ (List.mem_append_left _ (List.mem_append_left _ (List.mem_append_left _ (List.mem_append_left _ (List.mem_append_left _ (List.mem_append_right _ h)))))))) (by decide +kernel))) (goodIn_sub (fun _ h => List.mem_append_left _ (List.mem_append_left _ (List.mem_append_right _ h))) (by decide +kernel))
set_option maxRecDepth 20000 in
theorem gL_law_L_orderAt : GoodIn wsL_law (va_wsS RL 273 yL_orderAt wsL_orderAt) := goodIn_app (goodIn_of _ (by decide +kernel)) ggL_law_L_orderAt
set_option maxRecDepth 20000 in
theorem ggL_law_X17_orderAt : GoodIn wsL_law wsX17_orderAt := goodIn_ca (goodIn_r _ [1343, 223, 146, 1193, 237, 238, 239, 144, 240, 241, 230, 231, 5, 232, 1344, 1345, 1346, 1347, 142, 143, 109, 1269, 466, 151, 154, 155, 156, 157, 158, 159, 160, 161, 162, 163, 164, 165, 166, 167, 168, 12, 13, 1348, 1349, 1350, 1351, 1352, 1353, 1354, 1355, 622, 623, 624, 625, 626, 627, 628, 629, 630, 631, 632, 633, 634, 635, 247, 636, 637, 638, 639, 640, 641, 642, 643, 644, 645, 646, 647, 648, 649, 650, 1356, 1357, 1358, 407, 1359, 416, 417, 418, 420, 1360, 303, 277, 304, 419, 1198, 276, 278, 415, 1203, 1204, 826, 1205, 1206, 1207, 1208, 1209, 1210, 1211, 1212, 1213, 1214, 1215, 1216, 1217, 1218, 259, 260, 261, 262, 246, 263, 264, 265, 266, 267, 268, 269, 270, 271, 272, 273, 274, 275, 279, 280, 281, 282, 283, 284, 285, 286, 287, 288, 289, 290, 291, 292, 293, 294, 295, 296, 297, 298, 299, 300, 301, 302, 305, 306, 307, 308, 381, 382, 383, 384, 385, 386, 387, 388, 389, 390, 391, 392, 393, 394, 395, 396, 1361, 1362, 1363, 1364, 1365, 1200, 1201, 1202, 1219, 1220, 1221, 1222, 233, 234, 235, 236, 1778, 1779, 1780, 1781, 1782, 1783, 1784, 1785, 1786, 1787, 1788, 1789, 1790, 1874, 1875, 1876, 1884, 1885, 1886, 1887, 1888, 1889, 1890, 1891, 1892, 1893, 1894, 1902, 1903, 1904, 1905, 1877, 1878, 1879, 1880, 1881, 1882, 1883, 1920] (by decide +kernel) (by decide +kernel)) (goodIn_sub (fun _ h => List.mem_append_left _ (List.mem_append_left _ (List.mem_append_left _ (List.mem_append_left _ (List.mem_append_left _ (List.mem_append_left _ (List.mem_append_left _ (List.mem_append_right _ h)))))))) (by decide +kernel))
set_option maxRecDepth 20000 in
theorem gL_law_X17_orderAt : GoodIn wsL_law (wsV RL 275 RX17 yX17_orderAt wsX17_orderAt) := goodIn_app (goodIn_of _ (by decide +kernel)) ggL_law_X17_orderAt
set_option maxRecDepth 20000 in
theorem ggL_law_L_begunAt : GoodIn wsL_law wsL_begunAt := goodIn_ca (goodIn_ca (goodIn_r _ [1368, 316, 1369, 1370, 1371, 2, 1372, 33, 1373, 448, 449, 450, 451, 333, 334, 17, 452, 453, 454, 16, 455, 193, 43, 1290, 1291, 1292, 32, 1293, 132, 1294, 125, 126, 127, 128, 1295, 1296, 1297, 1298, 1299, 1300, 1301, 1302, 1303, 55, 1304, 358, 359, 360, 361, 674, 276, 277, 278, 362, 1305, 303, 304, 1306, 1307, 1308, 1309, 1310, 1311, 1312, 1313, 1314, 1315, 1316, 1317, 1318, 129, 130, 131, 1319, 1320, 1321, 1322, 1323, 1324, 1325, 1326, 1327, 1328, 1329, 1330, 1331, 1332, 1333, 1334, 1335, 1336, 1337, 1338, 1339, 1772, 1773, 1774, 1775, 1776, 1777, 1820, 1821, 1822, 1823, 1824, 1825, 1826, 1827, 1828, 1791, 1792, 1793, 1794, 1795, 1796, 1797, 1798, 1799, 1800, 1801, 1842, 1843, 1844, 1845, 1846, 1847, 1848, 1849, 1850, 1851, 1852, 1853] (by decide +kernel) (by decide +kernel)) (goodIn_sub (fun _ h => List.mem_append_left _ (List.mem_append_left _ (List.mem_append_left _ (List.mem_append_left _ (List.mem_append_left _ (List.mem_append_left _ (List.mem_append_left _ (List.mem_append_right _ h)))))))) (by decide +kernel))) (goodIn_sub (fun _ h => List.mem_append_left _ (List.mem_append_left _ (List.mem_append_left _ (List.mem_append_left _ (List.mem_append_right _ h))))) (by decide +kernel))
set_option maxRecDepth 20000 in
theorem gL_law_L_begunAt : GoodIn wsL_law (va_wsS RL 276 yL_begunAt wsL_begunAt) := goodIn_app (goodIn_of _ (by decide +kernel)) ggL_law_L_begunAt
set_option maxRecDepth 20000 in
theorem ggL_law_X17_begunAt : GoodIn wsL_law wsX17_begunAt := goodIn_ca (goodIn_r _ [1377, 223, 1193, 467, 468, 469, 5, 470, 146, 237, 238, 239, 144, 240, 241, 230, 231, 232, 233, 234, 235, 236, 1344, 1345, 1346, 1347, 142, 143, 109, 1269, 466, 151, 154, 155, 156, 157, 158, 159, 160, 161, 162, 163, 164, 165, 166, 167, 168, 12, 13, 1348, 1349, 1350, 1351, 1352, 1353, 1354, 1355, 622, 623, 624, 625, 626, 627, 628, 629, 630, 631, 632, 633, 634, 635, 247, 636, 637, 638, 639, 640, 641, 642, 643, 644, 645, 646, 647, 648, 649, 650, 1356, 1357, 1358, 407, 1359, 416, 417, 418, 420, 1360, 303, 277, 304, 419, 1198, 276, 278, 415, 1203, 1204, 826, 1205, 1206, 1207, 1208, 1209, 1210, 1211, 1212, 1213, 1214, 1215, 1216, 1217, 1218, 259, 260, 261, 262, 246, 263, 264, 265, 266, 267, 268, 269, 270, 271, 272, 273, 274, 275, 279, 280, 281, 282, 283, 284, 285, 286, 287, 288, 289, 290, 291, 292, 293, 294, 295, 296, 297, 298, 299, 300, 301, 302, 305, 306, 307, 308, 381, 382, 383, 384, 385, 386, 387, 388, 389, 390, 391, 392, 393, 394, 395, 396, 1361, 1362, 1363, 1364, 1365, 1200, 1201, 1202, 1219, 1220, 1221, 1222, 1778, 1779, 1780, 1781, 1782, 1783, 1784, 1785, 1786, 1787, 1788, 1789, 1790, 1874, 1875, 1876, 1884, 1885, 1886, 1887, 1888, 1889, 1890, 1891, 1892, 1893, 1894, 1902, 1903, 1904, 1905, 1877, 1878, 1879, 1880, 1881, 1882, 1883, 1920] (by decide +kernel) (by decide +kernel)) (goodIn_sub (fun _ h => List.mem_append_left _ (List.mem_append_left _ (List.mem_append_left _ (List.mem_append_left _ (List.mem_append_left _ (List.mem_append_left _ (List.mem_append_left _ (List.mem_append_right _ h)))))))) (by decide +kernel))
set_option maxRecDepth 20000 in
theorem gL_law_X17_begunAt : GoodIn wsL_law (wsV RL 278 RX17 yX17_begunAt wsX17_begunAt) := goodIn_app (goodIn_of _ (by decide +kernel)) ggL_law_X17_begunAt
set_option maxRecDepth 20000 in
theorem ggL_law_L_waiting : GoodIn wsL_law wsL_waiting := goodIn_ca (goodIn_ca (goodIn_r _ [1380, 316, 1381, 1382, 1383, 2, 1384, 33, 1385, 448, 449, 450, 451, 333, 334, 17, 452, 453, 454, 16, 455, 193, 43, 1290, 1291, 1292, 32, 1293, 132, 1294, 125, 126, 127, 128, 1295, 1296, 1297, 1298, 1299, 1300, 1301, 1302, 1303, 55, 1304, 358, 359, 360, 361, 674, 276, 277, 278, 362, 1305, 303, 304, 1306, 1307, 1308, 1309, 1310, 1311, 1312, 1313, 1314, 1315, 1316, 1317, 1318, 129, 130, 131, 1319, 1320, 1321, 1322, 1323, 1324, 1325, 1326, 1327, 1328, 1329, 1330, 1331, 1332, 1333, 1334, 1335, 1336, 1337, 1338, 1339, 1772, 1773, 1774, 1775, 1776, 1777, 1820, 1821, 1822, 1823, 1824, 1825, 1826, 1827, 1828, 1791, 1792, 1793, 1794, 1795, 1796, 1797, 1798, 1799, 1800, 1801, 1842, 1843, 1844, 1845, 1846, 1847, 1848, 1849, 1850, 1851, 1852, 1853] (by decide +kernel) (by decide +kernel)) (goodIn_sub (fun _ h => List.mem_append_left _ (List.mem_append_left _ (List.mem_append_left _ (List.mem_append_left _ (List.mem_append_left _ (List.mem_append_left _ (List.mem_append_left _ (List.mem_append_right _ h)))))))) (by decide +kernel))) (goodIn_sub (fun _ h => List.mem_append_left _ (List.mem_append_left _ (List.mem_append_left _ (List.mem_append_left _ (List.mem_append_right _ h))))) (by decide +kernel))
set_option maxRecDepth 20000 in
theorem gL_law_L_waiting : GoodIn wsL_law (va_wsS RL 279 yL_waiting wsL_waiting) := goodIn_app (goodIn_of _ (by decide +kernel)) ggL_law_L_waiting
set_option maxRecDepth 20000 in
theorem ggL_law_X17_waiting : GoodIn wsL_law wsX17_waiting := goodIn_ca (goodIn_r _ [1389, 223, 467, 468, 469, 5, 470, 146, 237, 238, 239, 144, 240, 241, 230, 231, 232, 1348, 1349, 1350, 1351, 1352, 1353, 1354, 1355, 1269, 466, 622, 623, 624, 625, 626, 627, 628, 629, 630, 631, 632, 633, 12, 13, 634, 635, 247, 636, 637, 638, 639, 640, 641, 642, 643, 644, 645, 646, 647, 648, 649, 650, 1356, 1357, 1358, 407, 1359, 416, 417, 418, 420, 1360, 303, 277, 304, 419, 1198, 276, 278, 415, 233, 234, 235, 236, 1778, 1779, 1780, 1781, 1782, 1783, 1784, 1785, 1786, 1787, 1788, 1789, 1790, 1874, 1875, 1876, 1884, 1885, 1886, 1887, 1888, 1889, 1890, 1891, 1892, 1893, 1894, 1902, 1903, 1904, 1905, 1877, 1878, 1879, 1880, 1881, 1882, 1883] (by decide +kernel) (by decide +kernel)) (goodIn_sub (fun _ h => List.mem_append_left _ (List.mem_append_left _ (List.mem_append_left _ (List.mem_append_left _ (List.mem_append_left _ (List.mem_append_left _ (List.mem_append_left _ (List.mem_append_right _ h)))))))) (by decide +kernel))
set_option maxRecDepth 20000 in
theorem gL_law_X17_waiting : GoodIn wsL_law (wsV RL 281 RX17 yX17_waiting wsX17_waiting) := goodIn_app (goodIn_of _ (by decide +kernel)) ggL_law_X17_waiting
set_option maxRecDepth 20000 in
theorem ggL_law_X11_makingTime : GoodIn wsL_law wsX11_makingTime := goodIn_ca (goodIn_r _ [1393, 33, 1394, 1290, 1291, 1292, 32, 1293, 132, 1294, 125, 126, 127, 128, 1295, 1296, 1297, 1298, 1299, 1300, 1301, 1302, 1303, 55, 1304, 358, 359, 360, 361, 674, 276, 277, 278, 362, 1305, 303, 304, 1306, 1307, 1308, 1309, 1310, 1311, 1312, 1313, 1314, 1315, 1316, 1317, 1318, 129, 130, 131, 1319, 1320, 1321, 1322, 1323, 1324, 1325, 1326, 1327, 1328, 1329, 1330, 1331, 1332, 1333, 1334, 1335, 1336, 1337, 1338, 1339, 1772, 1773, 1774, 1775, 1776, 1777, 1820, 1821, 1822, 1823, 1824, 1825, 1826, 1827, 1828, 1791, 1792, 1793, 1794, 1795, 1796, 1797, 1798, 1799, 1800, 1801, 1842, 1843, 1844, 1845, 1846, 1847, 1848, 1849, 1850, 1851, 1852, 1853] (by decide +kernel) (by decide +kernel)) (goodIn_sub (fun _ h => List.mem_append_left _ (List.mem_append_left _ (List.mem_append_left _ (List.mem_append_left _ (List.mem_append_left _ (List.mem_append_left _ (List.mem_append_left _ (List.mem_append_right _ h)))))))) (by decide +kernel))
set_option maxRecDepth 20000 in
theorem gL_law_X11_makingTime : GoodIn wsL_law (wsV RL 282 RX11 yX11_makingTime wsX11_makingTime) := goodIn_app (goodIn_of _ (by decide +kernel)) ggL_law_X11_makingTime
set_option maxRecDepth 20000 in
theorem ggL_law_X17_makingTime : GoodIn wsL_law wsX17_makingTime := goodIn_ca (goodIn_r _ [1398, 223, 1193, 146, 466, 1344, 1345, 1346, 5, 1347, 142, 143, 144, 109, 1269, 151, 154, 155, 156, 157, 158, 159, 160, 161, 162, 163, 164, 165, 166, 167, 168, 12, 13, 237, 238, 239, 240, 241, 1348, 1349, 1350, 1351, 1352, 1353, 1354, 1355, 622, 623, 624, 625, 626, 627, 628, 629, 630, 631, 632, 633, 634, 635, 247, 636, 637, 638, 639, 640, 641, 642, 643, 644, 645, 646, 647, 648, 649, 650, 1356, 1357, 1358, 407, 1359, 416, 417, 418, 420, 1360, 303, 277, 304, 419, 1198, 276, 278, 415, 1203, 1204, 826, 1205, 1206, 1207, 1208, 1209, 1210, 1211, 1212, 1213, 1214, 1215, 1216, 1217, 1218, 259, 260, 261, 262, 246, 263, 264, 265, 266, 267, 268, 269, 270, 271, 272, 273, 274, 275, 279, 280, 281, 282, 283, 284, 285, 286, 287, 288, 289, 290, 291, 292, 293, 294, 295, 296, 297, 298, 299, 300, 301, 302, 305, 306, 307, 308, 381, 382, 383, 384, 385, 386, 387, 388, 389, 390, 391, 392, 393, 394, 395, 396, 1361, 1362, 1363, 1364, 1365, 1200, 1201, 1202, 964, 965, 966, 967, 1219, 1220, 1221, 1222, 1778, 1779, 1780, 1781, 1782, 1783, 1784, 1785, 1786, 1787, 1788, 1789, 1790, 1874, 1875, 1876, 1884, 1885, 1886, 1887, 1888, 1889, 1890, 1891, 1892, 1893, 1894, 1902, 1903, 1904, 1905, 1877, 1878, 1879, 1880, 1881, 1882, 1883, 1920] (by decide +kernel) (by decide +kernel)) (goodIn_sub (fun _ h => List.mem_append_left _ (List.mem_append_left _ (List.mem_append_left _ (List.mem_append_left _ (List.mem_append_left _ (List.mem_append_left _ (List.mem_append_left _ (List.mem_append_right _ h)))))))) (by decide +kernel))
set_option maxRecDepth 20000 in
theorem gL_law_X17_makingTime : GoodIn wsL_law (wsV RL 285 RX17 yX17_makingTime wsX17_makingTime) := goodIn_app (goodIn_of _ (by decide +kernel)) ggL_law_X17_makingTime
set_option maxRecDepth 20000 in
theorem ggL_law_L_balance : GoodIn wsL_law wsL_balance := goodIn_ca (goodIn_ca (goodIn_r _ [1401, 173, 1402, 1403, 1404, 2, 1405, 33, 1406, 1407, 1408, 1409, 178, 179, 183, 184, 185, 1290, 1291, 1292, 32, 1293, 132, 1294, 125, 126, 127, 128, 1295, 1296, 1297, 1298, 1299, 1300, 1301, 1302, 1303, 55, 1304, 358, 359, 360, 361, 674, 276, 277, 278, 362, 1305, 303, 304, 1306, 1307, 1308, 1309, 1310, 1311, 1312, 1313, 1314, 1315, 1316, 1317, 1318, 129, 130, 131, 1319, 1320, 1321, 1322, 1323, 1324, 1325, 1326, 1327, 1328, 1329, 1330, 1331, 1332, 1333, 1334, 1335, 1336, 1337, 1338, 1339, 1410, 1411, 1412, 1413, 1414, 1415, 1416, 1417, 1418, 1419, 1420, 1421, 1772, 1773, 1774, 1775, 1776, 1777, 1820, 1821, 1822, 1823, 1824, 1825, 1826, 1827, 1828, 1791, 1792, 1793, 1794, 1795, 1796, 1797, 1798, 1799, 1800, 1801, 1842, 1843, 1844, 1845, 1846, 1847, 1848, 1849, 1850, 1851, 1852, 1853] (by decide +kernel) (by decide +kernel)) (goodIn_sub (fun _ h => List.mem_append_left _ (List.mem_append_left _ (List.mem_append_left _ (List.mem_append_left _ (List.mem_append_left _ (List.mem_append_left _ (List.mem_append_left _ (List.mem_append_right _ h)))))))) (by decide +kernel))) (goodIn_sub (fun _ h => List.mem_append_left _ (List.mem_append_left _ (List.mem_append_left _ (List.mem_append_left _ (List.mem_append_left _ (List.mem_append_left _ (List.mem_append_right _ h))))))) (by decide +kernel))
set_option maxRecDepth 20000 in
theorem gL_law_L_balance : GoodIn wsL_law (va_wsS RL 286 yL_balance wsL_balance) := goodIn_app (goodIn_of _ (by decide +kernel)) ggL_law_L_balance
set_option maxRecDepth 20000 in
theorem ggL_law_X17_balance : GoodIn wsL_law wsX17_balance := goodIn_ca (goodIn_r _ [1425, 223, 230, 231, 5, 232, 1426, 1427, 1428, 1429, 1193, 146, 466, 1344, 1345, 1346, 1347, 142, 143, 144, 109, 1269, 151, 154, 155, 156, 157, 158, 159, 160, 161, 162, 163, 164, 165, 166, 167, 168, 12, 13, 237, 238, 239, 240, 241, 1348, 1349, 1350, 1351, 1352, 1353, 1354, 1355, 622, 623, 624, 625, 626, 627, 628, 629, 630, 631, 632, 633, 634, 635, 247, 636, 637, 638, 639, 640, 641, 642, 643, 644, 645, 646, 647, 648, 649, 650, 1356, 1357, 1358, 407, 1359, 416, 417, 418, 420, 1360, 303, 277, 304, 419, 1198, 276, 278, 415, 1203, 1204, 826, 1205, 1206, 1207, 1208, 1209, 1210, 1211, 1212, 1213, 1214, 1215, 1216, 1217, 1218, 259, 260, 261, 262, 246, 263, 264, 265, 266, 267, 268, 269, 270, 271, 272, 273, 274, 275, 279, 280, 281, 282, 283, 284, 285, 286, 287, 288, 289, 290, 291, 292, 293, 294, 295, 296, 297, 298, 299, 300, 301, 302, 305, 306, 307, 308, 381, 382, 383, 384, 385, 386, 387, 388, 389, 390, 391, 392, 393, 394, 395, 396, 1361, 1362, 1363, 1364, 1365, 1200, 1201, 1202, 964, 965, 966, 967, 1219, 1220, 1221, 1222, 233, 234, 235, 236, 1778, 1779, 1780, 1781, 1782, 1783, 1784, 1785, 1786, 1787, 1788, 1789, 1790, 1874, 1875, 1876, 1884, 1885, 1886, 1887, 1888, 1889, 1890, 1891, 1892, 1893, 1894, 1902, 1903, 1904, 1905, 1877, 1878, 1879, 1880, 1881, 1882, 1883, 1920] (by decide +kernel) (by decide +kernel)) (goodIn_sub (fun _ h => List.mem_append_left _ (List.mem_append_left _ (List.mem_append_left _ (List.mem_append_left _ (List.mem_append_left _ (List.mem_append_left _ (List.mem_append_left _ (List.mem_append_right _ h)))))))) (by decide +kernel))
set_option maxRecDepth 20000 in
theorem gL_law_X17_balance : GoodIn wsL_law (wsV RL 288 RX17 yX17_balance wsX17_balance) := goodIn_app (goodIn_of _ (by decide +kernel)) ggL_law_X17_balance
set_option maxRecDepth 20000 in
theorem ggL_law_L_copies : GoodIn wsL_law wsL_copies := goodIn_ca (goodIn_ca (goodIn_ca (goodIn_ca (goodIn_r _ [1432, 173, 1433, 1434, 1435, 2, 1436, 178, 179, 441, 442, 17, 180, 33, 1406, 1407, 1408, 1409, 183, 184, 185, 1290, 1291, 1292, 32, 1293, 132, 1294, 125, 126, 127, 128, 1295, 1296, 1297, 1298, 1299, 1300, 1301, 1302, 1303, 55, 1304, 358, 359, 360, 361, 674, 276, 277, 278, 362, 1305, 303, 304, 1306, 1307, 1308, 1309, 1310, 1311, 1312, 1313, 1314, 1315, 1316, 1317, 1318, 129, 130, 131, 1319, 1320, 1321, 1322, 1323, 1324, 1325, 1326, 1327, 1328, 1329, 1330, 1331, 1332, 1333, 1334, 1335, 1336, 1337, 1338, 1339, 1437, 1415, 1416, 1417, 1410, 1411, 1412, 1413, 1414, 1418, 1419, 1420, 1421, 1772, 1773, 1774, 1775, 1776, 1777, 1791, 1792, 1793, 1794, 1795, 1796, 1797, 1798, 1799, 1800, 1801, 1820, 1821, 1822, 1823, 1824, 1825, 1826, 1827, 1828, 1842, 1843, 1844, 1845, 1846, 1847, 1848, 1849, 1850, 1851, 1852, 1853] (by decide +kernel) (by decide +kernel)) (goodIn_sub (fun _ h => List.mem_append_left _ (List.mem_append_left _ (List.mem_append_left _ (List.mem_append_left _ (List.mem_append_left _ (List.mem_append_left _ (List.mem_append_left _ (List.mem_append_right _ h)))))))) (by decide +kernel))) (goodIn_sub (fun _ h => List.mem_append_left _ (List.mem_append_left _ (List.mem_append_left _ (List.mem_append_left _ (List.mem_append_left _ (List.mem_append_left _ (List.mem_append_right _ h))))))) (by decide +kernel))) (goodIn_sub (fun _ h => List.mem_append_left _ (List.mem_append_left _ (List.mem_append_left _ (List.mem_append_right _ h)))) (by decide +kernel))) (goodIn_sub (fun _ h => List.mem_append_left _ (List.mem_append_right _ h)) (by decide +kernel))
set_option maxRecDepth 20000 in
theorem gL_law_L_copies : GoodIn wsL_law (va_wsS RL 289 yL_copies wsL_copies) := goodIn_app (goodIn_of _ (by decide +kernel)) ggL_law_L_copies
set_option maxRecDepth 20000 in
theorem ggL_law_X17_copies : GoodIn wsL_law wsX17_copies := goodIn_ca (goodIn_ca (goodIn_r _ [1441, 223, 146, 466, 230, 231, 5, 232, 233, 234, 235, 236, 964, 965, 966, 144, 967, 241, 622, 623, 624, 625, 626, 627, 628, 629, 630, 631, 632, 633, 12, 13, 634, 635, 247, 636, 637, 638, 639, 640, 641, 642, 643, 644, 645, 646, 647, 648, 649, 650, 1361, 1362, 1363, 407, 1364, 1365, 1200, 1201, 1202, 420, 419, 1426, 1427, 1428, 1429, 1193, 1344, 1345, 1346, 1347, 142, 143, 109, 1269, 151, 154, 155, 156, 157, 158, 159, 160, 161, 162, 163, 164, 165, 166, 167, 168, 237, 238, 239, 240, 1348, 1349, 1350, 1351, 1352, 1353, 1354, 1355, 1356, 1357, 1358, 1359, 416, 417, 418, 1360, 303, 277, 304, 1198, 276, 278, 415, 1203, 1204, 826, 1205, 1206, 1207, 1208, 1209, 1210, 1211, 1212, 1213, 1214, 1215, 1216, 1217, 1218, 259, 260, 261, 262, 246, 263, 264, 265, 266, 267, 268, 269, 270, 271, 272, 273, 274, 275, 279, 280, 281, 282, 283, 284, 285, 286, 287, 288, 289, 290, 291, 292, 293, 294, 295, 296, 297, 298, 299, 300, 301, 302, 305, 306, 307, 308, 381, 382, 383, 384, 385, 386, 387, 388, 389, 390, 391, 392, 393, 394, 395, 396, 1219, 1220, 1221, 1222, 1778, 1779, 1780, 1781, 1782, 1783, 1784, 1785, 1786, 1787, 1788, 1789, 1790, 1874, 1875, 1876, 1902, 1903, 1904, 1905, 1884, 1885, 1886, 1887, 1888, 1889, 1890, 1891, 1892, 1893, 1894, 1877, 1878, 1879, 1880, 1881, 1882, 1883, 1920] (by decide +kernel) (by decide +kernel)) (goodIn_sub (fun _ h => List.mem_append_left _ (List.mem_append_right _ h)) (by decide +kernel))) (goodIn_sub (fun _ h => List.mem_append_left _ (List.mem_append_left _ (List.mem_append_left _ (List.mem_append_left _ (List.mem_append_left _ (List.mem_append_left _ (List.mem_append_left _ (List.mem_append_right _ h)))))))) (by decide +kernel))
set_option maxRecDepth 20000 in
theorem gL_law_X17_copies : GoodIn wsL_law (wsV RL 291 RX17 yX17_copies wsX17_copies) := goodIn_app (goodIn_of _ (by decide +kernel)) ggL_law_X17_copies
set_option maxRecDepth 20000 in
theorem ggL_law_L_setPaper : GoodIn wsL_law wsL_setPaper := goodIn_ca (goodIn_ca (goodIn_r _ [1444, 173, 1445, 1446, 1447, 2, 1448, 178, 179, 17, 1449, 183, 184, 185, 1772, 1773, 1774, 1775, 1776, 1777, 1791, 1792, 1793, 1794, 1795, 1796, 1797, 1798, 1799, 1800, 1801] (by decide +kernel) (by decide +kernel)) (goodIn_sub (fun _ h => List.mem_append_left _ (List.mem_append_left _ (List.mem_append_left _ (List.mem_append_left _ (List.mem_append_left _ (List.mem_append_left _ (List.mem_append_left _ (List.mem_append_right _ h)))))))) (by decide +kernel))) (goodIn_sub (fun _ h => List.mem_append_left _ (List.mem_append_left _ (List.mem_append_left _ (List.mem_append_left _ (List.mem_append_left _ (List.mem_append_left _ (List.mem_append_right _ h))))))) (by decide +kernel))
set_option maxRecDepth 20000 in
theorem gL_law_L_setPaper : GoodIn wsL_law (va_wsS RL 292 yL_setPaper wsL_setPaper) := goodIn_app (goodIn_of _ (by decide +kernel)) ggL_law_L_setPaper
set_option maxRecDepth 20000 in
theorem ggL_law_X17_setPaper : GoodIn wsL_law wsX17_setPaper := goodIn_r _ [1453, 223, 152, 230, 231, 5, 232, 233, 234, 235, 236, 1778, 1779, 1780, 1781, 1782, 1783, 1784, 1785, 1786, 1787, 1788, 1789, 1790] (by decide +kernel) (by decide +kernel)
set_option maxRecDepth 20000 in
theorem gL_law_X17_setPaper : GoodIn wsL_law (wsV RL 294 RX17 yX17_setPaper wsX17_setPaper) := goodIn_app (goodIn_of _ (by decide +kernel)) ggL_law_X17_setPaper
set_option maxRecDepth 20000 in
theorem ggL_law_L_open : GoodIn wsL_law wsL_open := goodIn_ca (goodIn_ca (goodIn_ca (goodIn_ca (goodIn_r _ [1456, 173, 1457, 1458, 1459, 2, 1460, 178, 179, 17, 1461, 1462, 1463, 1464, 183, 184, 185, 595, 596, 597, 598, 441, 442, 599, 1465, 1466, 1467, 16, 1468, 193, 43, 53, 1469, 1470, 1471, 55, 1472, 365, 363, 1305, 303, 277, 304, 1473, 1474, 1475, 1476, 1477, 1478, 1479, 1480, 1481, 1482, 1483, 1484, 73, 366, 74, 1485, 1486, 1487, 1488, 491, 1772, 1773, 1774, 1775, 1776, 1777, 1791, 1792, 1793, 1794, 1795, 1796, 1797, 1798, 1799, 1800, 1801, 1842, 1843, 1844, 1845, 1846, 1847, 1848, 1849, 1850, 1851, 1852, 1853, 1835, 1836, 1837, 1838, 1839, 1840, 1841] (by decide +kernel) (by decide +kernel)) (goodIn_sub (fun _ h => List.mem_append_left _ (List.mem_append_left _ (List.mem_append_left _ (List.mem_append_left _ (List.mem_append_left _ (List.mem_append_left _ (List.mem_append_left _ (List.mem_append_right _ h)))))))) (by decide +kernel))) (goodIn_sub (fun _ h => List.mem_append_left _ (List.mem_append_left _ (List.mem_append_left _ (List.mem_append_left _ (List.mem_append_left _ (List.mem_append_left _ (List.mem_append_right _ h))))))) (by decide +kernel))) (goodIn_sub (fun _ h => List.mem_append_left _ (List.mem_append_left _ (List.mem_append_left _ (List.mem_append_right _ h)))) (by decide +kernel))) (goodIn_sub (fun _ h => List.mem_append_left _ (List.mem_append_right _ h)) (by decide +kernel))
set_option maxRecDepth 20000 in
theorem gL_law_L_open : GoodIn wsL_law (va_wsS RL 295 yL_open wsL_open) := goodIn_app (goodIn_of _ (by decide +kernel)) ggL_law_L_open
set_option maxRecDepth 20000 in
theorem ggL_law_X17_open : GoodIn wsL_law wsX17_open := goodIn_ca (goodIn_r _ [1492, 223, 224, 146, 466, 152, 230, 231, 5, 232, 233, 234, 235, 236, 622, 623, 624, 144, 625, 626, 627, 628, 629, 630, 631, 632, 633, 12, 13, 634, 635, 247, 636, 637, 638, 639, 640, 641, 642, 643, 644, 645, 646, 647, 648, 649, 650, 514, 515, 516, 407, 517, 518, 1493, 1494, 1495, 1496, 412, 1497, 1498, 1499, 1500, 1778, 1779, 1780, 1781, 1782, 1783, 1784, 1785, 1786, 1787, 1788, 1789, 1790, 1884, 1885, 1886, 1887, 1888, 1889, 1890, 1891, 1892, 1893, 1894, 1902, 1903, 1904, 1905, 1874, 1875, 1876] (by decide +kernel) (by decide +kernel)) (goodIn_sub (fun _ h => List.mem_append_left _ (List.mem_append_left _ (List.mem_append_left _ (List.mem_append_left _ (List.mem_append_left _ (List.mem_append_left _ (List.mem_append_left _ (List.mem_append_right _ h)))))))) (by decide +kernel))
set_option maxRecDepth 20000 in
theorem gL_law_X17_open : GoodIn wsL_law (wsV RL 297 RX17 yX17_open wsX17_open) := goodIn_app (goodIn_of _ (by decide +kernel)) ggL_law_X17_open
theorem dL_law_1974 : decode cL_law 1974 = .ok (.aload_n 1, 1) := by decide +kernel
theorem dL_law_1975 : decode cL_law 1975 = .ok (.aload_n 3, 1) := by decide +kernel
theorem dL_law_1976 : decode cL_law 1976 = .ok (.invokestatic 260, 3) := by decide +kernel
theorem dL_law_1979 : decode cL_law 1979 = .ok (.istore 6, 2) := by decide +kernel
theorem dL_law_1981 : decode cL_law 1981 = .ok (.aload_n 2, 1) := by decide +kernel
theorem dL_law_1982 : decode cL_law 1982 = .ok (.invokevirtual 262, 3) := by decide +kernel
theorem dL_law_1985 : decode cL_law 1985 = .ok (.istore 7, 2) := by decide +kernel
theorem dL_law_1987 : decode cL_law 1987 = .ok (.aload_n 2, 1) := by decide +kernel
theorem dL_law_1988 : decode cL_law 1988 = .ok (.invokevirtual 179, 3) := by decide +kernel
theorem dL_law_1991 : decode cL_law 1991 = .ok (.iload 6, 2) := by decide +kernel
theorem dL_law_1993 : decode cL_law 1993 = .ok (.if_icmp .eq 5, 3) := by decide +kernel
theorem dL_law_1998 : decode cL_law 1998 = .ok (.iload 6, 2) := by decide +kernel
theorem dL_law_2000 : decode cL_law 2000 = .ok (.ifCond .ne 15, 3) := by decide +kernel
theorem dL_law_2003 : decode cL_law 2003 = .ok (.aload_n 3, 1) := by decide +kernel
theorem dL_law_2004 : decode cL_law 2004 = .ok (.iconst 0, 1) := by decide +kernel
theorem dL_law_2005 : decode cL_law 2005 = .ok (.laload, 1) := by decide +kernel
theorem dL_law_2006 : decode cL_law 2006 = .ok (.iload 7, 2) := by decide +kernel
theorem dL_law_2008 : decode cL_law 2008 = .ok (.i2l, 1) := by decide +kernel
theorem dL_law_2009 : decode cL_law 2009 = .ok (.lcmp, 1) := by decide +kernel
theorem dL_law_2010 : decode cL_law 2010 = .ok (.ifCond .eq 5, 3) := by decide +kernel
theorem dL_law_2015 : decode cL_law 2015 = .ok (.goto 1302, 3) := by decide +kernel
theorem dL_law_2018 : decode cL_law 2018 = .ok (.aload_n 1, 1) := by decide +kernel
theorem dL_law_2019 : decode cL_law 2019 = .ok (.aload_n 0, 1) := by decide +kernel
theorem dL_law_2020 : decode cL_law 2020 = .ok (.iload 5, 2) := by decide +kernel
theorem dL_law_2022 : decode cL_law 2022 = .ok (.iconst 1, 1) := by decide +kernel
theorem dL_law_2023 : decode cL_law 2023 = .ok (.iadd, 1) := by decide +kernel
theorem dL_law_2024 : decode cL_law 2024 = .ok (.iaload, 1) := by decide +kernel
theorem dL_law_2025 : decode cL_law 2025 = .ok (.aload_n 0, 1) := by decide +kernel
theorem dL_law_2026 : decode cL_law 2026 = .ok (.iload 5, 2) := by decide +kernel
theorem dL_law_2028 : decode cL_law 2028 = .ok (.iconst 2, 1) := by decide +kernel
theorem dL_law_2029 : decode cL_law 2029 = .ok (.iadd, 1) := by decide +kernel
theorem dL_law_2030 : decode cL_law 2030 = .ok (.iaload, 1) := by decide +kernel
theorem dL_law_2031 : decode cL_law 2031 = .ok (.i2c, 1) := by decide +kernel
theorem dL_law_2032 : decode cL_law 2032 = .ok (.aload_n 3, 1) := by decide +kernel
theorem dL_law_2033 : decode cL_law 2033 = .ok (.invokestatic 263, 3) := by decide +kernel
theorem dL_law_2036 : decode cL_law 2036 = .ok (.istore 6, 2) := by decide +kernel
theorem dL_law_2038 : decode cL_law 2038 = .ok (.aload_n 2, 1) := by decide +kernel
theorem dL_law_2039 : decode cL_law 2039 = .ok (.aload_n 0, 1) := by decide +kernel
theorem dL_law_2040 : decode cL_law 2040 = .ok (.iload 5, 2) := by decide +kernel
theorem dL_law_2042 : decode cL_law 2042 = .ok (.iconst 1, 1) := by decide +kernel
theorem dL_law_2043 : decode cL_law 2043 = .ok (.iadd, 1) := by decide +kernel
theorem dL_law_2044 : decode cL_law 2044 = .ok (.iaload, 1) := by decide +kernel
theorem dL_law_2045 : decode cL_law 2045 = .ok (.aload_n 0, 1) := by decide +kernel
theorem dL_law_2046 : decode cL_law 2046 = .ok (.iload 5, 2) := by decide +kernel
theorem dL_law_2048 : decode cL_law 2048 = .ok (.iconst 2, 1) := by decide +kernel
theorem dL_law_2049 : decode cL_law 2049 = .ok (.iadd, 1) := by decide +kernel
theorem dL_law_2050 : decode cL_law 2050 = .ok (.iaload, 1) := by decide +kernel
theorem dL_law_2051 : decode cL_law 2051 = .ok (.i2c, 1) := by decide +kernel
theorem dL_law_2052 : decode cL_law 2052 = .ok (.invokevirtual 266, 3) := by decide +kernel
theorem dL_law_2055 : decode cL_law 2055 = .ok (.istore 7, 2) := by decide +kernel
theorem dL_law_2057 : decode cL_law 2057 = .ok (.aload_n 2, 1) := by decide +kernel
theorem dL_law_2058 : decode cL_law 2058 = .ok (.invokevirtual 179, 3) := by decide +kernel
theorem dL_law_2061 : decode cL_law 2061 = .ok (.iload 6, 2) := by decide +kernel
theorem dL_law_2063 : decode cL_law 2063 = .ok (.if_icmp .eq 5, 3) := by decide +kernel
theorem dL_law_2068 : decode cL_law 2068 = .ok (.iload 6, 2) := by decide +kernel
theorem dL_law_2070 : decode cL_law 2070 = .ok (.ifCond .ne 15, 3) := by decide +kernel
theorem dL_law_2085 : decode cL_law 2085 = .ok (.goto 1232, 3) := by decide +kernel
theorem dL_law_2088 : decode cL_law 2088 = .ok (.aload_n 1, 1) := by decide +kernel
theorem dL_law_2089 : decode cL_law 2089 = .ok (.aload_n 0, 1) := by decide +kernel
theorem dL_law_2090 : decode cL_law 2090 = .ok (.iload 5, 2) := by decide +kernel
theorem dL_law_2092 : decode cL_law 2092 = .ok (.iconst 1, 1) := by decide +kernel
theorem dL_law_2093 : decode cL_law 2093 = .ok (.iadd, 1) := by decide +kernel
theorem dL_law_2094 : decode cL_law 2094 = .ok (.iaload, 1) := by decide +kernel
theorem dL_law_2095 : decode cL_law 2095 = .ok (.aload_n 3, 1) := by decide +kernel
theorem dL_law_2096 : decode cL_law 2096 = .ok (.invokestatic 267, 3) := by decide +kernel
theorem dL_law_2099 : decode cL_law 2099 = .ok (.istore 6, 2) := by decide +kernel
theorem dL_law_2101 : decode cL_law 2101 = .ok (.aload_n 2, 1) := by decide +kernel
theorem dL_law_2102 : decode cL_law 2102 = .ok (.aload_n 0, 1) := by decide +kernel
theorem dL_law_2103 : decode cL_law 2103 = .ok (.iload 5, 2) := by decide +kernel
theorem dL_law_2105 : decode cL_law 2105 = .ok (.iconst 1, 1) := by decide +kernel
theorem dL_law_2106 : decode cL_law 2106 = .ok (.iadd, 1) := by decide +kernel
theorem dL_law_2107 : decode cL_law 2107 = .ok (.iaload, 1) := by decide +kernel
theorem dL_law_2108 : decode cL_law 2108 = .ok (.invokevirtual 269, 3) := by decide +kernel
theorem dL_law_2111 : decode cL_law 2111 = .ok (.istore 7, 2) := by decide +kernel
theorem dL_law_2113 : decode cL_law 2113 = .ok (.aload_n 2, 1) := by decide +kernel
theorem dL_law_2114 : decode cL_law 2114 = .ok (.invokevirtual 179, 3) := by decide +kernel
theorem dL_law_2117 : decode cL_law 2117 = .ok (.iload 6, 2) := by decide +kernel
theorem dL_law_2119 : decode cL_law 2119 = .ok (.if_icmp .eq 5, 3) := by decide +kernel
theorem dL_law_2124 : decode cL_law 2124 = .ok (.iload 6, 2) := by decide +kernel
theorem dL_law_2126 : decode cL_law 2126 = .ok (.ifCond .ne 15, 3) := by decide +kernel
theorem dL_law_2129 : decode cL_law 2129 = .ok (.aload_n 3, 1) := by decide +kernel
theorem dL_law_2130 : decode cL_law 2130 = .ok (.iconst 0, 1) := by decide +kernel
theorem dL_law_2131 : decode cL_law 2131 = .ok (.laload, 1) := by decide +kernel
theorem dL_law_2132 : decode cL_law 2132 = .ok (.iload 7, 2) := by decide +kernel
theorem dL_law_2134 : decode cL_law 2134 = .ok (.i2l, 1) := by decide +kernel
theorem dL_law_2135 : decode cL_law 2135 = .ok (.lcmp, 1) := by decide +kernel
theorem dL_law_2136 : decode cL_law 2136 = .ok (.ifCond .eq 5, 3) := by decide +kernel
theorem dL_law_2141 : decode cL_law 2141 = .ok (.goto 1176, 3) := by decide +kernel
theorem dL_law_2144 : decode cL_law 2144 = .ok (.aload_n 1, 1) := by decide +kernel
theorem dL_law_2145 : decode cL_law 2145 = .ok (.aload_n 0, 1) := by decide +kernel
theorem dL_law_2146 : decode cL_law 2146 = .ok (.iload 5, 2) := by decide +kernel
theorem dL_law_2148 : decode cL_law 2148 = .ok (.iconst 1, 1) := by decide +kernel
theorem dL_law_2149 : decode cL_law 2149 = .ok (.iadd, 1) := by decide +kernel
theorem dL_law_2150 : decode cL_law 2150 = .ok (.iaload, 1) := by decide +kernel
theorem dL_law_2151 : decode cL_law 2151 = .ok (.aload_n 3, 1) := by decide +kernel
theorem dL_law_2152 : decode cL_law 2152 = .ok (.invokestatic 270, 3) := by decide +kernel
theorem dL_law_2155 : decode cL_law 2155 = .ok (.istore 6, 2) := by decide +kernel
theorem dL_law_2157 : decode cL_law 2157 = .ok (.aload_n 2, 1) := by decide +kernel
theorem dL_law_2158 : decode cL_law 2158 = .ok (.aload_n 0, 1) := by decide +kernel
theorem dL_law_2159 : decode cL_law 2159 = .ok (.iload 5, 2) := by decide +kernel
theorem dL_law_2161 : decode cL_law 2161 = .ok (.iconst 1, 1) := by decide +kernel
theorem dL_law_2162 : decode cL_law 2162 = .ok (.iadd, 1) := by decide +kernel
theorem dL_law_2163 : decode cL_law 2163 = .ok (.iaload, 1) := by decide +kernel
theorem dL_law_2164 : decode cL_law 2164 = .ok (.invokevirtual 272, 3) := by decide +kernel
theorem dL_law_2167 : decode cL_law 2167 = .ok (.istore 7, 2) := by decide +kernel
theorem dL_law_2169 : decode cL_law 2169 = .ok (.aload_n 2, 1) := by decide +kernel
theorem dL_law_2170 : decode cL_law 2170 = .ok (.invokevirtual 179, 3) := by decide +kernel
theorem dL_law_2173 : decode cL_law 2173 = .ok (.iload 6, 2) := by decide +kernel
theorem dL_law_2175 : decode cL_law 2175 = .ok (.if_icmp .eq 5, 3) := by decide +kernel
theorem dL_law_2180 : decode cL_law 2180 = .ok (.iload 6, 2) := by decide +kernel
theorem dL_law_2182 : decode cL_law 2182 = .ok (.ifCond .ne 15, 3) := by decide +kernel
theorem dL_law_2185 : decode cL_law 2185 = .ok (.aload_n 3, 1) := by decide +kernel
theorem dL_law_2186 : decode cL_law 2186 = .ok (.iconst 0, 1) := by decide +kernel
theorem dL_law_2187 : decode cL_law 2187 = .ok (.laload, 1) := by decide +kernel
theorem dL_law_2188 : decode cL_law 2188 = .ok (.iload 7, 2) := by decide +kernel
theorem dL_law_2190 : decode cL_law 2190 = .ok (.i2l, 1) := by decide +kernel
theorem dL_law_2191 : decode cL_law 2191 = .ok (.lcmp, 1) := by decide +kernel
theorem dL_law_2192 : decode cL_law 2192 = .ok (.ifCond .eq 5, 3) := by decide +kernel
theorem dL_law_2197 : decode cL_law 2197 = .ok (.goto 1120, 3) := by decide +kernel
theorem dL_law_2200 : decode cL_law 2200 = .ok (.aload_n 1, 1) := by decide +kernel
theorem dL_law_2201 : decode cL_law 2201 = .ok (.aload_n 0, 1) := by decide +kernel
theorem dL_law_2202 : decode cL_law 2202 = .ok (.iload 5, 2) := by decide +kernel
theorem dL_law_2204 : decode cL_law 2204 = .ok (.iconst 1, 1) := by decide +kernel
theorem dL_law_2205 : decode cL_law 2205 = .ok (.iadd, 1) := by decide +kernel
theorem dL_law_2206 : decode cL_law 2206 = .ok (.iaload, 1) := by decide +kernel
theorem dL_law_2207 : decode cL_law 2207 = .ok (.aload_n 3, 1) := by decide +kernel
theorem dL_law_2208 : decode cL_law 2208 = .ok (.invokestatic 273, 3) := by decide +kernel
theorem dL_law_2211 : decode cL_law 2211 = .ok (.istore 6, 2) := by decide +kernel
theorem dL_law_2213 : decode cL_law 2213 = .ok (.aload_n 2, 1) := by decide +kernel
theorem dL_law_2214 : decode cL_law 2214 = .ok (.aload_n 0, 1) := by decide +kernel
theorem dL_law_2215 : decode cL_law 2215 = .ok (.iload 5, 2) := by decide +kernel
theorem dL_law_2217 : decode cL_law 2217 = .ok (.iconst 1, 1) := by decide +kernel
theorem dL_law_2218 : decode cL_law 2218 = .ok (.iadd, 1) := by decide +kernel
theorem dL_law_2219 : decode cL_law 2219 = .ok (.iaload, 1) := by decide +kernel
theorem dL_law_2220 : decode cL_law 2220 = .ok (.invokevirtual 275, 3) := by decide +kernel
theorem dL_law_2223 : decode cL_law 2223 = .ok (.istore 7, 2) := by decide +kernel
theorem dL_law_2225 : decode cL_law 2225 = .ok (.aload_n 2, 1) := by decide +kernel
theorem dL_law_2226 : decode cL_law 2226 = .ok (.invokevirtual 179, 3) := by decide +kernel
theorem dL_law_2229 : decode cL_law 2229 = .ok (.iload 6, 2) := by decide +kernel
theorem dL_law_2231 : decode cL_law 2231 = .ok (.if_icmp .eq 5, 3) := by decide +kernel
theorem dL_law_2236 : decode cL_law 2236 = .ok (.iload 6, 2) := by decide +kernel
theorem dL_law_2238 : decode cL_law 2238 = .ok (.ifCond .ne 15, 3) := by decide +kernel
theorem dL_law_2253 : decode cL_law 2253 = .ok (.goto 1064, 3) := by decide +kernel
theorem dL_law_2256 : decode cL_law 2256 = .ok (.aload_n 1, 1) := by decide +kernel
theorem dL_law_2257 : decode cL_law 2257 = .ok (.aload_n 0, 1) := by decide +kernel
theorem dL_law_2258 : decode cL_law 2258 = .ok (.iload 5, 2) := by decide +kernel
theorem dL_law_2260 : decode cL_law 2260 = .ok (.iconst 1, 1) := by decide +kernel
theorem dL_law_2261 : decode cL_law 2261 = .ok (.iadd, 1) := by decide +kernel
theorem dL_law_2262 : decode cL_law 2262 = .ok (.iaload, 1) := by decide +kernel
theorem dL_law_2263 : decode cL_law 2263 = .ok (.aload_n 3, 1) := by decide +kernel
theorem dL_law_2264 : decode cL_law 2264 = .ok (.invokestatic 276, 3) := by decide +kernel
theorem dL_law_2267 : decode cL_law 2267 = .ok (.istore 6, 2) := by decide +kernel
theorem dL_law_2269 : decode cL_law 2269 = .ok (.aload_n 2, 1) := by decide +kernel
theorem dL_law_2270 : decode cL_law 2270 = .ok (.aload_n 0, 1) := by decide +kernel
theorem dL_law_2271 : decode cL_law 2271 = .ok (.iload 5, 2) := by decide +kernel
theorem dL_law_2273 : decode cL_law 2273 = .ok (.iconst 1, 1) := by decide +kernel
theorem dL_law_2274 : decode cL_law 2274 = .ok (.iadd, 1) := by decide +kernel
theorem dL_law_2275 : decode cL_law 2275 = .ok (.iaload, 1) := by decide +kernel
theorem dL_law_2276 : decode cL_law 2276 = .ok (.invokevirtual 278, 3) := by decide +kernel
theorem dL_law_2279 : decode cL_law 2279 = .ok (.istore 7, 2) := by decide +kernel
theorem dL_law_2281 : decode cL_law 2281 = .ok (.aload_n 2, 1) := by decide +kernel
theorem dL_law_2282 : decode cL_law 2282 = .ok (.invokevirtual 179, 3) := by decide +kernel
theorem dL_law_2285 : decode cL_law 2285 = .ok (.iload 6, 2) := by decide +kernel
theorem dL_law_2287 : decode cL_law 2287 = .ok (.if_icmp .eq 5, 3) := by decide +kernel
theorem dL_law_2292 : decode cL_law 2292 = .ok (.iload 6, 2) := by decide +kernel
theorem dL_law_2294 : decode cL_law 2294 = .ok (.ifCond .ne 15, 3) := by decide +kernel
theorem dL_law_2309 : decode cL_law 2309 = .ok (.goto 1008, 3) := by decide +kernel
theorem dL_law_2312 : decode cL_law 2312 = .ok (.aload_n 1, 1) := by decide +kernel
theorem dL_law_2313 : decode cL_law 2313 = .ok (.aload_n 0, 1) := by decide +kernel
theorem dL_law_2314 : decode cL_law 2314 = .ok (.iload 5, 2) := by decide +kernel
theorem dL_law_2316 : decode cL_law 2316 = .ok (.iconst 1, 1) := by decide +kernel
theorem dL_law_2317 : decode cL_law 2317 = .ok (.iadd, 1) := by decide +kernel
theorem dL_law_2318 : decode cL_law 2318 = .ok (.iaload, 1) := by decide +kernel
theorem dL_law_2319 : decode cL_law 2319 = .ok (.aload_n 3, 1) := by decide +kernel
theorem dL_law_2320 : decode cL_law 2320 = .ok (.invokestatic 279, 3) := by decide +kernel
theorem dL_law_2323 : decode cL_law 2323 = .ok (.istore 6, 2) := by decide +kernel
theorem dL_law_2325 : decode cL_law 2325 = .ok (.aload_n 2, 1) := by decide +kernel
theorem dL_law_2326 : decode cL_law 2326 = .ok (.aload_n 0, 1) := by decide +kernel
theorem dL_law_2327 : decode cL_law 2327 = .ok (.iload 5, 2) := by decide +kernel
theorem dL_law_2329 : decode cL_law 2329 = .ok (.iconst 1, 1) := by decide +kernel
theorem dL_law_2330 : decode cL_law 2330 = .ok (.iadd, 1) := by decide +kernel
theorem dL_law_2331 : decode cL_law 2331 = .ok (.iaload, 1) := by decide +kernel
theorem dL_law_2332 : decode cL_law 2332 = .ok (.invokevirtual 281, 3) := by decide +kernel
theorem dL_law_2335 : decode cL_law 2335 = .ok (.istore 7, 2) := by decide +kernel
theorem dL_law_2337 : decode cL_law 2337 = .ok (.aload_n 2, 1) := by decide +kernel
theorem dL_law_2338 : decode cL_law 2338 = .ok (.invokevirtual 179, 3) := by decide +kernel
theorem dL_law_2341 : decode cL_law 2341 = .ok (.iload 6, 2) := by decide +kernel
theorem dL_law_2343 : decode cL_law 2343 = .ok (.if_icmp .eq 5, 3) := by decide +kernel
theorem dL_law_2348 : decode cL_law 2348 = .ok (.iload 6, 2) := by decide +kernel
theorem dL_law_2350 : decode cL_law 2350 = .ok (.ifCond .ne 15, 3) := by decide +kernel
theorem dL_law_2365 : decode cL_law 2365 = .ok (.goto 952, 3) := by decide +kernel
theorem dL_law_2368 : decode cL_law 2368 = .ok (.aload_n 1, 1) := by decide +kernel
theorem dL_law_2369 : decode cL_law 2369 = .ok (.invokevirtual 282, 3) := by decide +kernel
theorem dL_law_2372 : decode cL_law 2372 = .ok (.aload_n 2, 1) := by decide +kernel
theorem dL_law_2373 : decode cL_law 2373 = .ok (.invokevirtual 285, 3) := by decide +kernel
theorem dL_law_2376 : decode cL_law 2376 = .ok (.if_icmp .eq 941, 3) := by decide +kernel
theorem dL_law_2381 : decode cL_law 2381 = .ok (.aload_n 1, 1) := by decide +kernel
theorem dL_law_2382 : decode cL_law 2382 = .ok (.aload_n 0, 1) := by decide +kernel
theorem dL_law_2383 : decode cL_law 2383 = .ok (.iload 5, 2) := by decide +kernel
theorem dL_law_2385 : decode cL_law 2385 = .ok (.iconst 1, 1) := by decide +kernel
theorem dL_law_2386 : decode cL_law 2386 = .ok (.iadd, 1) := by decide +kernel
theorem dL_law_2387 : decode cL_law 2387 = .ok (.iaload, 1) := by decide +kernel
theorem dL_law_2388 : decode cL_law 2388 = .ok (.aload_n 3, 1) := by decide +kernel
theorem dL_law_2389 : decode cL_law 2389 = .ok (.invokestatic 286, 3) := by decide +kernel
theorem dL_law_2392 : decode cL_law 2392 = .ok (.istore 6, 2) := by decide +kernel
theorem dL_law_2394 : decode cL_law 2394 = .ok (.aload_n 2, 1) := by decide +kernel
theorem dL_law_2395 : decode cL_law 2395 = .ok (.aload_n 0, 1) := by decide +kernel
theorem dL_law_2396 : decode cL_law 2396 = .ok (.iload 5, 2) := by decide +kernel
theorem dL_law_2398 : decode cL_law 2398 = .ok (.iconst 1, 1) := by decide +kernel
theorem dL_law_2399 : decode cL_law 2399 = .ok (.iadd, 1) := by decide +kernel
theorem dL_law_2400 : decode cL_law 2400 = .ok (.iaload, 1) := by decide +kernel
theorem dL_law_2401 : decode cL_law 2401 = .ok (.invokevirtual 288, 3) := by decide +kernel
theorem dL_law_2404 : decode cL_law 2404 = .ok (.istore 7, 2) := by decide +kernel
theorem dL_law_2406 : decode cL_law 2406 = .ok (.aload_n 2, 1) := by decide +kernel
theorem dL_law_2407 : decode cL_law 2407 = .ok (.invokevirtual 179, 3) := by decide +kernel
theorem dL_law_2410 : decode cL_law 2410 = .ok (.iload 6, 2) := by decide +kernel
theorem dL_law_2412 : decode cL_law 2412 = .ok (.if_icmp .eq 5, 3) := by decide +kernel
theorem dL_law_2417 : decode cL_law 2417 = .ok (.iload 6, 2) := by decide +kernel
theorem dL_law_2419 : decode cL_law 2419 = .ok (.ifCond .ne 15, 3) := by decide +kernel
theorem dL_law_2422 : decode cL_law 2422 = .ok (.aload_n 3, 1) := by decide +kernel
theorem dL_law_2423 : decode cL_law 2423 = .ok (.iconst 0, 1) := by decide +kernel
theorem dL_law_2424 : decode cL_law 2424 = .ok (.laload, 1) := by decide +kernel
theorem dL_law_2425 : decode cL_law 2425 = .ok (.iload 7, 2) := by decide +kernel
theorem dL_law_2427 : decode cL_law 2427 = .ok (.i2l, 1) := by decide +kernel
theorem dL_law_2428 : decode cL_law 2428 = .ok (.lcmp, 1) := by decide +kernel
theorem dL_law_2429 : decode cL_law 2429 = .ok (.ifCond .eq 5, 3) := by decide +kernel
theorem dL_law_2434 : decode cL_law 2434 = .ok (.goto 883, 3) := by decide +kernel
theorem dL_law_2437 : decode cL_law 2437 = .ok (.aload_n 1, 1) := by decide +kernel
theorem dL_law_2438 : decode cL_law 2438 = .ok (.aload_n 0, 1) := by decide +kernel
theorem dL_law_2439 : decode cL_law 2439 = .ok (.iload 5, 2) := by decide +kernel
theorem dL_law_2441 : decode cL_law 2441 = .ok (.iconst 1, 1) := by decide +kernel
theorem dL_law_2442 : decode cL_law 2442 = .ok (.iadd, 1) := by decide +kernel
theorem dL_law_2443 : decode cL_law 2443 = .ok (.iaload, 1) := by decide +kernel
theorem dL_law_2444 : decode cL_law 2444 = .ok (.aload_n 0, 1) := by decide +kernel
theorem dL_law_2445 : decode cL_law 2445 = .ok (.iload 5, 2) := by decide +kernel
theorem dL_law_2447 : decode cL_law 2447 = .ok (.iconst 2, 1) := by decide +kernel
theorem dL_law_2448 : decode cL_law 2448 = .ok (.iadd, 1) := by decide +kernel
theorem dL_law_2449 : decode cL_law 2449 = .ok (.iaload, 1) := by decide +kernel
theorem dL_law_2450 : decode cL_law 2450 = .ok (.aload_n 3, 1) := by decide +kernel
theorem dL_law_2451 : decode cL_law 2451 = .ok (.invokestatic 289, 3) := by decide +kernel
theorem dL_law_2454 : decode cL_law 2454 = .ok (.istore 6, 2) := by decide +kernel
theorem dL_law_2456 : decode cL_law 2456 = .ok (.aload_n 2, 1) := by decide +kernel
theorem dL_law_2457 : decode cL_law 2457 = .ok (.aload_n 0, 1) := by decide +kernel
theorem dL_law_2458 : decode cL_law 2458 = .ok (.iload 5, 2) := by decide +kernel
theorem dL_law_2460 : decode cL_law 2460 = .ok (.iconst 1, 1) := by decide +kernel
theorem dL_law_2461 : decode cL_law 2461 = .ok (.iadd, 1) := by decide +kernel
theorem dL_law_2462 : decode cL_law 2462 = .ok (.iaload, 1) := by decide +kernel
theorem dL_law_2463 : decode cL_law 2463 = .ok (.aload_n 0, 1) := by decide +kernel
theorem dL_law_2464 : decode cL_law 2464 = .ok (.iload 5, 2) := by decide +kernel
theorem dL_law_2466 : decode cL_law 2466 = .ok (.iconst 2, 1) := by decide +kernel
theorem dL_law_2467 : decode cL_law 2467 = .ok (.iadd, 1) := by decide +kernel
theorem dL_law_2468 : decode cL_law 2468 = .ok (.iaload, 1) := by decide +kernel
theorem dL_law_2469 : decode cL_law 2469 = .ok (.invokevirtual 291, 3) := by decide +kernel
theorem dL_law_2472 : decode cL_law 2472 = .ok (.istore 7, 2) := by decide +kernel
theorem dL_law_2474 : decode cL_law 2474 = .ok (.aload_n 2, 1) := by decide +kernel
theorem dL_law_2475 : decode cL_law 2475 = .ok (.invokevirtual 179, 3) := by decide +kernel
theorem dL_law_2478 : decode cL_law 2478 = .ok (.iload 6, 2) := by decide +kernel
theorem dL_law_2480 : decode cL_law 2480 = .ok (.if_icmp .eq 5, 3) := by decide +kernel
theorem dL_law_2485 : decode cL_law 2485 = .ok (.iload 6, 2) := by decide +kernel
theorem dL_law_2487 : decode cL_law 2487 = .ok (.ifCond .ne 15, 3) := by decide +kernel
theorem dL_law_2502 : decode cL_law 2502 = .ok (.goto 815, 3) := by decide +kernel
theorem dL_law_2505 : decode cL_law 2505 = .ok (.aload_n 1, 1) := by decide +kernel
theorem dL_law_2506 : decode cL_law 2506 = .ok (.aload_n 0, 1) := by decide +kernel
theorem dL_law_2507 : decode cL_law 2507 = .ok (.iload 5, 2) := by decide +kernel
theorem dL_law_2509 : decode cL_law 2509 = .ok (.iconst 1, 1) := by decide +kernel
theorem dL_law_2510 : decode cL_law 2510 = .ok (.iadd, 1) := by decide +kernel
theorem dL_law_2511 : decode cL_law 2511 = .ok (.iaload, 1) := by decide +kernel
theorem dL_law_2512 : decode cL_law 2512 = .ok (.aload_n 3, 1) := by decide +kernel
theorem dL_law_2513 : decode cL_law 2513 = .ok (.invokestatic 292, 3) := by decide +kernel
theorem dL_law_2516 : decode cL_law 2516 = .ok (.istore 6, 2) := by decide +kernel
theorem dL_law_2518 : decode cL_law 2518 = .ok (.aload_n 2, 1) := by decide +kernel
theorem dL_law_2519 : decode cL_law 2519 = .ok (.aload_n 0, 1) := by decide +kernel
theorem dL_law_2520 : decode cL_law 2520 = .ok (.iload 5, 2) := by decide +kernel
theorem dL_law_2522 : decode cL_law 2522 = .ok (.iconst 1, 1) := by decide +kernel
theorem dL_law_2523 : decode cL_law 2523 = .ok (.iadd, 1) := by decide +kernel
theorem dL_law_2524 : decode cL_law 2524 = .ok (.iaload, 1) := by decide +kernel
theorem dL_law_2525 : decode cL_law 2525 = .ok (.invokevirtual 294, 3) := by decide +kernel
theorem dL_law_2528 : decode cL_law 2528 = .ok (.istore 7, 2) := by decide +kernel
theorem dL_law_2530 : decode cL_law 2530 = .ok (.aload_n 2, 1) := by decide +kernel
theorem dL_law_2531 : decode cL_law 2531 = .ok (.invokevirtual 179, 3) := by decide +kernel
theorem dL_law_2534 : decode cL_law 2534 = .ok (.iload 6, 2) := by decide +kernel
theorem dL_law_2536 : decode cL_law 2536 = .ok (.if_icmp .eq 5, 3) := by decide +kernel
theorem dL_law_2541 : decode cL_law 2541 = .ok (.iload 6, 2) := by decide +kernel
theorem dL_law_2543 : decode cL_law 2543 = .ok (.ifCond .ne 15, 3) := by decide +kernel
theorem dL_law_2546 : decode cL_law 2546 = .ok (.aload_n 3, 1) := by decide +kernel
theorem dL_law_2547 : decode cL_law 2547 = .ok (.iconst 0, 1) := by decide +kernel
theorem dL_law_2548 : decode cL_law 2548 = .ok (.laload, 1) := by decide +kernel
theorem dL_law_2549 : decode cL_law 2549 = .ok (.iload 7, 2) := by decide +kernel
theorem dL_law_2551 : decode cL_law 2551 = .ok (.i2l, 1) := by decide +kernel
theorem dL_law_2552 : decode cL_law 2552 = .ok (.lcmp, 1) := by decide +kernel
theorem dL_law_2553 : decode cL_law 2553 = .ok (.ifCond .eq 5, 3) := by decide +kernel
theorem dL_law_2558 : decode cL_law 2558 = .ok (.goto 759, 3) := by decide +kernel
theorem dL_law_2561 : decode cL_law 2561 = .ok (.aload_n 1, 1) := by decide +kernel
theorem dL_law_2562 : decode cL_law 2562 = .ok (.aload_n 0, 1) := by decide +kernel
theorem dL_law_2563 : decode cL_law 2563 = .ok (.iload 5, 2) := by decide +kernel
theorem dL_law_2565 : decode cL_law 2565 = .ok (.iconst 1, 1) := by decide +kernel
theorem dL_law_2566 : decode cL_law 2566 = .ok (.iadd, 1) := by decide +kernel
theorem dL_law_2567 : decode cL_law 2567 = .ok (.iaload, 1) := by decide +kernel
theorem dL_law_2568 : decode cL_law 2568 = .ok (.aload_n 0, 1) := by decide +kernel
theorem dL_law_2569 : decode cL_law 2569 = .ok (.iload 5, 2) := by decide +kernel
theorem dL_law_2571 : decode cL_law 2571 = .ok (.iconst 2, 1) := by decide +kernel
theorem dL_law_2572 : decode cL_law 2572 = .ok (.iadd, 1) := by decide +kernel
theorem dL_law_2573 : decode cL_law 2573 = .ok (.iaload, 1) := by decide +kernel
theorem dL_law_2574 : decode cL_law 2574 = .ok (.aload_n 3, 1) := by decide +kernel
theorem dL_law_2575 : decode cL_law 2575 = .ok (.invokestatic 295, 3) := by decide +kernel
theorem dL_law_2578 : decode cL_law 2578 = .ok (.istore 6, 2) := by decide +kernel
theorem dL_law_2580 : decode cL_law 2580 = .ok (.aload_n 2, 1) := by decide +kernel
theorem dL_law_2581 : decode cL_law 2581 = .ok (.aload_n 0, 1) := by decide +kernel
theorem dL_law_2582 : decode cL_law 2582 = .ok (.iload 5, 2) := by decide +kernel
theorem dL_law_2584 : decode cL_law 2584 = .ok (.iconst 1, 1) := by decide +kernel
theorem dL_law_2585 : decode cL_law 2585 = .ok (.iadd, 1) := by decide +kernel
theorem dL_law_2586 : decode cL_law 2586 = .ok (.iaload, 1) := by decide +kernel
theorem dL_law_2587 : decode cL_law 2587 = .ok (.aload_n 0, 1) := by decide +kernel
theorem dL_law_2588 : decode cL_law 2588 = .ok (.iload 5, 2) := by decide +kernel
theorem dL_law_2590 : decode cL_law 2590 = .ok (.iconst 2, 1) := by decide +kernel
theorem dL_law_2591 : decode cL_law 2591 = .ok (.iadd, 1) := by decide +kernel
theorem dL_law_2592 : decode cL_law 2592 = .ok (.iaload, 1) := by decide +kernel
theorem dL_law_2593 : decode cL_law 2593 = .ok (.invokevirtual 297, 3) := by decide +kernel
theorem dL_law_2596 : decode cL_law 2596 = .ok (.istore 7, 2) := by decide +kernel
theorem dL_law_2598 : decode cL_law 2598 = .ok (.aload_n 2, 1) := by decide +kernel
theorem dL_law_2599 : decode cL_law 2599 = .ok (.invokevirtual 179, 3) := by decide +kernel
theorem dL_law_2602 : decode cL_law 2602 = .ok (.iload 6, 2) := by decide +kernel
theorem dL_law_2604 : decode cL_law 2604 = .ok (.if_icmp .eq 5, 3) := by decide +kernel
theorem dL_law_2609 : decode cL_law 2609 = .ok (.iload 6, 2) := by decide +kernel
theorem dL_law_2611 : decode cL_law 2611 = .ok (.ifCond .ne 15, 3) := by decide +kernel
theorem dL_law_2626 : decode cL_law 2626 = .ok (.goto 691, 3) := by decide +kernel
