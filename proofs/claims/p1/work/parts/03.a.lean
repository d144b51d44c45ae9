theorem sub_of (ws : List Cond) (ps : List Nat) (hp : ws = ps.filterMap (fun i => lw_tbl[i]?)) : ∀ w ∈ ws, w ∈ lw_tbl := by
  intro w hw
  rw [hp] at hw
  obtain ⟨i, -, hi⟩ := List.mem_filterMap.mp hw
  exact List.mem_of_getElem? hi
set_option maxRecDepth 20000 in
theorem it_r1 : ∀ w ∈ wsL_law_r1, w ∈ lw_tbl := sub_of _ [128, 129, 108, 1432, 1433, 120, 2098, 130, 131, 132, 133, 134, 135, 136, 137, 109, 559, 172, 173, 110, 560, 213, 214, 111] (by decide +kernel)
set_option maxRecDepth 20000 in
theorem ig_r1 : ∀ w ∈ wsL_law_r1, goodWord w = true := by decide +kernel
set_option maxRecDepth 20000 in
theorem it_r2 : ∀ w ∈ wsL_law_r2, w ∈ lw_tbl := sub_of _ [561, 250, 251, 112, 562, 277, 278, 113, 563, 300, 301, 114, 564, 322, 565, 298, 566, 324, 115, 567, 568, 139, 140, 141] (by decide +kernel)
set_option maxRecDepth 20000 in
theorem ig_r2 : ∀ w ∈ wsL_law_r2, goodWord w = true := by decide +kernel
set_option maxRecDepth 20000 in
theorem it_r3 : ∀ w ∈ wsL_law_r3, w ∈ lw_tbl := sub_of _ [171, 142, 148, 175, 176, 177, 212, 179, 180, 181, 182, 184, 185, 186, 216, 217, 218, 221, 224, 226, 228, 230, 232, 219] (by decide +kernel)
set_option maxRecDepth 20000 in
theorem ig_r3 : ∀ w ∈ wsL_law_r3, goodWord w = true := by decide +kernel
set_option maxRecDepth 20000 in
theorem it_r4 : ∀ w ∈ wsL_law_r4, w ∈ lw_tbl := sub_of _ [234, 253, 254, 255, 280, 281, 282, 283, 285, 287, 299, 288, 303, 304, 305, 308, 310, 312, 326, 327, 328, 329, 330, 116] (by decide +kernel)
set_option maxRecDepth 20000 in
theorem ig_r4 : ∀ w ∈ wsL_law_r4, goodWord w = true := by decide +kernel
set_option maxRecDepth 20000 in
theorem it_r5 : ∀ w ∈ wsL_law_r5, w ∈ lw_tbl := sub_of _ [514, 379, 380, 117, 518, 429, 430, 118, 522, 456, 457, 119, 524, 526, 332, 333, 334, 340, 344, 347, 350, 354, 357, 360] (by decide +kernel)
set_option maxRecDepth 20000 in
theorem ig_r5 : ∀ w ∈ wsL_law_r5, goodWord w = true := by decide +kernel
set_option maxRecDepth 20000 in
theorem it_r6 : ∀ w ∈ wsL_law_r6, w ∈ lw_tbl := sub_of _ [382, 383, 384, 390, 393, 396, 398, 399, 401, 402, 405, 407, 432, 433, 434, 438, 440, 442, 443, 459, 460, 461, 477, 1434] (by decide +kernel)
set_option maxRecDepth 20000 in
theorem ig_r6 : ∀ w ∈ wsL_law_r6, goodWord w = true := by decide +kernel
set_option maxRecDepth 20000 in
theorem it_r7 : ∀ w ∈ wsL_law_r7, w ∈ lw_tbl := sub_of _ [1435, 1436, 1437, 1441, 1442, 1443, 1444, 1446, 1453, 1454, 1455, 1456, 1457, 1458, 1459, 1460, 1462, 1464, 1465, 1467, 1468, 1469, 1470, 1476] (by decide +kernel)
set_option maxRecDepth 20000 in
theorem ig_r7 : ∀ w ∈ wsL_law_r7, goodWord w = true := by decide +kernel
set_option maxRecDepth 20000 in
theorem it_r8 : ∀ w ∈ wsL_law_r8, w ∈ lw_tbl := sub_of _ [1478, 1479, 1480, 1481, 1438, 1439, 1440, 590, 591, 592, 593, 144, 594, 595, 596, 597, 143, 598, 599, 600, 601, 1579, 1580, 1581] (by decide +kernel)
set_option maxRecDepth 20000 in
theorem ig_r8 : ∀ w ∈ wsL_law_r8, goodWord w = true := by decide +kernel
set_option maxRecDepth 20000 in
theorem it_r9 : ∀ w ∈ wsL_law_r9, w ∈ lw_tbl := sub_of _ [1582, 1445, 602, 603, 604, 605, 1583, 1584, 1585, 1586, 1572, 1573, 1574, 606, 607, 608, 609, 146, 507, 610, 611, 612, 613, 497] (by decide +kernel)
set_option maxRecDepth 20000 in
theorem ig_r9 : ∀ w ∈ wsL_law_r9, goodWord w = true := by decide +kernel
set_option maxRecDepth 20000 in
theorem it_r10 : ∀ w ∈ wsL_law_r10, w ∈ lw_tbl := sub_of _ [501, 503, 505, 508, 510, 511, 512, 513, 338, 388, 436, 614, 615, 616, 617, 462, 465, 467, 470, 473, 475, 479, 618, 619] (by decide +kernel)
set_option maxRecDepth 20000 in
theorem ig_r10 : ∀ w ∈ wsL_law_r10, goodWord w = true := by decide +kernel
set_option maxRecDepth 20000 in
theorem it_r11 : ∀ w ∈ wsL_law_r11, w ∈ lw_tbl := sub_of _ [620, 621, 145, 152, 622, 623, 624, 625, 151, 150, 626, 628, 0, 629, 630, 632, 1, 633, 649, 650, 651, 652, 653, 654] (by decide +kernel)
set_option maxRecDepth 20000 in
theorem ig_r11 : ∀ w ∈ wsL_law_r11, goodWord w = true := by decide +kernel
set_option maxRecDepth 20000 in
theorem it_r12 : ∀ w ∈ wsL_law_r12, w ∈ lw_tbl := sub_of _ [655, 656, 335, 435, 385, 809, 810, 811, 812, 516, 358, 521, 389, 889, 888, 126, 813, 814, 815, 816, 336, 829, 830, 831] (by decide +kernel)
set_option maxRecDepth 20000 in
theorem ig_r12 : ∀ w ∈ wsL_law_r12, goodWord w = true := by decide +kernel
set_option maxRecDepth 20000 in
theorem it_r13 : ∀ w ∈ wsL_law_r13, w ∈ lw_tbl := sub_of _ [853, 854, 855, 890, 891, 892, 893, 894, 895, 896, 897, 1591, 1592, 1593, 1594, 1450, 1595, 1597, 38, 1598, 1447, 1448, 1452, 1599] (by decide +kernel)
set_option maxRecDepth 20000 in
theorem ig_r13 : ∀ w ∈ wsL_law_r13, goodWord w = true := by decide +kernel
set_option maxRecDepth 20000 in
theorem it_r14 : ∀ w ∈ wsL_law_r14, w ∈ lw_tbl := sub_of _ [1601, 39, 1602, 1449, 1603, 1605, 40, 1606, 1613, 1615, 41, 1616, 1693, 1695, 55, 1696, 902, 903, 904, 905, 520, 387, 509, 906] (by decide +kernel)
set_option maxRecDepth 20000 in
theorem ig_r14 : ∀ w ∈ wsL_law_r14, goodWord w = true := by decide +kernel
set_option maxRecDepth 20000 in
theorem it_r15 : ∀ w ∈ wsL_law_r15, w ∈ lw_tbl := sub_of _ [907, 908, 909, 1896, 1897, 1898, 1899, 971, 972, 973, 974, 149, 1587, 1588, 1589, 1590, 975, 976, 977, 978, 979, 980, 981, 982] (by decide +kernel)
set_option maxRecDepth 20000 in
theorem ig_r15 : ∀ w ∈ wsL_law_r15, goodWord w = true := by decide +kernel
set_option maxRecDepth 20000 in
theorem it_r16 : ∀ w ∈ wsL_law_r16, w ∈ lw_tbl := sub_of _ [983, 1746, 1747, 1748, 1749, 1750, 1752, 68, 1753, 1754, 1756, 69, 1757, 988, 989, 990, 991, 992, 1758, 1759, 1760, 1761, 1762, 1764] (by decide +kernel)
set_option maxRecDepth 20000 in
theorem ig_r16 : ∀ w ∈ wsL_law_r16, goodWord w = true := by decide +kernel
set_option maxRecDepth 20000 in
theorem it_r17 : ∀ w ∈ wsL_law_r17, w ∈ lw_tbl := sub_of _ [70, 1765, 997, 998, 999, 1000, 500, 1766, 1767, 1768, 1769, 1003, 1004, 1005, 1006, 502, 1770, 1771, 1772, 1773, 1011, 1012, 1013, 1014] (by decide +kernel)
set_option maxRecDepth 20000 in
theorem ig_r17 : ∀ w ∈ wsL_law_r17, goodWord w = true := by decide +kernel
set_option maxRecDepth 20000 in
theorem it_r18 : ∀ w ∈ wsL_law_r18, w ∈ lw_tbl := sub_of _ [1774, 1775, 1776, 1777, 1015, 1016, 1017, 1018, 1779, 1780, 1781, 1782, 1062, 1063, 1064, 1065, 525, 463, 1802, 1803, 1804, 1805, 1070, 1071] (by decide +kernel)
set_option maxRecDepth 20000 in
theorem ig_r18 : ∀ w ∈ wsL_law_r18, goodWord w = true := by decide +kernel
set_option maxRecDepth 20000 in
theorem it_r19 : ∀ w ∈ wsL_law_r19, w ∈ lw_tbl := sub_of _ [1072, 1073, 466, 471, 474, 476, 1074, 1075, 1076, 1077, 1807, 1808, 1809, 1810, 1078, 1079, 1080, 1081, 523, 1082, 1083, 1084, 1085, 1815] (by decide +kernel)
set_option maxRecDepth 20000 in
theorem ig_r19 : ∀ w ∈ wsL_law_r19, goodWord w = true := by decide +kernel
set_option maxRecDepth 20000 in
theorem it_r20 : ∀ w ∈ wsL_law_r20, w ∈ lw_tbl := sub_of _ [1816, 1817, 1818, 1819, 1821, 76, 1822, 1086, 1087, 1088, 1089, 1823, 1824, 1825, 1826, 1090, 1091, 1092, 1093, 1839, 1840, 1841, 1842, 1094] (by decide +kernel)
set_option maxRecDepth 20000 in
theorem ig_r20 : ∀ w ∈ wsL_law_r20, goodWord w = true := by decide +kernel
set_option maxRecDepth 20000 in
theorem it_r21 : ∀ w ∈ wsL_law_r21, w ∈ lw_tbl := sub_of _ [1095, 1096, 1097, 1843, 1844, 1845, 1846, 1098, 1099, 1100, 1101, 1847, 1848, 1849, 1850, 1106, 1107, 1108, 1109, 1851, 1852, 1853, 1854, 1114] (by decide +kernel)
set_option maxRecDepth 20000 in
theorem ig_r21 : ∀ w ∈ wsL_law_r21, goodWord w = true := by decide +kernel
set_option maxRecDepth 20000 in
theorem it_r22 : ∀ w ∈ wsL_law_r22, w ∈ lw_tbl := sub_of _ [1115, 1116, 1117, 437, 1859, 1860, 1861, 1862, 1122, 1123, 1124, 1125, 517, 1126, 1127, 1128, 1129, 1867, 1868, 1869, 1870, 1871, 1873, 82] (by decide +kernel)
set_option maxRecDepth 20000 in
theorem ig_r22 : ∀ w ∈ wsL_law_r22, goodWord w = true := by decide +kernel
set_option maxRecDepth 20000 in
theorem it_r23 : ∀ w ∈ wsL_law_r23, w ∈ lw_tbl := sub_of _ [1874, 1131, 1132, 1133, 1134, 1879, 1880, 1881, 1882, 1135, 1136, 1137, 1138, 1883, 1884, 1885, 1886, 1140, 1141, 1142, 1143, 339, 1888, 1889] (by decide +kernel)
set_option maxRecDepth 20000 in
theorem ig_r23 : ∀ w ∈ wsL_law_r23, goodWord w = true := by decide +kernel
set_option maxRecDepth 20000 in
theorem it_r24 : ∀ w ∈ wsL_law_r24, w ∈ lw_tbl := sub_of _ [1890, 1891, 1149, 1150, 1151, 1152, 1892, 1893, 1894, 1895, 1157, 1158, 1159, 1160, 1934, 1935, 1936, 1937, 1161, 1162, 1163, 1164, 1942, 1943] (by decide +kernel)
set_option maxRecDepth 20000 in
theorem ig_r24 : ∀ w ∈ wsL_law_r24, goodWord w = true := by decide +kernel
set_option maxRecDepth 20000 in
theorem it_r25 : ∀ w ∈ wsL_law_r25, w ∈ lw_tbl := sub_of _ [1944, 1945, 1946, 1948, 92, 1949, 1571, 1172, 1173, 1174, 1175, 1955, 1956, 1957, 1958, 1185, 1186, 1187, 1188, 1963, 1964, 1965, 1966, 1189] (by decide +kernel)
set_option maxRecDepth 20000 in
theorem ig_r25 : ∀ w ∈ wsL_law_r25, goodWord w = true := by decide +kernel
set_option maxRecDepth 20000 in
theorem it_r26 : ∀ w ∈ wsL_law_r26, w ∈ lw_tbl := sub_of _ [1190, 1191, 1192, 1967, 1968, 1969, 1970, 1197, 1198, 1199, 1200, 1971, 1972, 1973, 1974, 1201, 1202, 1203, 1204, 1975, 1976, 1977, 1978, 1210] (by decide +kernel)
set_option maxRecDepth 20000 in
theorem ig_r26 : ∀ w ∈ wsL_law_r26, goodWord w = true := by decide +kernel
set_option maxRecDepth 20000 in
theorem it_r27 : ∀ w ∈ wsL_law_r27, w ∈ lw_tbl := sub_of _ [1211, 1212, 1213, 1983, 1984, 1985, 1986, 1220, 1221, 1222, 1223, 1224, 1226, 30, 1227, 1228, 1229, 1230, 1231, 1232, 1233, 1234, 1987, 1988] (by decide +kernel)
set_option maxRecDepth 20000 in
theorem ig_r27 : ∀ w ∈ wsL_law_r27, goodWord w = true := by decide +kernel
set_option maxRecDepth 20000 in
theorem it_r28 : ∀ w ∈ wsL_law_r28, w ∈ lw_tbl := sub_of _ [1989, 1990, 1991, 1993, 96, 1994, 1995, 1996, 1997, 1998, 1250, 1251, 1252, 1253, 2003, 2004, 2005, 2006, 1254, 1255, 1256, 1257, 2011, 2012] (by decide +kernel)
set_option maxRecDepth 20000 in
theorem ig_r28 : ∀ w ∈ wsL_law_r28, goodWord w = true := by decide +kernel
set_option maxRecDepth 20000 in
theorem it_r29 : ∀ w ∈ wsL_law_r29, w ∈ lw_tbl := sub_of _ [2013, 2014, 1273, 1274, 1275, 1276, 1280, 2015, 2016, 2017, 2018, 2024, 1285, 1286, 1287, 1288, 1289, 1291, 33, 1292, 2025, 2026, 2027, 2028] (by decide +kernel)
set_option maxRecDepth 20000 in
theorem ig_r29 : ∀ w ∈ wsL_law_r29, goodWord w = true := by decide +kernel
set_option maxRecDepth 20000 in
theorem it_r30 : ∀ w ∈ wsL_law_r30, w ∈ lw_tbl := sub_of _ [2029, 2031, 100, 2032, 1321, 1322, 1323, 1324, 2045, 2046, 2047, 2048, 1325, 1326, 1327, 1328, 2049, 2050, 2051, 2052, 1330, 1331, 1332, 1333] (by decide +kernel)
set_option maxRecDepth 20000 in
theorem ig_r30 : ∀ w ∈ wsL_law_r30, goodWord w = true := by decide +kernel
set_option maxRecDepth 20000 in
theorem it_r31 : ∀ w ∈ wsL_law_r31, w ∈ lw_tbl := sub_of _ [2053, 2054, 2055, 2056, 2057, 2059, 104, 2060, 1351, 1352, 1353, 1354, 2075, 2076, 2077, 2078, 1356, 1357, 1358, 1359, 506, 504, 1360, 1361] (by decide +kernel)
set_option maxRecDepth 20000 in
theorem ig_r31 : ∀ w ∈ wsL_law_r31, goodWord w = true := by decide +kernel
set_option maxRecDepth 20000 in
theorem it_r32 : ∀ w ∈ wsL_law_r32, w ∈ lw_tbl := sub_of _ [1362, 1363, 1364, 1365, 1366, 1367, 2079, 2080, 2081, 2082, 1368, 1369, 1370, 1371, 1372, 1373, 1374, 1375, 1395, 1376, 1377, 1378, 1379, 1380] (by decide +kernel)
set_option maxRecDepth 20000 in
theorem ig_r32 : ∀ w ∈ wsL_law_r32, goodWord w = true := by decide +kernel
set_option maxRecDepth 20000 in
theorem it_r33 : ∀ w ∈ wsL_law_r33, w ∈ lw_tbl := sub_of _ [1381, 1382, 1383, 1384, 1385, 1386, 1387, 1388, 1389, 1390, 1391, 1392, 1393, 1394, 1567, 1568, 1569, 1570, 1396, 1397, 1398, 1399, 1575, 1576] (by decide +kernel)
set_option maxRecDepth 20000 in
theorem ig_r33 : ∀ w ∈ wsL_law_r33, goodWord w = true := by decide +kernel
set_option maxRecDepth 20000 in
theorem it_r34 : ∀ w ∈ wsL_law_r34, w ∈ lw_tbl := sub_of _ [1577, 1578, 1400, 1401, 1402, 1403, 1404, 1405, 1406, 1407, 2083, 2084, 2085, 2086, 1408, 1409, 1410, 1411, 2087, 2088, 2089, 2090, 1419, 1420] (by decide +kernel)
set_option maxRecDepth 20000 in
theorem ig_r34 : ∀ w ∈ wsL_law_r34, goodWord w = true := by decide +kernel
set_option maxRecDepth 20000 in
theorem it_r35 : ∀ w ∈ wsL_law_r35, w ∈ lw_tbl := sub_of _ [1421, 1422, 2094, 2095, 2096, 2097] (by decide +kernel)
set_option maxRecDepth 20000 in
theorem ig_r35 : ∀ w ∈ wsL_law_r35, goodWord w = true := by decide +kernel
set_option maxRecDepth 20000 in
theorem it_X11 : ∀ w ∈ wsX110, w ∈ lw_tbl := sub_of _ [569, 571, 573, 575, 577, 579, 581, 583, 585, 587] (by decide +kernel)
set_option maxRecDepth 20000 in
theorem ig_X11 : ∀ w ∈ wsX110, goodWord w = true := by decide +kernel
set_option maxRecDepth 20000 in
theorem it_X12 : ∀ w ∈ wsX120, w ∈ lw_tbl := sub_of _ [1482, 1484, 1486, 1488, 1490, 1492, 1494, 1496, 1498, 1500, 1502, 1504, 1506, 1508, 1510, 1512, 1514, 1516, 1518, 1520, 1522, 1524, 1526, 1528, 1530, 1532, 1534, 1536, 1538, 1540, 1542, 1544, 1546, 1548, 1550, 1552, 1554, 1556, 1558, 1560, 1562, 1564] (by decide +kernel)
set_option maxRecDepth 20000 in
theorem ig_X12 : ∀ w ∈ wsX120, goodWord w = true := by decide +kernel
set_option maxRecDepth 20000 in
theorem it_X10 : ∀ w ∈ wsX100, w ∈ lw_tbl := sub_of _ [154, 156, 158, 160, 162, 164, 166, 168] (by decide +kernel)
set_option maxRecDepth 20000 in
theorem ig_X10 : ∀ w ∈ wsX100, goodWord w = true := by decide +kernel
set_option maxRecDepth 20000 in
theorem it_X5 : ∀ w ∈ wsX50, w ∈ lw_tbl := sub_of _ [189, 191, 193, 195, 197, 199, 201, 203, 205, 207, 209] (by decide +kernel)
set_option maxRecDepth 20000 in
theorem ig_X5 : ∀ w ∈ wsX50, goodWord w = true := by decide +kernel
set_option maxRecDepth 20000 in
theorem it_X0 : ∀ w ∈ wsX00, w ∈ lw_tbl := sub_of _ [235, 237, 239, 241, 243, 245, 247] (by decide +kernel)
set_option maxRecDepth 20000 in
theorem ig_X0 : ∀ w ∈ wsX00, goodWord w = true := by decide +kernel
set_option maxRecDepth 20000 in
theorem it_X9 : ∀ w ∈ wsX90, w ∈ lw_tbl := sub_of _ [266, 268, 270, 272, 274] (by decide +kernel)
set_option maxRecDepth 20000 in
theorem ig_X9 : ∀ w ∈ wsX90, goodWord w = true := by decide +kernel
set_option maxRecDepth 20000 in
theorem it_X8 : ∀ w ∈ wsX80, w ∈ lw_tbl := sub_of _ [289, 291, 293, 295] (by decide +kernel)
set_option maxRecDepth 20000 in
theorem ig_X8 : ∀ w ∈ wsX80, goodWord w = true := by decide +kernel
set_option maxRecDepth 20000 in
theorem it_X6 : ∀ w ∈ wsX60, w ∈ lw_tbl := sub_of _ [313, 315, 317, 319] (by decide +kernel)
set_option maxRecDepth 20000 in
theorem ig_X6 : ∀ w ∈ wsX60, goodWord w = true := by decide +kernel
set_option maxRecDepth 20000 in
theorem it_X2 : ∀ w ∈ wsX20, w ∈ lw_tbl := sub_of _ [530, 532, 534, 536, 538, 540, 542, 544, 546, 548, 550, 552, 554, 556] (by decide +kernel)
set_option maxRecDepth 20000 in
theorem ig_X2 : ∀ w ∈ wsX20, goodWord w = true := by decide +kernel
set_option maxRecDepth 20000 in
theorem it_X3 : ∀ w ∈ wsX30, w ∈ lw_tbl := sub_of _ [362, 364, 366, 368, 370, 372, 374, 376] (by decide +kernel)
set_option maxRecDepth 20000 in
theorem ig_X3 : ∀ w ∈ wsX30, goodWord w = true := by decide +kernel
set_option maxRecDepth 20000 in
theorem it_X1 : ∀ w ∈ wsX10, w ∈ lw_tbl := sub_of _ [408, 410, 412, 414, 416, 418, 420, 422, 424, 426] (by decide +kernel)
set_option maxRecDepth 20000 in
theorem ig_X1 : ∀ w ∈ wsX10, goodWord w = true := by decide +kernel
set_option maxRecDepth 20000 in
theorem it_X4 : ∀ w ∈ wsX40, w ∈ lw_tbl := sub_of _ [445, 447, 449, 451, 453] (by decide +kernel)
set_option maxRecDepth 20000 in
theorem ig_X4 : ∀ w ∈ wsX40, goodWord w = true := by decide +kernel
set_option maxRecDepth 20000 in
theorem it_X7 : ∀ w ∈ wsX70, w ∈ lw_tbl := sub_of _ [480, 482, 484, 486, 488, 490, 492, 494] (by decide +kernel)
set_option maxRecDepth 20000 in
theorem ig_X7 : ∀ w ∈ wsX70, goodWord w = true := by decide +kernel
