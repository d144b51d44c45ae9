theorem sub_of (ws : List Cond) (ps : List Nat) (hp : ws = ps.filterMap (fun i => lw_tbl[i]?)) : ∀ w ∈ ws, w ∈ lw_tbl := by
  intro w hw
  rw [hp] at hw
  obtain ⟨i, -, hi⟩ := List.mem_filterMap.mp hw
  exact List.mem_of_getElem? hi
set_option maxRecDepth 20000 in
theorem it_r1 : ∀ w ∈ wsL_law_r1, w ∈ lw_tbl := sub_of _ [128, 129, 108, 1432, 1433, 120, 2098, 130, 131, 132, 133, 134, 135, 136, 137, 109, 559, 172, 173, 110, 560, 213, 214, 111] (by decide +kernel)
set_option maxRecDepth 20000 in
theorem ig_r1 : ∀ w ∈ wsL_law_r1, goodWord w = true := by decide +kernel
set_option maxRecDepth 20000 in
theorem it_r2 : ∀ w ∈ wsL_law_r2, w ∈ lw_tbl := sub_of _ [561, 250, 251, 112, 562, 277, 278, 113, 563, 300, 301, 114, 564, 322, 565, 298, 566, 324, 115, 567, 568, 139, 140, 141] (by decide +kernel)
set_option maxRecDepth 20000 in
theorem ig_r2 : ∀ w ∈ wsL_law_r2, goodWord w = true := by decide +kernel
set_option maxRecDepth 20000 in
theorem it_r3 : ∀ w ∈ wsL_law_r3, w ∈ lw_tbl := sub_of _ [171, 142, 148, 175, 176, 177, 212, 179, 180, 181, 182, 184, 185, 186, 216, 217, 218, 221, 224, 226, 228, 230, 232, 219] (by decide +kernel)
set_option maxRecDepth 20000 in
theorem ig_r3 : ∀ w ∈ wsL_law_r3, goodWord w = true := by decide +kernel
set_option maxRecDepth 20000 in
theorem it_r4 : ∀ w ∈ wsL_law_r4, w ∈ lw_tbl := sub_of _ [234, 253, 254, 255, 280, 281, 282, 283, 285, 287, 299, 288, 303, 304, 305, 308, 310, 312, 326, 327, 328, 329, 330, 116] (by decide +kernel)
set_option maxRecDepth 20000 in
theorem ig_r4 : ∀ w ∈ wsL_law_r4, goodWord w = true := by decide +kernel
set_option maxRecDepth 20000 in
theorem it_r5 : ∀ w ∈ wsL_law_r5, w ∈ lw_tbl := sub_of _ [514, 379, 380, 117, 518, 429, 430, 118, 522, 456, 457, 119, 524, 526, 332, 333, 334, 340, 344, 347, 350, 354, 357, 360] (by decide +kernel)
set_option maxRecDepth 20000 in
theorem ig_r5 : ∀ w ∈ wsL_law_r5, goodWord w = true := by decide +kernel
set_option maxRecDepth 20000 in
theorem it_r6 : ∀ w ∈ wsL_law_r6, w ∈ lw_tbl := sub_of _ [382, 383, 384, 390, 393, 396, 398, 399, 401, 402, 405, 407, 432, 433, 434, 438, 440, 442, 443, 459, 460, 461, 477, 1434] (by decide +kernel)
set_option maxRecDepth 20000 in
theorem ig_r6 : ∀ w ∈ wsL_law_r6, goodWord w = true := by decide +kernel
set_option maxRecDepth 20000 in
theorem it_r7 : ∀ w ∈ wsL_law_r7, w ∈ lw_tbl := sub_of _ [1435, 1436, 1437, 1441, 1442, 1443, 1444, 1446, 1453, 1454, 1455, 1456, 1457, 1458, 1459, 1460, 1462, 1464, 1465, 1467, 1468, 1469, 1470, 1476] (by decide +kernel)
set_option maxRecDepth 20000 in
theorem ig_r7 : ∀ w ∈ wsL_law_r7, goodWord w = true := by decide +kernel
set_option maxRecDepth 20000 in
theorem it_r8 : ∀ w ∈ wsL_law_r8, w ∈ lw_tbl := sub_of _ [1478, 1479, 1480, 1481, 1438, 1439, 1440, 590, 591, 592, 593, 144, 594, 595, 596, 597, 143, 598, 599, 600, 601, 1579, 1580, 1581] (by decide +kernel)
set_option maxRecDepth 20000 in
theorem ig_r8 : ∀ w ∈ wsL_law_r8, goodWord w = true := by decide +kernel
set_option maxRecDepth 20000 in
theorem it_r9 : ∀ w ∈ wsL_law_r9, w ∈ lw_tbl := sub_of _ [1582, 1445, 602, 603, 604, 605, 1583, 1584, 1585, 1586, 1572, 1573, 1574, 606, 607, 608, 609, 146, 507, 610, 611, 612, 613, 497] (by decide +kernel)
set_option maxRecDepth 20000 in
theorem ig_r9 : ∀ w ∈ wsL_law_r9, goodWord w = true := by decide +kernel
set_option maxRecDepth 20000 in
theorem it_r10 : ∀ w ∈ wsL_law_r10, w ∈ lw_tbl := sub_of _ [501, 503, 505, 508, 510, 511, 512, 513, 338, 388, 436, 614, 615, 616, 617, 462, 465, 467, 470, 473, 475, 479, 618, 619] (by decide +kernel)
set_option maxRecDepth 20000 in
theorem ig_r10 : ∀ w ∈ wsL_law_r10, goodWord w = true := by decide +kernel
set_option maxRecDepth 20000 in
theorem it_r11 : ∀ w ∈ wsL_law_r11, w ∈ lw_tbl := sub_of _ [620, 621, 145, 152, 622, 623, 624, 625, 151, 150, 626, 628, 0, 629, 630, 632, 1, 633, 634, 635, 636, 637, 639, 2] (by decide +kernel)
set_option maxRecDepth 20000 in
theorem ig_r11 : ∀ w ∈ wsL_law_r11, goodWord w = true := by decide +kernel
set_option maxRecDepth 20000 in
theorem it_r12 : ∀ w ∈ wsL_law_r12, w ∈ lw_tbl := sub_of _ [640, 641, 642, 643, 644, 646, 3, 647, 153, 648, 649, 650, 651, 652, 653, 654, 655, 656, 657, 659, 4, 660, 661, 663] (by decide +kernel)
set_option maxRecDepth 20000 in
theorem ig_r12 : ∀ w ∈ wsL_law_r12, goodWord w = true := by decide +kernel
set_option maxRecDepth 20000 in
theorem it_r13 : ∀ w ∈ wsL_law_r13, w ∈ lw_tbl := sub_of _ [5, 664, 666, 667, 668, 669, 670, 671, 672, 673, 674, 675, 676, 121, 677, 2099, 678, 679, 680, 681, 682, 2100, 684, 685] (by decide +kernel)
set_option maxRecDepth 20000 in
theorem ig_r13 : ∀ w ∈ wsL_law_r13, goodWord w = true := by decide +kernel
set_option maxRecDepth 20000 in
theorem it_r14 : ∀ w ∈ wsL_law_r14, w ∈ lw_tbl := sub_of _ [686, 687, 688, 689, 690, 691, 692, 693, 122, 694, 695, 696, 697, 698, 700, 701, 123, 702, 703, 704, 124, 705, 706, 707] (by decide +kernel)
set_option maxRecDepth 20000 in
theorem ig_r14 : ∀ w ∈ wsL_law_r14, goodWord w = true := by decide +kernel
set_option maxRecDepth 20000 in
theorem it_r15 : ∀ w ∈ wsL_law_r15, w ∈ lw_tbl := sub_of _ [708, 709, 710, 711, 712, 713, 714, 715, 716, 718, 720, 722, 723, 724, 725, 727, 728, 729, 730, 734, 735, 737, 6, 738] (by decide +kernel)
set_option maxRecDepth 20000 in
theorem ig_r15 : ∀ w ∈ wsL_law_r15, goodWord w = true := by decide +kernel
set_option maxRecDepth 20000 in
theorem it_r16 : ∀ w ∈ wsL_law_r16, w ∈ lw_tbl := sub_of _ [739, 740, 742, 743, 744, 745, 335, 746, 747, 749, 750, 756, 757, 758, 759, 435, 760, 761, 763, 764, 768, 770, 7, 771] (by decide +kernel)
set_option maxRecDepth 20000 in
theorem ig_r16 : ∀ w ∈ wsL_law_r16, goodWord w = true := by decide +kernel
set_option maxRecDepth 20000 in
theorem it_r17 : ∀ w ∈ wsL_law_r17, w ∈ lw_tbl := sub_of _ [773, 774, 775, 776, 385, 777, 778, 779, 781, 785, 786, 787, 789, 8, 790, 792, 793, 795, 797, 9, 798, 801, 802, 803] (by decide +kernel)
set_option maxRecDepth 20000 in
theorem ig_r17 : ∀ w ∈ wsL_law_r17, goodWord w = true := by decide +kernel
set_option maxRecDepth 20000 in
theorem it_r18 : ∀ w ∈ wsL_law_r18, w ∈ lw_tbl := sub_of _ [804, 805, 806, 807, 808, 809, 810, 811, 812, 516, 358, 521, 389, 887, 889, 888, 126, 813, 814, 815, 816, 336, 817, 818] (by decide +kernel)
set_option maxRecDepth 20000 in
theorem ig_r18 : ∀ w ∈ wsL_law_r18, goodWord w = true := by decide +kernel
set_option maxRecDepth 20000 in
theorem it_r19 : ∀ w ∈ wsL_law_r19, w ∈ lw_tbl := sub_of _ [819, 820, 821, 822, 125, 823, 824, 825, 826, 827, 395, 391, 397, 400, 828, 829, 830, 831, 832, 833, 834, 835, 836, 838] (by decide +kernel)
set_option maxRecDepth 20000 in
theorem ig_r19 : ∀ w ∈ wsL_law_r19, goodWord w = true := by decide +kernel
set_option maxRecDepth 20000 in
theorem it_r20 : ∀ w ∈ wsL_law_r20, w ∈ lw_tbl := sub_of _ [10, 839, 840, 842, 11, 843, 342, 844, 846, 12, 847, 498, 848, 850, 13, 851, 355, 348, 345, 852, 853, 854, 855, 856] (by decide +kernel)
set_option maxRecDepth 20000 in
theorem ig_r20 : ∀ w ∈ wsL_law_r20, goodWord w = true := by decide +kernel
set_option maxRecDepth 20000 in
theorem it_r21 : ∀ w ∈ wsL_law_r21, w ∈ lw_tbl := sub_of _ [857, 858, 859, 860, 861, 862, 863, 864, 865, 125, 866, 867, 869, 14, 870, 871, 872, 873, 874, 875, 876, 878, 15, 879] (by decide +kernel)
set_option maxRecDepth 20000 in
theorem ig_r21 : ∀ w ∈ wsL_law_r21, goodWord w = true := by decide +kernel
set_option maxRecDepth 20000 in
theorem it_r22 : ∀ w ∈ wsL_law_r22, w ∈ lw_tbl := sub_of _ [880, 881, 882, 883, 884, 885, 886, 890, 891, 892, 893, 894, 895, 896, 897, 898, 899, 900, 901, 1591, 1592, 1593, 1594, 1450] (by decide +kernel)
set_option maxRecDepth 20000 in
theorem ig_r22 : ∀ w ∈ wsL_law_r22, goodWord w = true := by decide +kernel
set_option maxRecDepth 20000 in
theorem it_r23 : ∀ w ∈ wsL_law_r23, w ∈ lw_tbl := sub_of _ [1595, 1597, 38, 1598, 1447, 1448, 1452, 1599, 1601, 39, 1602, 1449, 1607, 1608, 1609, 1610, 1451, 1611, 1612, 1603, 1605, 40, 1606, 1613] (by decide +kernel)
set_option maxRecDepth 20000 in
theorem ig_r23 : ∀ w ∈ wsL_law_r23, goodWord w = true := by decide +kernel
set_option maxRecDepth 20000 in
theorem it_r24 : ∀ w ∈ wsL_law_r24, w ∈ lw_tbl := sub_of _ [1615, 41, 1616, 1617, 1619, 42, 1620, 1622, 1624, 43, 1625, 1626, 1628, 44, 1629, 1630, 1632, 45, 1633, 1634, 1635, 1636, 1638, 46] (by decide +kernel)
set_option maxRecDepth 20000 in
theorem ig_r24 : ∀ w ∈ wsL_law_r24, goodWord w = true := by decide +kernel
set_option maxRecDepth 20000 in
theorem it_r25 : ∀ w ∈ wsL_law_r25, w ∈ lw_tbl := sub_of _ [1639, 1641, 1643, 47, 1644, 1645, 1647, 48, 1648, 1651, 1653, 49, 1654, 1655, 1657, 50, 1658, 1667, 1669, 51, 1670, 1676, 1678, 52] (by decide +kernel)
set_option maxRecDepth 20000 in
theorem ig_r25 : ∀ w ∈ wsL_law_r25, goodWord w = true := by decide +kernel
set_option maxRecDepth 20000 in
theorem it_r26 : ∀ w ∈ wsL_law_r26, w ∈ lw_tbl := sub_of _ [1679, 1682, 1684, 53, 1685, 1689, 1691, 54, 1692, 1693, 1695, 55, 1696, 1697, 1699, 56, 1700, 1701, 1703, 57, 1704, 1705, 1707, 58] (by decide +kernel)
set_option maxRecDepth 20000 in
theorem ig_r26 : ∀ w ∈ wsL_law_r26, goodWord w = true := by decide +kernel
set_option maxRecDepth 20000 in
theorem it_r27 : ∀ w ∈ wsL_law_r27, w ∈ lw_tbl := sub_of _ [1708, 1709, 1711, 59, 1712, 1721, 1713, 1715, 60, 1716, 1717, 1719, 61, 1720, 1722, 1724, 62, 1725, 1726, 1728, 63, 1729, 1730, 1732] (by decide +kernel)
set_option maxRecDepth 20000 in
theorem ig_r27 : ∀ w ∈ wsL_law_r27, goodWord w = true := by decide +kernel
set_option maxRecDepth 20000 in
theorem it_r28 : ∀ w ∈ wsL_law_r28, w ∈ lw_tbl := sub_of _ [64, 1733, 1734, 1736, 65, 1737, 1738, 1740, 66, 1741, 1742, 1744, 67, 1745, 902, 903, 904, 905, 520, 387, 509, 906, 907, 908] (by decide +kernel)
set_option maxRecDepth 20000 in
theorem ig_r28 : ∀ w ∈ wsL_law_r28, goodWord w = true := by decide +kernel
set_option maxRecDepth 20000 in
theorem it_r29 : ∀ w ∈ wsL_law_r29, w ∈ lw_tbl := sub_of _ [909, 910, 911, 912, 913, 178, 183, 914, 915, 917, 16, 918, 920, 921, 923, 17, 924, 925, 926, 927, 928, 930, 18, 931] (by decide +kernel)
set_option maxRecDepth 20000 in
theorem ig_r29 : ∀ w ∈ wsL_law_r29, goodWord w = true := by decide +kernel
set_option maxRecDepth 20000 in
theorem it_r30 : ∀ w ∈ wsL_law_r30, w ∈ lw_tbl := sub_of _ [935, 937, 19, 938, 147, 939, 940, 943, 944, 946, 20, 947, 948, 949, 950, 951, 187, 188, 527, 952, 499, 953, 955, 21] (by decide +kernel)
set_option maxRecDepth 20000 in
theorem ig_r30 : ∀ w ∈ wsL_law_r30, goodWord w = true := by decide +kernel
set_option maxRecDepth 20000 in
theorem it_r31 : ∀ w ∈ wsL_law_r31, w ∈ lw_tbl := sub_of _ [956, 961, 957, 959, 22, 960, 962, 964, 23, 965, 966, 967, 969, 24, 970, 1896, 1897, 1898, 1899, 1461, 1463, 1466, 1900, 1902] (by decide +kernel)
set_option maxRecDepth 20000 in
theorem ig_r31 : ∀ w ∈ wsL_law_r31, goodWord w = true := by decide +kernel
set_option maxRecDepth 20000 in
theorem it_r32 : ∀ w ∈ wsL_law_r32, w ∈ lw_tbl := sub_of _ [84, 1903, 1904, 1906, 85, 1907, 1908, 1910, 86, 1911, 1916, 1918, 87, 1919, 1922, 1924, 88, 1925, 1926, 1928, 89, 1929, 1930, 1932] (by decide +kernel)
set_option maxRecDepth 20000 in
theorem ig_r32 : ∀ w ∈ wsL_law_r32, goodWord w = true := by decide +kernel
set_option maxRecDepth 20000 in
theorem it_r33 : ∀ w ∈ wsL_law_r33, w ∈ lw_tbl := sub_of _ [90, 1933, 971, 972, 973, 974, 149, 1587, 1588, 1589, 1590, 975, 976, 977, 978, 227, 979, 980, 981, 982, 983, 984, 985, 986] (by decide +kernel)
set_option maxRecDepth 20000 in
theorem ig_r33 : ∀ w ∈ wsL_law_r33, goodWord w = true := by decide +kernel
set_option maxRecDepth 20000 in
theorem it_r34 : ∀ w ∈ wsL_law_r34, w ∈ lw_tbl := sub_of _ [987, 1746, 1747, 1748, 1749, 1750, 1752, 68, 1753, 1754, 1756, 69, 1757, 988, 989, 990, 991, 229, 992, 993, 994, 995, 996, 1758] (by decide +kernel)
set_option maxRecDepth 20000 in
theorem ig_r34 : ∀ w ∈ wsL_law_r34, goodWord w = true := by decide +kernel
set_option maxRecDepth 20000 in
theorem it_r35 : ∀ w ∈ wsL_law_r35, w ∈ lw_tbl := sub_of _ [1759, 1760, 1761, 1762, 1764, 70, 1765, 997, 998, 999, 1000, 500, 1002, 1001, 1766, 1767, 1768, 1769, 1003, 1004, 1005, 1006, 502, 1007] (by decide +kernel)
set_option maxRecDepth 20000 in
theorem ig_r35 : ∀ w ∈ wsL_law_r35, goodWord w = true := by decide +kernel
set_option maxRecDepth 20000 in
theorem it_r36 : ∀ w ∈ wsL_law_r36, w ∈ lw_tbl := sub_of _ [1009, 25, 1010, 1770, 1771, 1772, 1773, 1011, 1012, 1013, 1014, 1774, 1775, 1776, 1777, 1778, 1015, 1016, 1017, 1018, 1019, 1020, 1021, 1022] (by decide +kernel)
set_option maxRecDepth 20000 in
theorem ig_r36 : ∀ w ∈ wsL_law_r36, goodWord w = true := by decide +kernel
set_option maxRecDepth 20000 in
theorem it_r37 : ∀ w ∈ wsL_law_r37, w ∈ lw_tbl := sub_of _ [1023, 1024, 1025, 464, 472, 469, 1026, 1027, 1028, 1029, 1030, 1031, 1032, 1033, 1034, 1035, 1036, 1037, 1038, 1039, 1040, 1041, 1042, 1043] (by decide +kernel)
set_option maxRecDepth 20000 in
theorem ig_r37 : ∀ w ∈ wsL_law_r37, goodWord w = true := by decide +kernel
set_option maxRecDepth 20000 in
theorem it_r38 : ∀ w ∈ wsL_law_r38, w ∈ lw_tbl := sub_of _ [1044, 1045, 1046, 1047, 1048, 1049, 1050, 1053, 1051, 1052, 1054, 1055, 1056, 1057, 386, 406, 403, 1058, 1060, 26, 1061, 1779, 1780, 1781] (by decide +kernel)
set_option maxRecDepth 20000 in
theorem ig_r38 : ∀ w ∈ wsL_law_r38, goodWord w = true := by decide +kernel
set_option maxRecDepth 20000 in
theorem it_r39 : ∀ w ∈ wsL_law_r39, w ∈ lw_tbl := sub_of _ [1782, 1783, 1784, 1785, 1786, 1788, 71, 1789, 1790, 1792, 72, 1793, 1794, 1796, 73, 1797, 1798, 1800, 74, 1801, 1062, 1063, 1064, 1065] (by decide +kernel)
set_option maxRecDepth 20000 in
theorem ig_r39 : ∀ w ∈ wsL_law_r39, goodWord w = true := by decide +kernel
set_option maxRecDepth 20000 in
theorem it_r40 : ∀ w ∈ wsL_law_r40, w ∈ lw_tbl := sub_of _ [404, 525, 468, 463, 392, 478, 1066, 1067, 1068, 1069, 1802, 1803, 1804, 1805, 1806, 1070, 1071, 1072, 1073, 466, 471, 474, 476, 1074] (by decide +kernel)
set_option maxRecDepth 20000 in
theorem ig_r40 : ∀ w ∈ wsL_law_r40, goodWord w = true := by decide +kernel
set_option maxRecDepth 20000 in
theorem it_r41 : ∀ w ∈ wsL_law_r41, w ∈ lw_tbl := sub_of _ [1075, 1076, 1077, 1807, 1808, 1809, 1810, 1811, 1813, 75, 1814, 1078, 1079, 1080, 1081, 523, 444, 1082, 1083, 1084, 1085, 1815, 1816, 1817] (by decide +kernel)
set_option maxRecDepth 20000 in
theorem ig_r41 : ∀ w ∈ wsL_law_r41, goodWord w = true := by decide +kernel
set_option maxRecDepth 20000 in
theorem it_r42 : ∀ w ∈ wsL_law_r42, w ∈ lw_tbl := sub_of _ [1818, 1819, 1821, 76, 1822, 1086, 1087, 1088, 1089, 231, 1823, 1824, 1825, 1826, 1827, 1829, 77, 1830, 1831, 1833, 78, 1834, 1835, 1837] (by decide +kernel)
set_option maxRecDepth 20000 in
theorem ig_r42 : ∀ w ∈ wsL_law_r42, goodWord w = true := by decide +kernel
set_option maxRecDepth 20000 in
theorem it_r43 : ∀ w ∈ wsL_law_r43, w ∈ lw_tbl := sub_of _ [79, 1838, 1090, 1091, 1092, 1093, 1839, 1840, 1841, 1842, 1094, 1095, 1096, 1097, 1843, 1844, 1845, 1846, 1098, 1099, 1100, 1101, 1102, 1103] (by decide +kernel)
set_option maxRecDepth 20000 in
theorem ig_r43 : ∀ w ∈ wsL_law_r43, goodWord w = true := by decide +kernel
set_option maxRecDepth 20000 in
theorem it_r44 : ∀ w ∈ wsL_law_r44, w ∈ lw_tbl := sub_of _ [1104, 1105, 1847, 1848, 1849, 1850, 1106, 1107, 1108, 1109, 439, 441, 1110, 1111, 1112, 1113, 1851, 1852, 1853, 1854, 1855, 1857, 80, 1858] (by decide +kernel)
set_option maxRecDepth 20000 in
theorem ig_r44 : ∀ w ∈ wsL_law_r44, goodWord w = true := by decide +kernel
set_option maxRecDepth 20000 in
theorem it_r45 : ∀ w ∈ wsL_law_r45, w ∈ lw_tbl := sub_of _ [1114, 1115, 1116, 1117, 437, 233, 1118, 1119, 1120, 1121, 1859, 1860, 1861, 1862, 1863, 1865, 81, 1866, 1122, 1123, 1124, 1125, 517, 359] (by decide +kernel)
set_option maxRecDepth 20000 in
theorem ig_r45 : ∀ w ∈ wsL_law_r45, goodWord w = true := by decide +kernel
set_option maxRecDepth 20000 in
theorem it_r46 : ∀ w ∈ wsL_law_r46, w ∈ lw_tbl := sub_of _ [353, 1130, 1126, 1127, 1128, 1129, 1867, 1868, 1869, 1870, 1871, 1873, 82, 1874, 1875, 1877, 83, 1878, 1131, 1132, 1133, 1134, 361, 1879] (by decide +kernel)
set_option maxRecDepth 20000 in
theorem ig_r46 : ∀ w ∈ wsL_law_r46, goodWord w = true := by decide +kernel
set_option maxRecDepth 20000 in
theorem it_r47 : ∀ w ∈ wsL_law_r47, w ∈ lw_tbl := sub_of _ [1880, 1881, 1882, 1135, 1136, 1137, 1138, 343, 346, 349, 356, 1139, 1883, 1884, 1885, 1886, 1887, 1140, 1141, 1142, 1143, 339, 1144, 1145] (by decide +kernel)
set_option maxRecDepth 20000 in
theorem ig_r47 : ∀ w ∈ wsL_law_r47, goodWord w = true := by decide +kernel
set_option maxRecDepth 20000 in
theorem it_r48 : ∀ w ∈ wsL_law_r48, w ∈ lw_tbl := sub_of _ [1146, 1147, 1148, 1888, 1889, 1890, 1891, 1149, 1150, 1151, 1152, 1153, 1154, 1155, 1156, 1892, 1893, 1894, 1895, 1157, 1158, 1159, 1160, 529] (by decide +kernel)
set_option maxRecDepth 20000 in
theorem ig_r48 : ∀ w ∈ wsL_law_r48, goodWord w = true := by decide +kernel
set_option maxRecDepth 20000 in
theorem it_r49 : ∀ w ∈ wsL_law_r49, w ∈ lw_tbl := sub_of _ [1934, 1935, 1936, 1937, 1938, 1940, 91, 1941, 1161, 1162, 1163, 1164, 1165, 1166, 1167, 1168, 1169, 1170, 1171, 528, 1942, 1943, 1944, 1945] (by decide +kernel)
set_option maxRecDepth 20000 in
theorem ig_r49 : ∀ w ∈ wsL_law_r49, goodWord w = true := by decide +kernel
set_option maxRecDepth 20000 in
theorem it_r50 : ∀ w ∈ wsL_law_r50, w ∈ lw_tbl := sub_of _ [1946, 1948, 92, 1949, 1571, 1950, 1951, 1953, 93, 1954, 1172, 1173, 1174, 1175, 1176, 1178, 27, 1179, 1180, 1181, 1183, 28, 1184, 1955] (by decide +kernel)
set_option maxRecDepth 20000 in
theorem ig_r50 : ∀ w ∈ wsL_law_r50, goodWord w = true := by decide +kernel
set_option maxRecDepth 20000 in
theorem it_r51 : ∀ w ∈ wsL_law_r51, w ∈ lw_tbl := sub_of _ [1956, 1957, 1958, 1959, 1961, 94, 1962, 1185, 1186, 1187, 1188, 1963, 1964, 1965, 1966, 1189, 1190, 1191, 1192, 1193, 1195, 29, 1196, 1967] (by decide +kernel)
set_option maxRecDepth 20000 in
theorem ig_r51 : ∀ w ∈ wsL_law_r51, goodWord w = true := by decide +kernel
set_option maxRecDepth 20000 in
theorem it_r52 : ∀ w ∈ wsL_law_r52, w ∈ lw_tbl := sub_of _ [1968, 1969, 1970, 1197, 1198, 1199, 1200, 1971, 1972, 1973, 1974, 1201, 1202, 1203, 1204, 1205, 1206, 1207, 1208, 1209, 1975, 1976, 1977, 1978] (by decide +kernel)
set_option maxRecDepth 20000 in
theorem ig_r52 : ∀ w ∈ wsL_law_r52, goodWord w = true := by decide +kernel
set_option maxRecDepth 20000 in
theorem it_r53 : ∀ w ∈ wsL_law_r53, w ∈ lw_tbl := sub_of _ [1979, 1981, 95, 1982, 1210, 1211, 1212, 1213, 1214, 1215, 1216, 1217, 1219, 1218, 1983, 1984, 1985, 1986, 1220, 1221, 1222, 1223, 1224, 1226] (by decide +kernel)
set_option maxRecDepth 20000 in
theorem ig_r53 : ∀ w ∈ wsL_law_r53, goodWord w = true := by decide +kernel
set_option maxRecDepth 20000 in
theorem it_r54 : ∀ w ∈ wsL_law_r54, w ∈ lw_tbl := sub_of _ [30, 1227, 286, 307, 309, 1228, 1229, 1230, 1231, 1232, 1233, 1234, 1235, 1236, 1237, 1238, 1239, 1240, 1241, 1242, 306, 1243, 1245, 31] (by decide +kernel)
set_option maxRecDepth 20000 in
theorem ig_r54 : ∀ w ∈ wsL_law_r54, goodWord w = true := by decide +kernel
set_option maxRecDepth 20000 in
theorem it_r55 : ∀ w ∈ wsL_law_r55, w ∈ lw_tbl := sub_of _ [1246, 1247, 1248, 1249, 1987, 1988, 1989, 1990, 1991, 1993, 96, 1994, 1995, 1996, 1997, 1998, 1999, 2001, 97, 2002, 1250, 1251, 1252, 1253] (by decide +kernel)
set_option maxRecDepth 20000 in
theorem ig_r55 : ∀ w ∈ wsL_law_r55, goodWord w = true := by decide +kernel
set_option maxRecDepth 20000 in
theorem it_r56 : ∀ w ∈ wsL_law_r56, w ∈ lw_tbl := sub_of _ [311, 2003, 2004, 2005, 2006, 2007, 2009, 98, 2010, 1254, 1255, 1256, 1257, 1258, 1259, 1260, 1261, 1272, 1262, 1264, 32, 1265, 1266, 1267] (by decide +kernel)
set_option maxRecDepth 20000 in
theorem ig_r56 : ∀ w ∈ wsL_law_r56, goodWord w = true := by decide +kernel
set_option maxRecDepth 20000 in
theorem it_r57 : ∀ w ∈ wsL_law_r57, w ∈ lw_tbl := sub_of _ [127, 1268, 1269, 1270, 1271, 2011, 2012, 2013, 2014, 1273, 1274, 1275, 1276, 1280, 1277, 1278, 1279, 1281, 1282, 1283, 1284, 2015, 2016, 2017] (by decide +kernel)
set_option maxRecDepth 20000 in
theorem ig_r57 : ∀ w ∈ wsL_law_r57, goodWord w = true := by decide +kernel
set_option maxRecDepth 20000 in
theorem it_r58 : ∀ w ∈ wsL_law_r58, w ∈ lw_tbl := sub_of _ [2018, 2019, 2024, 2020, 2022, 99, 2023, 1285, 1286, 1287, 1288, 257, 1289, 1291, 33, 1292, 1293, 1294, 1295, 1296, 256, 258, 260, 262] (by decide +kernel)
set_option maxRecDepth 20000 in
theorem ig_r58 : ∀ w ∈ wsL_law_r58, goodWord w = true := by decide +kernel
set_option maxRecDepth 20000 in
theorem it_r59 : ∀ w ∈ wsL_law_r59, w ∈ lw_tbl := sub_of _ [515, 264, 519, 394, 337, 341, 351, 1297, 1298, 1299, 1300, 352, 1301, 1302, 1303, 1304, 1306, 34, 1307, 222, 1308, 1310, 35, 1311] (by decide +kernel)
set_option maxRecDepth 20000 in
theorem ig_r59 : ∀ w ∈ wsL_law_r59, goodWord w = true := by decide +kernel
set_option maxRecDepth 20000 in
theorem it_r60 : ∀ w ∈ wsL_law_r60, w ∈ lw_tbl := sub_of _ [1312, 1314, 36, 1315, 1316, 1317, 1319, 37, 1320, 2025, 2026, 2027, 2028, 1471, 2029, 2031, 100, 2032, 2033, 2035, 101, 2036, 2037, 2039] (by decide +kernel)
set_option maxRecDepth 20000 in
theorem ig_r60 : ∀ w ∈ wsL_law_r60, goodWord w = true := by decide +kernel
set_option maxRecDepth 20000 in
theorem it_r61 : ∀ w ∈ wsL_law_r61, w ∈ lw_tbl := sub_of _ [102, 2040, 1474, 1472, 1473, 1475, 2041, 2043, 103, 2044, 1321, 1322, 1323, 1324, 259, 261, 265, 263, 2045, 2046, 2047, 2048, 1325, 1326] (by decide +kernel)
set_option maxRecDepth 20000 in
theorem ig_r61 : ∀ w ∈ wsL_law_r61, goodWord w = true := by decide +kernel
set_option maxRecDepth 20000 in
theorem it_r62 : ∀ w ∈ wsL_law_r62, w ∈ lw_tbl := sub_of _ [1327, 1328, 223, 1329, 2049, 2050, 2051, 2052, 1330, 1331, 1332, 1333, 1334, 1335, 1336, 1337, 1338, 1339, 1340, 1341, 1342, 1343, 1344, 1345] (by decide +kernel)
set_option maxRecDepth 20000 in
theorem ig_r62 : ∀ w ∈ wsL_law_r62, goodWord w = true := by decide +kernel
set_option maxRecDepth 20000 in
theorem it_r63 : ∀ w ∈ wsL_law_r63, w ∈ lw_tbl := sub_of _ [1346, 1347, 1348, 1349, 1350, 2053, 2054, 2055, 2056, 1477, 2057, 2059, 104, 2060, 2061, 2062, 2063, 2065, 105, 2066, 2067, 2069, 106, 2070] (by decide +kernel)
set_option maxRecDepth 20000 in
theorem ig_r63 : ∀ w ∈ wsL_law_r63, goodWord w = true := by decide +kernel
set_option maxRecDepth 20000 in
theorem it_r64 : ∀ w ∈ wsL_law_r64, w ∈ lw_tbl := sub_of _ [2071, 2072, 2073, 2074, 1351, 1352, 1353, 1354, 225, 1355, 2075, 2076, 2077, 2078, 1356, 1357, 1358, 1359, 506, 504, 1360, 1361, 1362, 1363] (by decide +kernel)
set_option maxRecDepth 20000 in
theorem ig_r64 : ∀ w ∈ wsL_law_r64, goodWord w = true := by decide +kernel
set_option maxRecDepth 20000 in
theorem it_r65 : ∀ w ∈ wsL_law_r65, w ∈ lw_tbl := sub_of _ [1364, 1365, 1366, 1367, 2079, 2080, 2081, 2082, 1368, 1369, 1370, 1371, 1372, 1373, 1374, 1375, 1395, 1376, 1377, 1378, 1379, 1380, 1381, 1382] (by decide +kernel)
set_option maxRecDepth 20000 in
theorem ig_r65 : ∀ w ∈ wsL_law_r65, goodWord w = true := by decide +kernel
set_option maxRecDepth 20000 in
theorem it_r66 : ∀ w ∈ wsL_law_r66, w ∈ lw_tbl := sub_of _ [1383, 1384, 1385, 1386, 1387, 1388, 1389, 1390, 1391, 1392, 1393, 1394, 1567, 1568, 1569, 1570, 1396, 1397, 1398, 1399, 1575, 1576, 1577, 1578] (by decide +kernel)
set_option maxRecDepth 20000 in
theorem ig_r66 : ∀ w ∈ wsL_law_r66, goodWord w = true := by decide +kernel
set_option maxRecDepth 20000 in
theorem it_r67 : ∀ w ∈ wsL_law_r67, w ∈ lw_tbl := sub_of _ [1400, 1401, 1402, 1403, 1404, 1405, 1406, 1407, 2083, 2084, 2085, 2086, 1408, 1409, 1410, 1411, 1412, 1413, 1414, 1415, 1416, 1417, 1418, 2087] (by decide +kernel)
set_option maxRecDepth 20000 in
theorem ig_r67 : ∀ w ∈ wsL_law_r67, goodWord w = true := by decide +kernel
set_option maxRecDepth 20000 in
theorem it_r68 : ∀ w ∈ wsL_law_r68, w ∈ lw_tbl := sub_of _ [2088, 2089, 2090, 2091, 2092, 2093, 1419, 1420, 1421, 1422, 284, 1423, 1424, 1425, 1426, 1427, 1428, 1429, 1430, 1431, 2094, 2095, 2096, 2097] (by decide +kernel)
set_option maxRecDepth 20000 in
theorem ig_r68 : ∀ w ∈ wsL_law_r68, goodWord w = true := by decide +kernel
set_option maxRecDepth 20000 in
theorem it_X11 : ∀ w ∈ wsX110, w ∈ lw_tbl := sub_of _ [569, 571, 573, 575, 577, 579, 581, 583, 585, 587] (by decide +kernel)
set_option maxRecDepth 20000 in
theorem ig_X11 : ∀ w ∈ wsX110, goodWord w = true := by decide +kernel
set_option maxRecDepth 20000 in
theorem it_X12 : ∀ w ∈ wsX120, w ∈ lw_tbl := sub_of _ [1482, 1484, 1486, 1488, 1490, 1492, 1494, 1496, 1498, 1500, 1502, 1504, 1506, 1508, 1510, 1512, 1514, 1516, 1518, 1520, 1522, 1524, 1526, 1528, 1530, 1532, 1534, 1536, 1538, 1540, 1542, 1544, 1546, 1548, 1550, 1552, 1554, 1556, 1558, 1560, 1562, 1564] (by decide +kernel)
set_option maxRecDepth 20000 in
theorem ig_X12 : ∀ w ∈ wsX120, goodWord w = true := by decide +kernel
set_option maxRecDepth 20000 in
theorem it_X10 : ∀ w ∈ wsX100, w ∈ lw_tbl := sub_of _ [154, 156, 158, 160, 162, 164, 166, 168] (by decide +kernel)
set_option maxRecDepth 20000 in
theorem ig_X10 : ∀ w ∈ wsX100, goodWord w = true := by decide +kernel
set_option maxRecDepth 20000 in
theorem it_X5 : ∀ w ∈ wsX50, w ∈ lw_tbl := sub_of _ [189, 191, 193, 195, 197, 199, 201, 203, 205, 207, 209] (by decide +kernel)
set_option maxRecDepth 20000 in
theorem ig_X5 : ∀ w ∈ wsX50, goodWord w = true := by decide +kernel
set_option maxRecDepth 20000 in
theorem it_X0 : ∀ w ∈ wsX00, w ∈ lw_tbl := sub_of _ [235, 237, 239, 241, 243, 245, 247] (by decide +kernel)
set_option maxRecDepth 20000 in
theorem ig_X0 : ∀ w ∈ wsX00, goodWord w = true := by decide +kernel
set_option maxRecDepth 20000 in
theorem it_X9 : ∀ w ∈ wsX90, w ∈ lw_tbl := sub_of _ [266, 268, 270, 272, 274] (by decide +kernel)
set_option maxRecDepth 20000 in
theorem ig_X9 : ∀ w ∈ wsX90, goodWord w = true := by decide +kernel
set_option maxRecDepth 20000 in
theorem it_X8 : ∀ w ∈ wsX80, w ∈ lw_tbl := sub_of _ [289, 291, 293, 295] (by decide +kernel)
set_option maxRecDepth 20000 in
theorem ig_X8 : ∀ w ∈ wsX80, goodWord w = true := by decide +kernel
set_option maxRecDepth 20000 in
theorem it_X6 : ∀ w ∈ wsX60, w ∈ lw_tbl := sub_of _ [313, 315, 317, 319] (by decide +kernel)
set_option maxRecDepth 20000 in
theorem ig_X6 : ∀ w ∈ wsX60, goodWord w = true := by decide +kernel
set_option maxRecDepth 20000 in
theorem it_X2 : ∀ w ∈ wsX20, w ∈ lw_tbl := sub_of _ [530, 532, 534, 536, 538, 540, 542, 544, 546, 548, 550, 552, 554, 556] (by decide +kernel)
set_option maxRecDepth 20000 in
theorem ig_X2 : ∀ w ∈ wsX20, goodWord w = true := by decide +kernel
set_option maxRecDepth 20000 in
theorem it_X3 : ∀ w ∈ wsX30, w ∈ lw_tbl := sub_of _ [362, 364, 366, 368, 370, 372, 374, 376] (by decide +kernel)
set_option maxRecDepth 20000 in
theorem ig_X3 : ∀ w ∈ wsX30, goodWord w = true := by decide +kernel
set_option maxRecDepth 20000 in
theorem it_X1 : ∀ w ∈ wsX10, w ∈ lw_tbl := sub_of _ [408, 410, 412, 414, 416, 418, 420, 422, 424, 426] (by decide +kernel)
set_option maxRecDepth 20000 in
theorem ig_X1 : ∀ w ∈ wsX10, goodWord w = true := by decide +kernel
set_option maxRecDepth 20000 in
theorem it_X4 : ∀ w ∈ wsX40, w ∈ lw_tbl := sub_of _ [445, 447, 449, 451, 453] (by decide +kernel)
set_option maxRecDepth 20000 in
theorem ig_X4 : ∀ w ∈ wsX40, goodWord w = true := by decide +kernel
set_option maxRecDepth 20000 in
theorem it_X7 : ∀ w ∈ wsX70, w ∈ lw_tbl := sub_of _ [480, 482, 484, 486, 488, 490, 492, 494] (by decide +kernel)
set_option maxRecDepth 20000 in
theorem ig_X7 : ∀ w ∈ wsX70, goodWord w = true := by decide +kernel
