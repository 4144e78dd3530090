/-! Own rows: what the law's start gives -/
theorem mt {T c : List Cond} (is : List Nat) (h : c.map some = is.map (fun i => T[i]?)) : ∀ w ∈ c, w ∈ T := by
  intro w hw
  have h1 : some w ∈ c.map some := List.mem_map.mpr ⟨w, hw, rfl⟩
  rw [h] at h1
  obtain ⟨i, -, hi⟩ := List.mem_map.mp h1
  exact List.mem_of_getElem? hi
theorem ap2 {P : Cond → Prop} {a b : List Cond} (h : ∀ w ∈ a, P w) (k : ∀ w ∈ b, P w) : ∀ w ∈ a ++ b, P w := fun w q => (List.mem_append.mp q).elim (h w) (k w)
def gvC : Cond := Jvm.Cond.and given_1 narrow_1
theorem gt_wsL_law0_r1 : ∀ w ∈ wsL_law0_r1, w ∈ lw_tbl := mt [116, 117, 86, 1448, 1449, 97, 298, 2011, 118, 119, 120, 121, 122, 123, 124, 125, 87, 333, 173, 131, 88, 334, 153, 335] (by decide +kernel)
theorem gt_wsL_law0_r2 : ∀ w ∈ wsL_law0_r2, w ∈ lw_tbl := mt [175, 176, 89, 336, 198, 199, 90, 337, 211, 212, 91, 338, 238, 239, 92, 339, 340, 341, 342, 343, 252, 253, 93, 344] (by decide +kernel)
theorem gt_wsL_law0_r3 : ∀ w ∈ wsL_law0_r3, w ∈ lw_tbl := mt [279, 280, 94, 345, 299, 300, 95, 346, 316, 317, 96, 347, 126, 127, 128, 129, 130, 154, 160, 165, 133, 134, 135, 141] (by decide +kernel)
theorem gt_wsL_law0_r4 : ∀ w ∈ wsL_law0_r4, w ∈ lw_tbl := mt [142, 143, 178, 179, 180, 197, 183, 186, 200, 201, 202, 203, 204, 205, 214, 215, 216, 222, 223, 224, 241, 242, 243, 251] (by decide +kernel)
theorem gt_wsL_law0_r5 : ∀ w ∈ wsL_law0_r5, w ∈ lw_tbl := mt [244, 245, 255, 256, 257, 261, 262, 263, 264, 265, 282, 283, 284, 289, 285, 290, 286, 302, 303, 304, 307, 308, 319, 320] (by decide +kernel)
theorem gt_wsL_law0_r6 : ∀ w ∈ wsL_law0_r6, w ∈ lw_tbl := mt [321, 324, 325, 1450, 1451, 1452, 1453, 1462, 1454, 1463, 1464, 1465, 1466, 1467, 1468, 1469, 1470, 1471, 1459, 1473, 1474, 1461, 1479, 1482] (by decide +kernel)
theorem gt_wsL_law0_r7 : ∀ w ∈ wsL_law0_r7, w ∈ lw_tbl := mt [1483, 1456, 1457, 1458, 616, 617, 85, 618, 619, 621, 622, 623, 624, 701, 102, 625, 627, 8, 628, 629, 101, 717, 718, 719] (by decide +kernel)
theorem gt_wsL_law0_r8 : ∀ w ∈ wsL_law0_r8, w ∈ lw_tbl := mt [720, 136, 721, 723, 10, 724, 725, 495, 496, 497, 498, 499, 103, 500, 726, 727, 728, 729, 217, 1533, 1534, 1535, 1536, 1537] (by decide +kernel)
theorem gt_wsL_law0_r9 : ∀ w ∈ wsL_law0_r9, w ∈ lw_tbl := mt [1538, 1539, 1541, 1542, 1543, 104, 1544, 1545, 1546, 1547, 1548, 2036, 1549, 1550, 1551, 1552, 1553, 2035, 1555, 1556, 1557, 1558, 1559, 1560] (by decide +kernel)
theorem gt_wsL_law0_r10 : ∀ w ∈ wsL_law0_r10, w ∈ lw_tbl := mt [1561, 1562, 1563, 1564, 105, 1565, 1569, 429, 106, 430, 1570, 865, 866, 1566, 1567, 1568, 1571, 1572, 1573, 1574, 1575, 107, 1576, 1577] (by decide +kernel)
theorem gt_wsL_law0_r11 : ∀ w ∈ wsL_law0_r11, w ∈ lw_tbl := mt [1578, 1579, 1580, 1581, 1582, 1583, 1584, 1585, 1586, 1587, 1588, 1589, 1590, 1591, 1592, 1594, 1595, 108, 1596, 1597, 1598, 1599, 1600, 1601] (by decide +kernel)
theorem gt_wsL_law0_r12 : ∀ w ∈ wsL_law0_r12, w ∈ lw_tbl := mt [1602, 1603, 1605, 1607, 1609, 1610, 1611, 1612, 1613, 109, 1614, 1615, 1616, 1617, 1618, 1619, 1620, 1621, 1622, 1623, 1625, 43, 1626, 1477] (by decide +kernel)
theorem gt_wsL_law0_r13 : ∀ w ∈ wsL_law0_r13, w ∈ lw_tbl := mt [1627, 1629, 44, 1630, 1529, 1530, 1531, 1532, 730, 731, 732, 733, 734, 735, 736, 1631, 1632, 1633, 1634, 737, 738, 739, 740, 741] (by decide +kernel)
theorem gt_wsL_law0_r14 : ∀ w ∈ wsL_law0_r14, w ∈ lw_tbl := mt [742, 743, 744, 745, 747, 11, 748, 753, 110, 749, 750, 751, 752, 458, 425, 426, 427, 770, 771, 772, 773, 1635, 1636, 1637] (by decide +kernel)
theorem gt_wsL_law0_r15 : ∀ w ∈ wsL_law0_r15, w ∈ lw_tbl := mt [1638, 1639, 1641, 45, 1642, 1643, 1644, 1645, 774, 775, 776, 777, 778, 779, 780, 459, 461, 0, 462, 1646, 1647, 1648, 1649, 782] (by decide +kernel)
theorem gt_wsL_law0_r16 : ∀ w ∈ wsL_law0_r16, w ∈ lw_tbl := mt [783, 784, 785, 786, 787, 788, 791, 792, 793, 794, 181, 1650, 1651, 1652, 1653, 1475, 379, 380, 381, 382, 383, 384, 385, 386] (by decide +kernel)
theorem gt_wsL_law0_r17 : ∀ w ∈ wsL_law0_r17, w ∈ lw_tbl := mt [1654, 1655, 1656, 1657, 795, 796, 797, 798, 822, 823, 824, 825, 826, 111, 839, 483, 484, 485, 1658, 1659, 1660, 1661, 840, 841] (by decide +kernel)
theorem gt_wsL_law0_r18 : ∀ w ∈ wsL_law0_r18, w ∈ lw_tbl := mt [842, 843, 844, 845, 846, 847, 849, 12, 850, 852, 854, 13, 855, 856, 857, 858, 859, 184, 864, 860, 862, 14, 863, 482] (by decide +kernel)
theorem gt_wsL_law0_r19 : ∀ w ∈ wsL_law0_r19, w ∈ lw_tbl := mt [867, 869, 15, 870, 871, 873, 16, 874, 875, 876, 877, 878, 879, 880, 881, 882, 883, 453, 454, 455, 456, 884, 886, 17] (by decide +kernel)
theorem gt_wsL_law0_r20 : ∀ w ∈ wsL_law0_r20, w ∈ lw_tbl := mt [887, 449, 450, 451, 452, 888, 1662, 1663, 1664, 1665, 1478, 1666, 1668, 46, 1669, 1670, 1672, 47, 1673, 1674, 1675, 1676, 1677, 889] (by decide +kernel)
theorem gt_wsL_law0_r21 : ∀ w ∈ wsL_law0_r21, w ∈ lw_tbl := mt [890, 891, 892, 893, 894, 895, 1678, 1679, 1680, 1681, 896, 897, 898, 899, 900, 901, 902, 904, 1682, 1683, 1684, 1685, 905, 906] (by decide +kernel)
theorem gt_wsL_law0_r22 : ∀ w ∈ wsL_law0_r22, w ∈ lw_tbl := mt [907, 908, 909, 910, 911, 554, 408, 409, 410, 1686, 1687, 1688, 1689, 1690, 1692, 48, 1693, 912, 913, 914, 915, 916, 917, 918] (by decide +kernel)
theorem gt_wsL_law0_r23 : ∀ w ∈ wsL_law0_r23, w ∈ lw_tbl := mt [920, 1694, 1695, 1696, 1697, 921, 922, 923, 924, 925, 926, 927, 928, 930, 18, 931, 933, 502, 503, 504, 219, 220, 505, 934] (by decide +kernel)
theorem gt_wsL_law0_r24 : ∀ w ∈ wsL_law0_r24, w ∈ lw_tbl := mt [935, 936, 937, 510, 511, 512, 513, 514, 515, 516, 517, 518, 519, 520, 521, 522, 420, 421, 422, 423, 424, 523, 412, 413] (by decide +kernel)
theorem gt_wsL_law0_r25 : ∀ w ∈ wsL_law0_r25, w ∈ lw_tbl := mt [414, 1698, 1699, 1700, 1701, 1702, 1704, 49, 1705, 1472, 1706, 1708, 50, 1709, 1710, 1712, 51, 1713, 1714, 1716, 52, 1717, 1718, 1720] (by decide +kernel)
theorem gt_wsL_law0_r26 : ∀ w ∈ wsL_law0_r26, w ∈ lw_tbl := mt [53, 1721, 938, 939, 940, 620, 942, 943, 944, 945, 954, 113, 946, 948, 19, 949, 951, 953, 970, 525, 526, 527, 528, 529] (by decide +kernel)
theorem gt_wsL_law0_r27 : ∀ w ∈ wsL_law0_r27, w ∈ lw_tbl := mt [530, 531, 532, 533, 534, 535, 536, 537, 538, 539, 540, 541, 542, 543, 544, 417, 418, 419, 428, 415, 545, 1722, 1723, 1724] (by decide +kernel)
theorem gt_wsL_law0_r28 : ∀ w ∈ wsL_law0_r28, w ∈ lw_tbl := mt [1725, 1726, 1728, 54, 1729, 1476, 1730, 1732, 55, 1733, 1734, 1736, 56, 1737, 1738, 1740, 57, 1741, 1742, 1744, 58, 1745, 971, 972] (by decide +kernel)
theorem gt_wsL_law0_r29 : ∀ w ∈ wsL_law0_r29, w ∈ lw_tbl := mt [973, 974, 975, 976, 977, 1746, 1747, 1748, 1749, 978, 979, 980, 981, 982, 983, 984, 490, 491, 492, 493, 494, 501, 506, 508] (by decide +kernel)
theorem gt_wsL_law0_r30 : ∀ w ∈ wsL_law0_r30, w ∈ lw_tbl := mt [1, 509, 524, 1750, 1751, 1752, 1753, 387, 388, 389, 390, 1754, 1755, 1756, 1757, 985, 986, 987, 988, 989, 990, 991, 992, 994] (by decide +kernel)
theorem gt_wsL_law0_r31 : ∀ w ∈ wsL_law0_r31, w ∈ lw_tbl := mt [20, 995, 997, 998, 999, 1000, 1758, 1759, 1760, 1761, 1001, 1002, 1003, 1004, 1005, 1006, 1007, 1008, 1009, 1010, 1011, 1762, 1763, 1764] (by decide +kernel)
theorem gt_wsL_law0_r32 : ∀ w ∈ wsL_law0_r32, w ∈ lw_tbl := mt [1765, 1012, 1013, 1014, 1015, 1016, 1017, 1018, 1019, 1021, 21, 1022, 1024, 404, 405, 406, 407, 463, 560, 1027, 559, 1766, 1767, 1768] (by decide +kernel)
theorem gt_wsL_law0_r33 : ∀ w ∈ wsL_law0_r33, w ∈ lw_tbl := mt [1769, 1770, 1772, 59, 1773, 1028, 1029, 1030, 1031, 1032, 1033, 1034, 1035, 1774, 1775, 1776, 1777, 1036, 1037, 1038, 1039, 1040, 1041, 1042] (by decide +kernel)
theorem gt_wsL_law0_r34 : ∀ w ∈ wsL_law0_r34, w ∈ lw_tbl := mt [1778, 1779, 1780, 1781, 1043, 1044, 1045, 1046, 1047, 1048, 1049, 1782, 1783, 1784, 1785, 1050, 1051, 1052, 1053, 1054, 1055, 1056, 565, 566] (by decide +kernel)
theorem gt_wsL_law0_r35 : ∀ w ∈ wsL_law0_r35, w ∈ lw_tbl := mt [567, 568, 569, 570, 411, 1786, 1787, 1788, 1789, 391, 392, 393, 394, 395, 396, 397, 398, 399, 400, 401, 402, 403, 416, 1790] (by decide +kernel)
theorem gt_wsL_law0_r36 : ∀ w ∈ wsL_law0_r36, w ∈ lw_tbl := mt [1791, 1792, 1793, 1794, 1796, 60, 1797, 1798, 1800, 61, 1801, 1058, 1059, 1060, 1061, 1062, 1063, 1064, 1065, 1066, 1067, 1068, 1802, 1803] (by decide +kernel)
theorem gt_wsL_law0_r37 : ∀ w ∈ wsL_law0_r37, w ∈ lw_tbl := mt [1804, 1805, 431, 432, 433, 434, 435, 436, 437, 438, 1806, 1807, 1808, 1809, 1070, 1071, 1072, 1073, 1074, 1075, 1076, 1077, 1079, 22] (by decide +kernel)
theorem gt_wsL_law0_r38 : ∀ w ∈ wsL_law0_r38, w ∈ lw_tbl := mt [1080, 1810, 1811, 1812, 1813, 1814, 1816, 62, 1817, 1818, 1820, 63, 1821, 1081, 1082, 1083, 1084, 1085, 1086, 1087, 1088, 1822, 1823, 1824] (by decide +kernel)
theorem gt_wsL_law0_r39 : ∀ w ∈ wsL_law0_r39, w ∈ lw_tbl := mt [1825, 1826, 1089, 1090, 1091, 1092, 1093, 1094, 1095, 1096, 1098, 23, 1099, 575, 576, 577, 578, 258, 579, 580, 581, 583, 5, 584] (by decide +kernel)
theorem gt_wsL_law0_r40 : ∀ w ∈ wsL_law0_r40, w ∈ lw_tbl := mt [585, 586, 587, 588, 590, 6, 591, 592, 594, 7, 595, 1827, 1828, 1829, 1830, 1831, 1833, 64, 1834, 1835, 1837, 65, 1838, 1839] (by decide +kernel)
theorem gt_wsL_law0_r41 : ∀ w ∈ wsL_law0_r41, w ∈ lw_tbl := mt [1841, 66, 1842, 1843, 1845, 67, 1846, 1101, 1102, 1103, 1104, 1105, 1106, 1107, 1108, 1110, 24, 1111, 1113, 608, 609, 610, 1847, 1848] (by decide +kernel)
theorem gt_wsL_law0_r42 : ∀ w ∈ wsL_law0_r42, w ∈ lw_tbl := mt [1849, 1850, 1851, 1853, 68, 1854, 1855, 1857, 69, 1858, 1114, 1115, 1116, 1117, 1118, 1119, 1120, 1122, 612, 613, 614, 1859, 1860, 1861] (by decide +kernel)
theorem gt_wsL_law0_r43 : ∀ w ∈ wsL_law0_r43, w ∈ lw_tbl := mt [1862, 1123, 1124, 1125, 1126, 1127, 1128, 1129, 603, 604, 605, 606, 607, 611, 615, 1863, 1864, 1865, 1866, 1867, 1869, 70, 1870, 1871] (by decide +kernel)
theorem gt_wsL_law0_r44 : ∀ w ∈ wsL_law0_r44, w ∈ lw_tbl := mt [1872, 1873, 1130, 1131, 1132, 941, 1133, 1134, 1135, 1136, 1137, 1139, 25, 1140, 1141, 1142, 1143, 1144, 287, 1145, 1146, 1147, 1148, 1149] (by decide +kernel)
theorem gt_wsL_law0_r45 : ∀ w ∈ wsL_law0_r45, w ∈ lw_tbl := mt [1150, 1152, 26, 1153, 1154, 1155, 1156, 1157, 1158, 1159, 1160, 1161, 1162, 1164, 27, 1165, 1874, 1875, 1876, 1877, 1480, 1878, 1880, 71] (by decide +kernel)
theorem gt_wsL_law0_r46 : ∀ w ∈ wsL_law0_r46, w ∈ lw_tbl := mt [1881, 1882, 1884, 72, 1885, 1886, 1887, 1888, 1167, 1168, 1169, 1170, 1171, 1172, 1173, 1175, 1177, 28, 1178, 1179, 1180, 1181, 1182, 1183] (by decide +kernel)
theorem gt_wsL_law0_r47 : ∀ w ∈ wsL_law0_r47, w ∈ lw_tbl := mt [1184, 1185, 1186, 1187, 1889, 1890, 1891, 1892, 1893, 1895, 73, 1896, 1188, 1189, 1190, 1191, 1192, 1193, 1194, 1196, 1197, 1198, 1199, 1200] (by decide +kernel)
theorem gt_wsL_law0_r48 : ∀ w ∈ wsL_law0_r48, w ∈ lw_tbl := mt [1201, 1202, 1203, 1204, 1205, 1206, 1207, 1208, 1209, 1210, 1211, 1897, 1898, 1899, 1900, 1901, 1903, 74, 1904, 1212, 1213, 1214, 1215, 1216] (by decide +kernel)
theorem gt_wsL_law0_r49 : ∀ w ∈ wsL_law0_r49, w ∈ lw_tbl := mt [1217, 1218, 1219, 1221, 29, 1222, 1224, 1226, 30, 1227, 1228, 1229, 1230, 1231, 1237, 602, 601, 114, 1232, 1233, 1234, 1235, 1236, 1238] (by decide +kernel)
theorem gt_wsL_law0_r50 : ∀ w ∈ wsL_law0_r50, w ∈ lw_tbl := mt [1239, 1240, 1241, 1905, 1906, 1907, 1908, 1909, 1911, 75, 1912, 1913, 1915, 76, 1916, 1242, 1243, 1244, 1245, 1246, 1247, 1248, 1917, 1918] (by decide +kernel)
theorem gt_wsL_law0_r51 : ∀ w ∈ wsL_law0_r51, w ∈ lw_tbl := mt [1919, 1920, 1249, 1250, 1251, 1252, 1253, 1254, 1255, 1921, 1922, 1923, 1924, 1256, 1257, 1258, 1259, 1260, 1261, 1262, 546, 547, 548, 549] (by decide +kernel)
theorem gt_wsL_law0_r52 : ∀ w ∈ wsL_law0_r52, w ∈ lw_tbl := mt [1925, 1926, 1927, 1928, 1929, 1931, 77, 1932, 1263, 1264, 1265, 1266, 1267, 1268, 1269, 1933, 1934, 1935, 1936, 1270, 1271, 1272, 1273, 1274] (by decide +kernel)
theorem gt_wsL_law0_r53 : ∀ w ∈ wsL_law0_r53, w ∈ lw_tbl := mt [1275, 1276, 1277, 1279, 31, 1280, 1282, 1283, 1284, 1285, 305, 1286, 1287, 1288, 1289, 1290, 1292, 32, 1293, 1294, 1296, 33, 1297, 1298] (by decide +kernel)
theorem gt_wsL_law0_r54 : ∀ w ∈ wsL_law0_r54, w ∈ lw_tbl := mt [1299, 1301, 34, 1302, 1303, 1937, 1938, 1939, 1940, 1941, 1943, 78, 1944, 1481, 1945, 1947, 79, 1948, 1949, 1951, 80, 1952, 1953, 1955] (by decide +kernel)
theorem gt_wsL_law0_r55 : ∀ w ∈ wsL_law0_r55, w ∈ lw_tbl := mt [81, 1956, 1304, 1305, 1306, 1307, 1308, 1309, 1310, 1313, 1314, 1315, 1316, 1957, 1958, 1959, 1960, 1317, 1318, 1319, 1320, 1321, 1322, 1323] (by decide +kernel)
theorem gt_wsL_law0_r56 : ∀ w ∈ wsL_law0_r56, w ∈ lw_tbl := mt [1324, 1326, 35, 1327, 1329, 1330, 1331, 1332, 322, 1333, 1334, 1336, 36, 1337, 1338, 1340, 37, 1341, 1342, 1343, 1344, 1346, 38, 1347] (by decide +kernel)
theorem gt_wsL_law0_r57 : ∀ w ∈ wsL_law0_r57, w ∈ lw_tbl := mt [1348, 1349, 1350, 1351, 1352, 1354, 39, 1355, 1961, 1962, 1963, 1964, 1965, 1967, 82, 1968, 1969, 1971, 83, 1972, 1356, 1357, 1358, 1359] (by decide +kernel)
theorem gt_wsL_law0_r58 : ∀ w ∈ wsL_law0_r58, w ∈ lw_tbl := mt [1360, 1361, 1362, 1363, 1973, 1974, 1975, 1976, 1364, 1365, 1366, 1367, 1368, 1369, 1370, 1371, 1372, 1373, 1374, 1977, 1978, 1979, 1980, 1375] (by decide +kernel)
theorem gt_wsL_law0_r59 : ∀ w ∈ wsL_law0_r59, w ∈ lw_tbl := mt [1376, 1377, 1378, 1379, 1380, 1381, 1382, 474, 475, 476, 1384, 470, 471, 472, 473, 1385, 1386, 1387, 1388, 1981, 1982, 1983, 1984, 1389] (by decide +kernel)
theorem gt_wsL_law0_r60 : ∀ w ∈ wsL_law0_r60, w ∈ lw_tbl := mt [1390, 1391, 1392, 1393, 1394, 1395, 1397, 1398, 1399, 1400, 1401, 1403, 40, 1404, 1409, 1405, 1407, 41, 1408, 469, 1410, 1412, 42, 1413] (by decide +kernel)
theorem gt_wsL_law0_r61 : ∀ w ∈ wsL_law0_r61, w ∈ lw_tbl := mt [1985, 1986, 1987, 1988, 1414, 1415, 1416, 1431, 1432, 1433, 1434, 1435, 115, 1438, 1439, 1989, 1990, 1991, 1992, 1993, 1995, 84, 1996, 1440] (by decide +kernel)
theorem gt_wsL_law0_r62 : ∀ w ∈ wsL_law0_r62, w ∈ lw_tbl := mt [1441, 1442, 1417, 1443, 1444, 1445, 1446, 1997, 1998, 1999, 2000, 439, 440, 441, 442, 443, 457, 444, 445, 446, 447, 448, 464, 465] (by decide +kernel)
theorem gt_wsL_law0_r63 : ∀ w ∈ wsL_law0_r63, w ∈ lw_tbl := mt [466, 467, 468, 477, 478, 479, 480, 481, 2001, 2002, 2003, 2004, 2005, 2006, 486, 487, 488, 489, 550, 552, 2, 553, 555, 557] (by decide +kernel)
theorem gt_wsL_law0_r64 : ∀ w ∈ wsL_law0_r64, w ∈ lw_tbl := mt [3, 558, 561, 562, 563, 564, 571, 573, 4, 574, 596, 597, 598, 599, 600, 2007, 2008, 2009, 2010] (by decide +kernel)
theorem gt_wsX100 : ∀ w ∈ wsX100, w ∈ lw_tbl := mt [348, 350, 352, 354, 356, 358, 360, 362, 364, 366, 368, 370, 372, 374, 376] (by decide +kernel)
theorem gt_wsX110 : ∀ w ∈ wsX110, w ∈ lw_tbl := mt [1484, 1486, 1488, 1490, 1492, 1494, 1496, 1498, 1500, 1502, 1504, 1506, 1508, 1510, 1512, 1514, 1516, 1518, 1520, 1522, 1524, 1526] (by decide +kernel)
theorem gt_wsX30 : ∀ w ∈ wsX30, w ∈ lw_tbl := mt [166, 168, 170] (by decide +kernel)
theorem gt_wsX20 : ∀ w ∈ wsX20, w ∈ lw_tbl := mt [144, 146, 148, 150] (by decide +kernel)
theorem gt_wsX80 : ∀ w ∈ wsX80, w ∈ lw_tbl := mt [188, 190, 192, 194] (by decide +kernel)
theorem gt_wsX50 : ∀ w ∈ wsX50, w ∈ lw_tbl := mt [206, 208] (by decide +kernel)
theorem gt_wsX40 : ∀ w ∈ wsX40, w ∈ lw_tbl := mt [225, 227, 229, 231, 233, 235] (by decide +kernel)
theorem gt_wsX00 : ∀ w ∈ wsX00, w ∈ lw_tbl := mt [246, 248] (by decide +kernel)
theorem gt_wsX70 : ∀ w ∈ wsX70, w ∈ lw_tbl := mt [266, 268, 270, 272, 274, 276] (by decide +kernel)
theorem gt_wsX10 : ∀ w ∈ wsX10, w ∈ lw_tbl := mt [291, 293, 295] (by decide +kernel)
theorem gt_wsX60 : ∀ w ∈ wsX60, w ∈ lw_tbl := mt [309, 311, 313] (by decide +kernel)
theorem gt_wsX90 : ∀ w ∈ wsX90, w ∈ lw_tbl := mt [326, 328, 330] (by decide +kernel)
theorem gt_wsJ00 : ∀ w ∈ wsJ00, w ∈ lw_tbl := mt [818, 820] (by decide +kernel)
theorem gt_ex1 : ∀ w ∈ ex1, w ∈ lw_tbl := mt [98, 651, 660, 668, 671, 673, 652, 653, 122, 123, 654, 659, 669, 689, 641, 690, 643, 691, 645, 655, 657, 647, 685, 686, 688, 647, 712, 713, 714, 679, 679, 680, 681, 682, 682, 683, 684, 685, 711, 702, 704, 664, 705, 706, 707, 708, 650, 649, 709] (by decide +kernel)
theorem gt_ex2 : ∀ w ∈ ex2, w ∈ lw_tbl := mt [98, 651, 660, 668, 671, 673, 652, 653, 122, 123, 654, 659, 669, 689, 641, 690, 643, 691, 645, 655, 657, 647, 685, 686, 688, 647, 676, 677, 678, 679, 679, 680, 681, 682, 682, 683, 684, 685, 675, 630, 638, 639, 640, 642, 644, 646, 650, 649, 648] (by decide +kernel)
theorem gt_ex3 : ∀ w ∈ ex3, w ∈ lw_tbl := mt [98, 651, 660, 668, 671, 673, 652, 653, 122, 123, 654, 659, 669, 689, 641, 690, 643, 691, 645, 655, 657, 647, 685, 686, 688, 647, 764, 765, 766, 679, 679, 680, 681, 682, 682, 683, 684, 685, 763, 754, 756, 667, 757, 758, 759, 760, 650, 649, 761] (by decide +kernel)
theorem gt_ex4 : ∀ w ∈ ex4, w ∈ lw_tbl := mt [98, 651, 660, 668, 671, 673, 652, 653, 122, 123, 654, 659, 669, 689, 641, 690, 643, 691, 645, 655, 657, 647, 685, 686, 688, 647, 803, 804, 805, 679, 679, 680, 681, 682, 682, 683, 684, 685, 836, 827, 829, 665, 830, 831, 832, 833, 650, 649, 834] (by decide +kernel)
theorem gt_ex5 : ∀ w ∈ ex5, w ∈ lw_tbl := mt [98, 651, 660, 668, 671, 673, 652, 653, 122, 123, 654, 659, 669, 689, 641, 690, 643, 691, 645, 655, 657, 647, 685, 686, 688, 647, 965, 966, 967, 679, 679, 680, 681, 682, 682, 683, 684, 685, 964, 955, 957, 666, 958, 959, 960, 961, 650, 649, 962] (by decide +kernel)
theorem gt_ex6 : ∀ w ∈ ex6, w ∈ lw_tbl := mt [98, 651, 660, 668, 671, 673, 652, 653, 122, 123, 654, 659, 669, 689, 641, 690, 643, 691, 645, 655, 657, 647, 685, 686, 688, 647, 1419, 1420, 1421, 679, 679, 680, 681, 682, 682, 683, 684, 685, 1437, 1418, 1430, 662, 1424, 1425, 1427, 1423, 650, 649, 1422] (by decide +kernel)
theorem gt_law : ∀ w ∈ wsL_law0, w ∈ lw_tbl := (ap2 (ap2 (ap2 (ap2 (ap2 (ap2 (ap2 (ap2 (ap2 (ap2 (ap2 (ap2 (ap2 (ap2 (ap2 gt_wsL_law0_r1 (ap2 gt_wsL_law0_r2 (ap2 gt_wsL_law0_r3 (ap2 gt_wsL_law0_r4 (ap2 gt_wsL_law0_r5 (ap2 gt_wsL_law0_r6 (ap2 gt_wsL_law0_r7 (ap2 gt_wsL_law0_r8 (ap2 gt_wsL_law0_r9 (ap2 gt_wsL_law0_r10 (ap2 gt_wsL_law0_r11 (ap2 gt_wsL_law0_r12 (ap2 gt_wsL_law0_r13 (ap2 gt_wsL_law0_r14 (ap2 gt_wsL_law0_r15 (ap2 gt_wsL_law0_r16 (ap2 gt_wsL_law0_r17 (ap2 gt_wsL_law0_r18 (ap2 gt_wsL_law0_r19 (ap2 gt_wsL_law0_r20 (ap2 gt_wsL_law0_r21 (ap2 gt_wsL_law0_r22 (ap2 gt_wsL_law0_r23 (ap2 gt_wsL_law0_r24 (ap2 gt_wsL_law0_r25 (ap2 gt_wsL_law0_r26 (ap2 gt_wsL_law0_r27 (ap2 gt_wsL_law0_r28 (ap2 gt_wsL_law0_r29 (ap2 gt_wsL_law0_r30 (ap2 gt_wsL_law0_r31 (ap2 gt_wsL_law0_r32 (ap2 gt_wsL_law0_r33 (ap2 gt_wsL_law0_r34 (ap2 gt_wsL_law0_r35 (ap2 gt_wsL_law0_r36 (ap2 gt_wsL_law0_r37 (ap2 gt_wsL_law0_r38 (ap2 gt_wsL_law0_r39 (ap2 gt_wsL_law0_r40 (ap2 gt_wsL_law0_r41 (ap2 gt_wsL_law0_r42 (ap2 gt_wsL_law0_r43 (ap2 gt_wsL_law0_r44 (ap2 gt_wsL_law0_r45 (ap2 gt_wsL_law0_r46 (ap2 gt_wsL_law0_r47 (ap2 gt_wsL_law0_r48 (ap2 gt_wsL_law0_r49 (ap2 gt_wsL_law0_r50 (ap2 gt_wsL_law0_r51 (ap2 gt_wsL_law0_r52 (ap2 gt_wsL_law0_r53 (ap2 gt_wsL_law0_r54 (ap2 gt_wsL_law0_r55 (ap2 gt_wsL_law0_r56 (ap2 gt_wsL_law0_r57 (ap2 gt_wsL_law0_r58 (ap2 gt_wsL_law0_r59 (ap2 gt_wsL_law0_r60 (ap2 gt_wsL_law0_r61 (ap2 gt_wsL_law0_r62 (ap2 gt_wsL_law0_r63 gt_wsL_law0_r64))))))))))))))))))))))))))))))))))))))))))))))))))))))))))))))) gt_wsX100) gt_wsX110) gt_wsX30) gt_wsX20) gt_wsX80) gt_wsX50) gt_wsX40) gt_wsX00) gt_wsX70) gt_wsX10) gt_wsX60) gt_wsX90) gt_wsJ00) (fun _ h => by cases h))
theorem gt_all : ∀ w ∈ gw, w ∈ lw_tbl := ap2 gt_law (ap2 gt_ex1 (ap2 gt_ex2 (ap2 gt_ex3 (ap2 gt_ex4 (ap2 gt_ex5 gt_ex6)))))
theorem gt_nF : ∀ w ∈ nestF.map (fun q => Cond.fieldLinkNest q.1 q.2.1 q.2.2.1 q.2.2.2.1 q.2.2.2.2 "StablepairBureau"), w ∈ lw_tbl := mt [137, 138, 139, 140, 155, 156, 157, 158, 159, 161, 162, 163, 164, 182, 185, 187, 218, 221, 259, 260, 288, 306, 323] (by decide +kernel)
theorem gt_nM : ∀ w ∈ nestM.map (fun q => Cond.methodLinkNest q.1 q.2.1 q.2.2 "StablepairBureau"), w ∈ lw_tbl := mt [132, 174, 177, 213, 240, 254, 281, 301, 318] (by decide +kernel)
theorem gt_sR : ∀ w ∈ strL.map (fun q => Cond.stringRef q.1 q.2.1 q.2.2), w ∈ lw_tbl := mt [674, 710, 762, 769, 781, 789, 790, 835, 851, 903, 919, 932, 950, 952, 963, 996, 1023, 1025, 1026, 1057, 1069, 1100, 1112, 1121, 1166, 1174, 1195, 1223, 1281, 1311, 1312, 1328, 1383, 1396, 1436, 1447, 1540] (by decide +kernel)
theorem gt_fc : ∀ w ∈ faceL, w ∈ lw_tbl := mt [703, 631, 755, 828, 956, 1429, 633, 635, 637] (by decide +kernel)
theorem gt_sE : ∀ w ∈ strL.map (fun q => Cond.exactly (.string q.1 q.2.1) "java/lang/String"), w ∈ flatC gvC := mt [118, 148, 173, 190, 211, 239, 262, 287, 316, 344, 373, 402, 432, 456, 495, 519, 536, 554, 593, 634, 669, 692, 721, 741, 774, 816, 842, 867, 905, 936, 952, 985, 1028, 1051, 1088, 1110, 1134] (by decide +kernel)
theorem gt_nc : ∀ w ∈ ncL.map (fun q => Cond.not (.castable q.1 q.2)), w ∈ flatC gvC := mt [24, 42, 44, 98, 28, 23, 63, 62, 59] (by decide +kernel)
theorem gt_one : ∀ w ∈ [Cond.arrayOver (.array .int),Cond.arrayOver (.array .boolean),.laysStatic "java/lang/String" "COMPACT_STRINGS" "Z",.initialized "java/lang/String", .laysStatic Bundle.tN "UNASSIGNED_STACK" Bundle.steD, .initialized Bundle.tN, .laysStatic Bundle.tN "SUPPRESSED_SENTINEL" Bundle.listD, .arrayClass .int, .arrayClass .char, .arrayClass .long, .arrayClass .boolean, .arrayClass .double, .arrayClass .byte], w ∈ lw_tbl := mt [1455, 1460, 1554, 104, 656, 98, 658, 153, 197, 298, 251, 2011, 700] (by decide +kernel)
theorem gt_flt : ∀ w ∈ [Cond.isRef (.static Bundle.tN "UNASSIGNED_STACK" Bundle.steD), Cond.isRef (.static Bundle.tN "SUPPRESSED_SENTINEL" Bundle.listD), .eq (.static "java/lang/String" "COMPACT_STRINGS" "Z") (.int 1), .exactly (.string RX11 70) "java/lang/String", .eq (.field (.string RX11 70) "java/lang/String" "coder" "B") (.int 0), .arrayOf (.field (.string RX11 70) "java/lang/String" "value" "[B") .byte, .eq (.length (.field (.string RX11 70) "java/lang/String" "value" "[B")) (.int 3), .eq (.elem (.field (.string RX11 70) "java/lang/String" "value" "[B") (.int 0)) (.int 112), .eq (.elem (.field (.string RX11 70) "java/lang/String" "value" "[B") (.int 1)) (.int 104), .eq (.elem (.field (.string RX11 70) "java/lang/String" "value" "[B") (.int 2)) (.int 109)], w ∈ flatC gvC := mt [4, 5, 6, 1134, 1135, 1136, 1137, 1138, 1139, 1140] (by decide +kernel)
theorem gt_in : ∀ w ∈ [Cond.instantiable RJ0 4, Cond.instantiable RJx00060 6, Cond.instantiable RX0 2, Cond.instantiable RX1 3, Cond.instantiable RX2 4, Cond.instantiable RX3 3, Cond.instantiable RX4 6, Cond.instantiable RX5 2, Cond.instantiable RX6 3, Cond.instantiable RX7 6, Cond.instantiable RX8 4, Cond.instantiable RX9 3, Cond.instantiable RX10 15, Cond.instantiable RX11 22], w ∈ lw_tbl := mt [817, 799, 239, 280, 131, 125, 212, 199, 300, 253, 176, 317, 117, 1449] (by decide +kernel)
theorem gt_j6 : ∀ w ∈ u_ws RJx00060 TJx00060 6, w ∈ lw_tbl := mt [806, 807, 808, 809, 810, 811] (by decide +kernel)
set_option maxHeartbeats 4000000 in
theorem law_env {s : State} {b : Nat} (hts0 : ∀ w ∈ lw_tbl, w.before #[Value.ref b] s = true) (hgv : gvC.before #[Value.ref b] s = true) : ∃ (D : va_G) (y : Nat → ClassId), (∀ w ∈ gw, w.before #[Value.ref b] s = true) ∧ EV D y s ∧ EH y (fun q => s.heap.size ≤ q) s s.heap := by
  have hts : ∀ w ∈ gw, w.before #[Value.ref b] s = true := fun w h => hts0 w (gt_all w h)
  have hfl := flat_of_before _ hgv
  have hA : ∀ a : Nat, a < s.heap.size → ¬ (fun q : Nat => s.heap.size ≤ q) a := fun a h => Nat.not_le.mpr h
  obtain ⟨c0, i0, k0⟩ := u_known (C := RJ0) (T := TJ0) (N := 2) (n := 4) (ws := gw) hts (fun w h => g0 (inlJ0 w h)) (hts0 _ (gt_in _ (List.mem_of_getElem? (i := 0) rfl)))
  obtain ⟨c1, i1, k1⟩ := u_known (C := RJx00060) (T := TJx00060) (N := 6) (n := 6) (ws := lw_tbl) hts0 gt_j6 (hts0 _ (gt_in _ (List.mem_of_getElem? (i := 1) rfl)))
  obtain ⟨c2, i2, k2⟩ := u_known (C := RX0) (T := TX0) (N := 2) (n := 2) (ws := gw) hts (fun w h => g0 (inlX0 w h)) (hts0 _ (gt_in _ (List.mem_of_getElem? (i := 2) rfl)))
  obtain ⟨c3, i3, k3⟩ := u_known (C := RX1) (T := TX1) (N := 3) (n := 3) (ws := gw) hts (fun w h => g0 (inlX1 w h)) (hts0 _ (gt_in _ (List.mem_of_getElem? (i := 3) rfl)))
  obtain ⟨c4, i4, k4⟩ := u_known (C := RX2) (T := TX2) (N := 4) (n := 4) (ws := gw) hts (fun w h => g0 (inlX2 w h)) (hts0 _ (gt_in _ (List.mem_of_getElem? (i := 4) rfl)))
  obtain ⟨c5, i5, k5⟩ := u_known (C := RX3) (T := TX3) (N := 3) (n := 3) (ws := gw) hts (fun w h => g0 (inlX3 w h)) (hts0 _ (gt_in _ (List.mem_of_getElem? (i := 5) rfl)))
  obtain ⟨c6, i6, k6⟩ := u_known (C := RX4) (T := TX4) (N := 6) (n := 6) (ws := gw) hts (fun w h => g0 (inlX4 w h)) (hts0 _ (gt_in _ (List.mem_of_getElem? (i := 6) rfl)))
  obtain ⟨c7, i7, k7⟩ := u_known (C := RX5) (T := TX5) (N := 2) (n := 2) (ws := gw) hts (fun w h => g0 (inlX5 w h)) (hts0 _ (gt_in _ (List.mem_of_getElem? (i := 7) rfl)))
  obtain ⟨c8, i8, k8⟩ := u_known (C := RX6) (T := TX6) (N := 3) (n := 3) (ws := gw) hts (fun w h => g0 (inlX6 w h)) (hts0 _ (gt_in _ (List.mem_of_getElem? (i := 8) rfl)))
  obtain ⟨c9, i9, k9⟩ := u_known (C := RX7) (T := TX7) (N := 6) (n := 6) (ws := gw) hts (fun w h => g0 (inlX7 w h)) (hts0 _ (gt_in _ (List.mem_of_getElem? (i := 9) rfl)))
  obtain ⟨c10, i10, k10⟩ := u_known (C := RX8) (T := TX8) (N := 4) (n := 4) (ws := gw) hts (fun w h => g0 (inlX8 w h)) (hts0 _ (gt_in _ (List.mem_of_getElem? (i := 10) rfl)))
  obtain ⟨c11, i11, k11⟩ := u_known (C := RX9) (T := TX9) (N := 3) (n := 3) (ws := gw) hts (fun w h => g0 (inlX9 w h)) (hts0 _ (gt_in _ (List.mem_of_getElem? (i := 11) rfl)))
  obtain ⟨c12, i12, k12⟩ := u_known (C := RX10) (T := TX10) (N := 15) (n := 15) (ws := gw) hts (fun w h => g0 (inlX10 w h)) (hts0 _ (gt_in _ (List.mem_of_getElem? (i := 12) rfl)))
  obtain ⟨c13, i13, k13⟩ := u_known (C := RX11) (T := TX11) (N := 22) (n := 22) (ws := gw) hts (fun w h => g0 (inlX11 w h)) (hts0 _ (gt_in _ (List.mem_of_getElem? (i := 13) rfl)))
  obtain ⟨dC, dI, hKc⟩ : ∃ (dC : Nat → ClassId) (dI : Nat → Nat → Nat), ∀ (k : Nat) (q : vw_C), vwCl[k]? = some q → u_Kn s q.1 q.2.1 q.2.2 (dC k) (dI k) := by
    refine ⟨fun k => [c0, c1, c2, c3, c4, c5, c6, c7, c8, c9, c10, c11, c12, c13].getD k 0, fun k => [i0, i1, i2, i3, i4, i5, i6, i7, i8, i9, i10, i11, i12, i13].getD k (fun _ => 0), ?_⟩
    intro k q hq
    have hk : k < 14 := (List.getElem?_eq_some_iff.mp hq).1
    rcases (show k = 0 ∨ k = 1 ∨ k = 2 ∨ k = 3 ∨ k = 4 ∨ k = 5 ∨ k = 6 ∨ k = 7 ∨ k = 8 ∨ k = 9 ∨ k = 10 ∨ k = 11 ∨ k = 12 ∨ k = 13 by omega) with rfl | rfl | rfl | rfl | rfl | rfl | rfl | rfl | rfl | rfl | rfl | rfl | rfl | rfl
    · cases hq; exact k0
    · cases hq; exact k1
    · cases hq; exact k2
    · cases hq; exact k3
    · cases hq; exact k4
    · cases hq; exact k5
    · cases hq; exact k6
    · cases hq; exact k7
    · cases hq; exact k8
    · cases hq; exact k9
    · cases hq; exact k10
    · cases hq; exact k11
    · cases hq; exact k12
    · cases hq; exact k13
  obtain ⟨a0, ka0, cm0, f0, g0, h0⟩ := Cond.arrayClass_spec (args := #[Value.ref b]) (first := s) (o := none) (s := s) (idx := []) (hts0 (.arrayClass .int) (gt_one _ (List.mem_of_getElem? (i := 7) rfl)))
  obtain ⟨a1, ka1, cm1, f1, g1, h1⟩ := Cond.arrayClass_spec (args := #[Value.ref b]) (first := s) (o := none) (s := s) (idx := []) (hts0 (.arrayClass .char) (gt_one _ (List.mem_of_getElem? (i := 8) rfl)))
  obtain ⟨a2, ka2, cm2, f2, g2, h2⟩ := Cond.arrayClass_spec (args := #[Value.ref b]) (first := s) (o := none) (s := s) (idx := []) (hts0 (.arrayClass .long) (gt_one _ (List.mem_of_getElem? (i := 9) rfl)))
  obtain ⟨a3, ka3, cm3, f3, g3, h3⟩ := Cond.arrayClass_spec (args := #[Value.ref b]) (first := s) (o := none) (s := s) (idx := []) (hts0 (.arrayClass .boolean) (gt_one _ (List.mem_of_getElem? (i := 10) rfl)))
  obtain ⟨a6, ka6, cm6, f6, g6, h6⟩ := Cond.arrayClass_spec (args := #[Value.ref b]) (first := s) (o := none) (s := s) (idx := []) (hts0 (.arrayClass .double) (gt_one _ (List.mem_of_getElem? (i := 11) rfl)))
  obtain ⟨a7, ka7, cm7, f7, g7, h7⟩ := Cond.arrayClass_spec (args := #[Value.ref b]) (first := s) (o := none) (s := s) (idx := []) (hts0 (.arrayClass .byte) (gt_one _ (List.mem_of_getElem? (i := 12) rfl)))
  obtain ⟨cm4, a4, ka4, e4, g4, h4, f4⟩ := Cond.arrayOver_specA (args := #[Value.ref b]) (first := s) (o := none) (s := s) (idx := []) (hts0 (.arrayOver (.array .int)) (gt_one _ (List.mem_of_getElem? (i := 0) rfl)))
  obtain ⟨cm5, a5, ka5, e5, g5, h5, f5⟩ := Cond.arrayOver_specA (args := #[Value.ref b]) (first := s) (o := none) (s := s) (idx := []) (hts0 (.arrayOver (.array .boolean)) (gt_one _ (List.mem_of_getElem? (i := 1) rfl)))
  have j4 : cm4 = a0 := Option.some.inj (e4.symm.trans f0)
  subst j4
  obtain ⟨adK, adV, hS, hE⟩ := vk_Sof (args := #[Value.ref b]) (s := s) (N := 1) (tm := fun _ => .string RX11 70) (len := [3]) (byt := [[112, 104, 109]]) (A := fun q => s.heap.size ≤ q) (fun i hi => by obtain rfl : i = 0 := (by omega); decide) (fun i hi => (hfl _ (gt_flt _ (List.mem_of_getElem? (i := 3) rfl)))) (fun i hi => (hfl _ (gt_flt _ (List.mem_of_getElem? (i := 4) rfl)))) (fun i hi => (hfl _ (gt_flt _ (List.mem_of_getElem? (i := 5) rfl)))) (fun i hi => by obtain rfl : i = 0 := (by omega); exact (hfl _ (gt_flt _ (List.mem_of_getElem? (i := 6) rfl)))) (fun i hi j hj => by
    obtain rfl : i = 0 := (by omega)
    have hj : j < 3 := hj
    rcases (show j = 0 ∨ j = 1 ∨ j = 2 by omega) with rfl | rfl | rfl
    · exact (hfl _ (gt_flt _ (List.mem_of_getElem? (i := 7) rfl)))
    · exact (hfl _ (gt_flt _ (List.mem_of_getElem? (i := 8) rfl)))
    · exact (hfl _ (gt_flt _ (List.mem_of_getElem? (i := 9) rfl)))) (fun i j hi hj hn => (hn (by omega)).elim) hA
  obtain ⟨y, hy⟩ : ∃ y : Nat → ClassId, y 0 = cm4 ∧ y 1 = a1 ∧ y 2 = a2 ∧ y 3 = a3 ∧ y 4 = a4 ∧ y 5 = a5 ∧ y 6 = a6 ∧ y 7 = a7 ∧ y 20 = adK 0 ∧ y 21 = adV 0 := ⟨fun k => [cm4, a1, a2, a3, a4, a5, a6, a7].getD k (if k = 20 then adK 0 else adV 0), rfl, rfl, rfl, rfl, rfl, rfl, rfl, rfl, rfl, rfl⟩
  obtain ⟨y0, y1, y2, y3, y4, y5, y6, y7, y20, y21⟩ := hy
  refine ⟨(dC, dI), y, hts, ⟨⟨hKc, ?_⟩, ?_, ?_, ?_, ?_, ?_, ?_, ?_, ?_, ?_⟩, ?_, ?_, ?_, ?_⟩
  · intro k q hq
    have hk : k < 8 := (List.getElem?_eq_some_iff.mp hq).1
    rcases (show k = 0 ∨ k = 1 ∨ k = 2 ∨ k = 3 ∨ k = 4 ∨ k = 5 ∨ k = 6 ∨ k = 7 by omega) with rfl | rfl | rfl | rfl | rfl | rfl | rfl | rfl
    · cases hq; rw [y0]; exact ⟨fun n z => ⟨fun k h => (by cases h), _, g0, _, h0⟩, f0⟩
    · cases hq; rw [y1]; exact ⟨fun n z => ⟨fun k h => (by cases h), _, g1, _, h1⟩, f1⟩
    · cases hq; rw [y2]; exact ⟨fun n z => ⟨fun k h => (by cases h), _, g2, _, h2⟩, f2⟩
    · cases hq; rw [y3]; exact ⟨fun n z => ⟨fun k h => (by cases h), _, g3, _, h3⟩, f3⟩
    · cases hq; rw [y4]; exact ⟨fun n z => ⟨fun k h => (by cases h), _, g4, _, h4⟩, f4⟩
    · cases hq; rw [y5]; exact ⟨fun n z => ⟨fun k h => (by cases h), _, g5, _, h5⟩, f5⟩
    · cases hq; rw [y6]; exact ⟨fun n z => ⟨fun k h => (by cases h), _, g6, _, h6⟩, f6⟩
    · cases hq; rw [y7]; exact ⟨fun n z => ⟨fun k h => (by cases h), _, g7, _, h7⟩, f7⟩
  · exact fun q hq => va_Nw.of rfl (hts0 _ (gt_nF _ (List.mem_map.mpr ⟨q, hq, rfl⟩)))
  · exact fun q hq => va_Nw.of rfl (hts0 _ (gt_nM _ (List.mem_map.mpr ⟨q, hq, rfl⟩)))
  · intro q hq
    obtain ⟨a, -, -, -, q1, -⟩ := Cond.exactly_spec (args := #[Value.ref b]) (first := s) (o := none) (s := s) (idx := []) (hfl _ (gt_sE _ (List.mem_map.mpr ⟨q, hq, rfl⟩)))
    exact ⟨a, vk_R.of (hts0 _ (gt_sR _ (List.mem_map.mpr ⟨q, hq, rfl⟩))) q1⟩
  · exact fun w hw => by have h1 := List.all_eq_true.mp face_ok w hw; simp only [Bool.and_eq_true] at h1; exact va_tabs h1.2 rfl (hts0 w (gt_fc w hw))
  · exact fun q hq => va_Nc.of (hfl _ (gt_nc _ (List.mem_map.mpr ⟨q, hq, rfl⟩)))
  · exact va_AOA.of (hts0 _ (gt_one _ (List.mem_of_getElem? (i := 0) rfl)))
  · exact va_AOA.of (hts0 _ (gt_one _ (List.mem_of_getElem? (i := 1) rfl)))
  · rw [y4, y0]; exact ⟨ka4, g4, h4⟩
  · rw [y20]; exact vk_R.of (hts0 (Cond.stringRef RX11 70 "phm") (gt_sR _ (List.mem_map.mpr ⟨(RX11, 70, "phm"), by decide +kernel, rfl⟩))) (hE 0 Nat.zero_lt_one)
  · exact vx_Zqof (hts0 _ (gt_one _ (List.mem_of_getElem? (i := 4) rfl))) (hts0 _ (gt_one _ (List.mem_of_getElem? (i := 5) rfl))) (hfl _ (gt_flt _ (List.mem_of_getElem? (i := 0) rfl))) hA
  · exact vx_Zqof (hts0 _ (gt_one _ (List.mem_of_getElem? (i := 6) rfl))) (hts0 _ (gt_one _ (List.mem_of_getElem? (i := 5) rfl))) (hfl _ (gt_flt _ (List.mem_of_getElem? (i := 1) rfl))) hA
  · exact va_Zof (hts0 _ (gt_one _ (List.mem_of_getElem? (i := 2) rfl))) (hts0 _ (gt_one _ (List.mem_of_getElem? (i := 3) rfl))) (va_eqt (hfl _ (gt_flt _ (List.mem_of_getElem? (i := 2) rfl)))) hA
  · rw [y20, y21]; exact ⟨fun i hi => by obtain rfl : i = 0 := (by omega); exact hS.1 0 hi, fun i j hi hj _ => by omega⟩
