theorem in_r {big ws : List Cond} (ps : List Nat) (hp : ws = ps.filterMap (fun i => big[i]?)) : ∀ w ∈ ws, w ∈ big := by
  intro w hw
  rw [hp] at hw
  obtain ⟨i, -, hi⟩ := List.mem_filterMap.mp hw
  exact List.mem_of_getElem? hi
set_option maxRecDepth 20000 in
theorem wsL_law_r1_in : ∀ w ∈ wsL_law_r1, w ∈ lw_tbl := in_r [113, 114, 93, 1286, 1287, 103, 1915, 115, 116, 117, 118, 119, 120, 121, 122, 94, 456, 158, 457, 160, 162, 95, 458, 187] (by decide +kernel)
set_option maxRecDepth 20000 in
theorem wsL_law_r2_in : ∀ w ∈ wsL_law_r2, w ∈ lw_tbl := in_r [188, 96, 459, 214, 215, 97, 460, 241, 242, 98, 461, 287, 288, 99, 462, 240, 463, 318, 100, 464, 465, 466, 124, 125] (by decide +kernel)
set_option maxRecDepth 20000 in
theorem wsL_law_r3_in : ∀ w ∈ wsL_law_r3, w ∈ lw_tbl := in_r [126, 157, 127, 129, 131, 132, 135, 137, 138, 139, 164, 165, 166, 167, 169, 171, 186, 175, 190, 191, 192, 193, 195, 197] (by decide +kernel)
set_option maxRecDepth 20000 in
theorem wsL_law_r4_in : ∀ w ∈ wsL_law_r4, w ∈ lw_tbl := in_r [198, 199, 200, 217, 218, 219, 220, 224, 226, 227, 228, 244, 245, 246, 247, 249, 251, 253, 256, 258, 259, 260, 261, 262] (by decide +kernel)
set_option maxRecDepth 20000 in
theorem wsL_law_r5_in : ∀ w ∈ wsL_law_r5, w ∈ lw_tbl := in_r [263, 290, 291, 292, 293, 294, 295, 296, 297, 298, 299, 300, 320, 321, 322, 323, 401, 325, 326, 101, 404, 354, 355, 102] (by decide +kernel)
set_option maxRecDepth 20000 in
theorem wsL_law_r6_in : ∀ w ∈ wsL_law_r6, w ∈ lw_tbl := in_r [408, 411, 414, 417, 420, 422, 425, 428, 429, 399, 430, 328, 329, 330, 331, 335, 337, 338, 339, 340, 357, 358, 359, 360] (by decide +kernel)
set_option maxRecDepth 20000 in
theorem wsL_law_r7_in : ∀ w ∈ wsL_law_r7, w ∈ lw_tbl := in_r [363, 366, 368, 369, 370, 371, 372, 373, 374, 375, 1288, 1289, 1290, 1291, 1292, 1293, 1394, 1294, 1295, 1297, 1304, 1305, 1308, 1309] (by decide +kernel)
set_option maxRecDepth 20000 in
theorem wsL_law_r8_in : ∀ w ∈ wsL_law_r8, w ∈ lw_tbl := in_r [1310, 1311, 1313, 1315, 1317, 1318, 1321, 1322, 1323, 1324, 490, 491, 492, 493, 130, 494, 495, 496, 497, 498, 499, 500, 501, 1407] (by decide +kernel)
set_option maxRecDepth 20000 in
theorem wsL_law_r9_in : ∀ w ∈ wsL_law_r9, w ∈ lw_tbl := in_r [1408, 1409, 1410, 1296, 502, 503, 504, 505, 1411, 1412, 1413, 1414, 1400, 1401, 1402, 506, 507, 508, 509, 510, 511, 104, 134, 136] (by decide +kernel)
set_option maxRecDepth 20000 in
theorem wsL_law_r10_in : ∀ w ∈ wsL_law_r10, w ∈ lw_tbl := in_r [413, 512, 513, 514, 515, 516, 519, 518, 525, 526, 527, 528, 529, 530, 531, 532, 533, 534, 535, 536, 537, 538, 539, 540] (by decide +kernel)
set_option maxRecDepth 20000 in
theorem wsL_law_r11_in : ∀ w ∈ wsL_law_r11, w ∈ lw_tbl := in_r [541, 542, 544, 0, 545, 421, 133, 412, 546, 548, 1, 549, 551, 552, 553, 554, 555, 556, 557, 105, 558, 1916, 559, 560] (by decide +kernel)
set_option maxRecDepth 20000 in
theorem wsL_law_r12_in : ∀ w ∈ wsL_law_r12, w ∈ lw_tbl := in_r [561, 562, 563, 1917, 565, 566, 567, 568, 569, 570, 571, 572, 573, 574, 106, 575, 576, 577, 578, 579, 581, 582, 107, 583] (by decide +kernel)
set_option maxRecDepth 20000 in
theorem wsL_law_r13_in : ∀ w ∈ wsL_law_r13, w ∈ lw_tbl := in_r [584, 585, 108, 586, 587, 588, 589, 590, 591, 592, 593, 594, 595, 596, 597, 599, 601, 611, 612, 613, 614, 615, 617, 2] (by decide +kernel)
set_option maxRecDepth 20000 in
theorem wsL_law_r14_in : ∀ w ∈ wsL_law_r14, w ∈ lw_tbl := in_r [618, 415, 418, 406, 332, 409, 361, 364, 619, 620, 622, 3, 623, 625, 626, 627, 628, 629, 630, 631, 632, 633, 634, 635] (by decide +kernel)
set_option maxRecDepth 20000 in
theorem wsL_law_r15_in : ∀ w ∈ wsL_law_r15, w ∈ lw_tbl := in_r [636, 637, 638, 640, 641, 642, 643, 644, 645, 646, 647, 648, 650, 4, 651, 655, 687, 688, 109, 657, 659, 5, 660, 248] (by decide +kernel)
set_option maxRecDepth 20000 in
theorem wsL_law_r16_in : ∀ w ∈ wsL_law_r16, w ∈ lw_tbl := in_r [664, 665, 666, 667, 668, 670, 6, 671, 672, 673, 674, 675, 676, 677, 679, 680, 681, 682, 250, 252, 685, 689, 690, 691] (by decide +kernel)
set_option maxRecDepth 20000 in
theorem wsL_law_r17_in : ∀ w ∈ wsL_law_r17, w ∈ lw_tbl := in_r [692, 693, 696, 699, 702, 705, 708, 710, 727, 728, 729, 730, 731, 733, 7, 734, 402, 735, 737, 8, 738, 222, 739, 740] (by decide +kernel)
set_option maxRecDepth 20000 in
theorem wsL_law_r18_in : ∀ w ∈ wsL_law_r18, w ∈ lw_tbl := in_r [110, 741, 743, 744, 745, 746, 747, 749, 9, 750, 753, 755, 10, 756, 424, 427, 758, 760, 11, 761, 765, 766, 767, 768] (by decide +kernel)
set_option maxRecDepth 20000 in
theorem wsL_law_r19_in : ∀ w ∈ wsL_law_r19, w ∈ lw_tbl := in_r [769, 771, 12, 772, 774, 776, 13, 777, 128, 783, 784, 785, 786, 787, 789, 14, 790, 791, 793, 15, 794, 797, 798, 799] (by decide +kernel)
set_option maxRecDepth 20000 in
theorem wsL_law_r20_in : ∀ w ∈ wsL_law_r20, w ∈ lw_tbl := in_r [800, 801, 803, 16, 804, 806, 807, 808, 809, 810, 811, 812, 813, 1419, 1420, 1421, 1422, 1298, 1299, 1303, 1306, 1301, 1423, 1425] (by decide +kernel)
set_option maxRecDepth 20000 in
theorem wsL_law_r21_in : ∀ w ∈ wsL_law_r21, w ∈ lw_tbl := in_r [33, 1426, 1300, 1431, 1432, 1433, 1434, 1302, 1435, 1436, 1427, 1429, 34, 1430, 1437, 1439, 35, 1440, 1441, 1443, 36, 1444, 1446, 1448] (by decide +kernel)
set_option maxRecDepth 20000 in
theorem wsL_law_r22_in : ∀ w ∈ wsL_law_r22, w ∈ lw_tbl := in_r [37, 1449, 1450, 1451, 1460, 1462, 38, 1463, 1464, 1466, 39, 1467, 1468, 1470, 40, 1471, 1473, 1475, 41, 1476, 1477, 1479, 42, 1480] (by decide +kernel)
set_option maxRecDepth 20000 in
theorem wsL_law_r23_in : ∀ w ∈ wsL_law_r23, w ∈ lw_tbl := in_r [1481, 1483, 43, 1484, 1486, 1488, 44, 1489, 1493, 1495, 45, 1496, 1497, 1499, 46, 1500, 1504, 1506, 47, 1507, 1509, 1511, 48, 1512] (by decide +kernel)
set_option maxRecDepth 20000 in
theorem wsL_law_r24_in : ∀ w ∈ wsL_law_r24, w ∈ lw_tbl := in_r [1516, 1518, 49, 1519, 1520, 1522, 50, 1523, 1524, 1526, 1528, 51, 1529, 1530, 1532, 52, 1533, 1536, 1538, 53, 1539, 1541, 1543, 54] (by decide +kernel)
set_option maxRecDepth 20000 in
theorem wsL_law_r25_in : ∀ w ∈ wsL_law_r25, w ∈ lw_tbl := in_r [1544, 1548, 1550, 55, 1551, 1553, 1555, 56, 1556, 1557, 1559, 57, 1560, 1566, 1568, 58, 1569, 1570, 1572, 59, 1573, 1576, 1578, 60] (by decide +kernel)
set_option maxRecDepth 20000 in
theorem wsL_law_r26_in : ∀ w ∈ wsL_law_r26, w ∈ lw_tbl := in_r [1579, 814, 815, 816, 817, 1415, 1416, 1417, 1418, 818, 819, 820, 821, 827, 822, 823, 824, 825, 826, 1581, 1582, 1583, 1584, 1589] (by decide +kernel)
set_option maxRecDepth 20000 in
theorem wsL_law_r27_in : ∀ w ∈ wsL_law_r27, w ∈ lw_tbl := in_r [1585, 1587, 61, 1588, 828, 829, 830, 831, 695, 698, 704, 257, 255, 701, 707, 832, 833, 834, 835, 836, 837, 838, 839, 840] (by decide +kernel)
set_option maxRecDepth 20000 in
theorem wsL_law_r28_in : ∀ w ∈ wsL_law_r28, w ∈ lw_tbl := in_r [841, 842, 1590, 1591, 1592, 1593, 1598, 1307, 1312, 1594, 1596, 62, 1597, 1599, 1601, 63, 1602, 1603, 1605, 64, 1606, 1607, 1608, 1609] (by decide +kernel)
set_option maxRecDepth 20000 in
theorem wsL_law_r29_in : ∀ w ∈ wsL_law_r29, w ∈ lw_tbl := in_r [1610, 1612, 65, 1613, 1614, 1616, 66, 1617, 1618, 1619, 1621, 67, 1622, 843, 844, 845, 846, 847, 848, 849, 850, 851, 1623, 1624] (by decide +kernel)
set_option maxRecDepth 20000 in
theorem wsL_law_r30_in : ∀ w ∈ wsL_law_r30, w ∈ lw_tbl := in_r [1625, 1626, 1627, 852, 853, 854, 855, 873, 856, 858, 17, 859, 711, 860, 861, 862, 863, 703, 865, 254, 706, 709, 864, 866] (by decide +kernel)
set_option maxRecDepth 20000 in
theorem wsL_law_r31_in : ∀ w ∈ wsL_law_r31, w ∈ lw_tbl := in_r [867, 868, 869, 870, 871, 872, 1628, 1629, 1630, 1631, 1641, 1632, 1633, 1634, 1635, 1636, 1638, 68, 1639, 1640, 874, 875, 876, 877] (by decide +kernel)
set_option maxRecDepth 20000 in
theorem wsL_law_r32_in : ∀ w ∈ wsL_law_r32, w ∈ lw_tbl := in_r [878, 879, 880, 881, 883, 884, 885, 886, 882, 1642, 1643, 1644, 1645, 1646, 1648, 69, 1649, 1650, 1651, 887, 888, 889, 890, 891] (by decide +kernel)
set_option maxRecDepth 20000 in
theorem wsL_law_r33_in : ∀ w ∈ wsL_law_r33, w ∈ lw_tbl := in_r [892, 893, 894, 895, 1652, 1653, 1654, 1655, 1656, 1658, 70, 1659, 896, 897, 898, 899, 403, 900, 901, 902, 903, 904, 905, 906] (by decide +kernel)
set_option maxRecDepth 20000 in
theorem wsL_law_r34_in : ∀ w ∈ wsL_law_r34, w ∈ lw_tbl := in_r [907, 908, 909, 910, 911, 912, 913, 914, 915, 916, 917, 918, 919, 1660, 1661, 1662, 1663, 1664, 1666, 71, 1667, 920, 921, 922] (by decide +kernel)
set_option maxRecDepth 20000 in
theorem wsL_law_r35_in : ∀ w ∈ wsL_law_r35, w ∈ lw_tbl := in_r [923, 924, 925, 926, 927, 928, 930, 18, 931, 225, 935, 932, 933, 934, 1668, 1669, 1670, 1671, 1672, 1674, 72, 1675, 1314, 1676] (by decide +kernel)
set_option maxRecDepth 20000 in
theorem wsL_law_r36_in : ∀ w ∈ wsL_law_r36, w ∈ lw_tbl := in_r [989, 990, 1677, 1679, 73, 1680, 1681, 1683, 74, 1684, 936, 937, 938, 939, 940, 941, 942, 943, 221, 1685, 1686, 1687, 1688, 1689] (by decide +kernel)
set_option maxRecDepth 20000 in
theorem wsL_law_r37_in : ∀ w ∈ wsL_law_r37, w ∈ lw_tbl := in_r [1691, 75, 1692, 1693, 1695, 76, 1696, 1316, 944, 945, 946, 947, 196, 1697, 1698, 1699, 1700, 948, 949, 950, 951, 952, 953, 954] (by decide +kernel)
set_option maxRecDepth 20000 in
theorem wsL_law_r38_in : ∀ w ∈ wsL_law_r38, w ∈ lw_tbl := in_r [955, 956, 957, 958, 959, 1701, 1702, 1703, 1704, 1705, 1707, 77, 1708, 960, 961, 962, 963, 964, 966, 19, 967, 419, 416, 1709] (by decide +kernel)
set_option maxRecDepth 20000 in
theorem wsL_law_r39_in : ∀ w ∈ wsL_law_r39, w ∈ lw_tbl := in_r [1710, 1711, 1712, 1713, 1715, 78, 1716, 968, 969, 970, 971, 1717, 1718, 1719, 1720, 972, 973, 974, 975, 976, 977, 978, 979, 980] (by decide +kernel)
set_option maxRecDepth 20000 in
theorem wsL_law_r40_in : ∀ w ∈ wsL_law_r40, w ∈ lw_tbl := in_r [982, 20, 983, 984, 985, 986, 987, 988, 991, 1721, 1722, 1723, 1724, 1725, 992, 993, 994, 995, 194, 1726, 1727, 1728, 1729, 996] (by decide +kernel)
set_option maxRecDepth 20000 in
theorem wsL_law_r41_in : ∀ w ∈ wsL_law_r41, w ∈ lw_tbl := in_r [997, 998, 999, 1730, 1731, 1732, 1733, 1734, 1736, 79, 1737, 1000, 1001, 1002, 1003, 1738, 1739, 1740, 1741, 1742, 1744, 80, 1745, 1004] (by decide +kernel)
set_option maxRecDepth 20000 in
theorem wsL_law_r42_in : ∀ w ∈ wsL_law_r42, w ∈ lw_tbl := in_r [1005, 1006, 1007, 1746, 1747, 1748, 1749, 1750, 1008, 1009, 1010, 1011, 168, 1012, 1014, 21, 1015, 1016, 1017, 1018, 1019, 173, 1024, 1025] (by decide +kernel)
set_option maxRecDepth 20000 in
theorem wsL_law_r43_in : ∀ w ∈ wsL_law_r43, w ∈ lw_tbl := in_r [1020, 1021, 1022, 1023, 1026, 1027, 1751, 1752, 1753, 1754, 1758, 1399, 1759, 1755, 1756, 1757, 1028, 1029, 1030, 1031, 1032, 1034, 22, 1035] (by decide +kernel)
set_option maxRecDepth 20000 in
theorem wsL_law_r44_in : ∀ w ∈ wsL_law_r44, w ∈ lw_tbl := in_r [1760, 1761, 1762, 1763, 1764, 1766, 81, 1767, 1036, 1037, 1038, 1039, 1040, 1768, 1769, 1770, 1771, 1041, 1042, 1043, 1044, 1045, 1047, 23] (by decide +kernel)
set_option maxRecDepth 20000 in
theorem wsL_law_r45_in : ∀ w ∈ wsL_law_r45, w ∈ lw_tbl := in_r [1048, 1049, 1050, 1051, 1052, 694, 697, 423, 426, 405, 700, 1053, 1054, 1055, 1056, 1057, 1058, 1059, 1772, 1773, 1774, 1775, 1776, 1777] (by decide +kernel)
set_option maxRecDepth 20000 in
theorem wsL_law_r46_in : ∀ w ∈ wsL_law_r46, w ∈ lw_tbl := in_r [1779, 82, 1780, 1781, 1782, 1783, 1060, 1061, 1062, 1063, 1064, 1065, 1066, 1067, 336, 1068, 1069, 1071, 24, 1072, 333, 1081, 1073, 1074] (by decide +kernel)
set_option maxRecDepth 20000 in
theorem wsL_law_r47_in : ∀ w ∈ wsL_law_r47, w ∈ lw_tbl := in_r [1075, 1076, 1077, 1078, 1079, 1080, 1784, 1785, 1786, 1787, 1788, 1790, 83, 1791, 1792, 1794, 84, 1795, 1796, 1798, 85, 1799, 1319, 1320] (by decide +kernel)
set_option maxRecDepth 20000 in
theorem wsL_law_r48_in : ∀ w ∈ wsL_law_r48, w ∈ lw_tbl := in_r [1082, 1083, 1084, 1085, 1086, 1087, 1088, 1089, 1090, 1800, 1801, 1802, 1803, 1804, 1806, 86, 1807, 1091, 1092, 1093, 1094, 407, 1095, 1096] (by decide +kernel)
set_option maxRecDepth 20000 in
theorem wsL_law_r49_in : ∀ w ∈ wsL_law_r49, w ∈ lw_tbl := in_r [1097, 1098, 1808, 1809, 1810, 1811, 1812, 1814, 87, 1815, 1816, 1817, 1818, 1819, 1099, 1100, 1101, 1102, 1107, 223, 1108, 1103, 1105, 25] (by decide +kernel)
set_option maxRecDepth 20000 in
theorem wsL_law_r50_in : ∀ w ∈ wsL_law_r50, w ∈ lw_tbl := in_r [1106, 1109, 1111, 26, 1112, 1820, 1821, 1822, 1823, 1824, 1113, 1114, 1115, 1116, 1117, 1118, 1119, 1120, 1121, 1122, 1123, 1124, 1833, 1834] (by decide +kernel)
set_option maxRecDepth 20000 in
theorem wsL_law_r51_in : ∀ w ∈ wsL_law_r51, w ∈ lw_tbl := in_r [1835, 1836, 1837, 1125, 1126, 1127, 1128, 1825, 1826, 1827, 1828, 1129, 1130, 1131, 1132, 1829, 1830, 1831, 1832, 1133, 1134, 1135, 1136, 410] (by decide +kernel)
set_option maxRecDepth 20000 in
theorem wsL_law_r52_in : ∀ w ∈ wsL_law_r52, w ∈ lw_tbl := in_r [1137, 1138, 1139, 1140, 1141, 1143, 27, 1144, 1145, 1147, 28, 1148, 1850, 1851, 1852, 1853, 1854, 1856, 90, 1857, 1858, 1839, 1840, 1841] (by decide +kernel)
set_option maxRecDepth 20000 in
theorem wsL_law_r53_in : ∀ w ∈ wsL_law_r53, w ∈ lw_tbl := in_r [1842, 1844, 88, 1845, 1846, 1848, 89, 1849, 1149, 1150, 1151, 1152, 1153, 1154, 1155, 1156, 1157, 1158, 111, 1159, 1160, 1161, 1162, 1859] (by decide +kernel)
set_option maxRecDepth 20000 in
theorem wsL_law_r54_in : ∀ w ∈ wsL_law_r54, w ∈ lw_tbl := in_r [1860, 1861, 1862, 1863, 1864, 1865, 1163, 1164, 1165, 1166, 1167, 1168, 1169, 1170, 1171, 1172, 1173, 1174, 1838, 1175, 1176, 1177, 1178, 1179] (by decide +kernel)
set_option maxRecDepth 20000 in
theorem wsL_law_r55_in : ∀ w ∈ wsL_law_r55, w ∈ lw_tbl := in_r [1180, 1181, 1182, 1866, 1867, 1868, 1869, 1183, 1184, 1185, 1186, 1187, 1188, 1189, 1190, 1191, 1209, 1210, 1192, 1194, 29, 1195, 1196, 1197] (by decide +kernel)
set_option maxRecDepth 20000 in
theorem wsL_law_r56_in : ∀ w ∈ wsL_law_r56, w ∈ lw_tbl := in_r [1198, 1199, 1200, 1201, 1202, 1203, 1204, 1205, 1207, 30, 1208, 1870, 1871, 1872, 1873, 1878, 1874, 1876, 91, 1877, 1879, 1880, 1881, 1211] (by decide +kernel)
set_option maxRecDepth 20000 in
theorem wsL_law_r57_in : ∀ w ∈ wsL_law_r57, w ∈ lw_tbl := in_r [1212, 1213, 1214, 1215, 1216, 1217, 1882, 1883, 1884, 1885, 1886, 1218, 1219, 1220, 1221, 334, 362, 365, 367, 1222, 1224, 31, 1225, 1887] (by decide +kernel)
set_option maxRecDepth 20000 in
theorem wsL_law_r58_in : ∀ w ∈ wsL_law_r58, w ∈ lw_tbl := in_r [1888, 1889, 1890, 1226, 1227, 1228, 1229, 174, 1230, 1891, 1892, 1893, 1894, 1231, 1232, 1233, 1234, 1235, 1236, 1237, 1238, 172, 1239, 1241] (by decide +kernel)
set_option maxRecDepth 20000 in
theorem wsL_law_r59_in : ∀ w ∈ wsL_law_r59, w ∈ lw_tbl := in_r [1242, 1243, 1244, 1240, 1895, 1896, 1897, 1898, 1899, 1245, 1246, 1247, 1248, 1395, 1396, 1397, 1398, 1249, 1250, 1251, 1252, 1403, 1404, 1405] (by decide +kernel)
set_option maxRecDepth 20000 in
theorem wsL_law_r60_in : ∀ w ∈ wsL_law_r60, w ∈ lw_tbl := in_r [1406, 1253, 1254, 1255, 1256, 1257, 1258, 1259, 1260, 1261, 1262, 1900, 1901, 1902, 1903, 1263, 1264, 1265, 1266, 1267, 1268, 1269, 1270, 1271] (by decide +kernel)
set_option maxRecDepth 20000 in
theorem wsL_law_r61_in : ∀ w ∈ wsL_law_r61, w ∈ lw_tbl := in_r [1273, 32, 1274, 1904, 1905, 1906, 1907, 1908, 1909, 1910, 1275, 1276, 1277, 1278, 170, 176, 1283, 1285, 1284, 112, 1279, 1280, 1281, 1282] (by decide +kernel)
set_option maxRecDepth 20000 in
theorem wsL_law_r62_in : ∀ w ∈ wsL_law_r62, w ∈ lw_tbl := in_r [1911, 1912, 1913, 1914] (by decide +kernel)
set_option maxRecDepth 20000 in
theorem inX11 : ∀ w ∈ wsX110, w ∈ lw_tbl := in_r [467, 469, 471, 473, 475, 477, 479, 481, 483, 485, 487] (by decide +kernel)
set_option maxRecDepth 20000 in
theorem inX12 : ∀ w ∈ wsX120, w ∈ lw_tbl := in_r [1325, 1327, 1329, 1331, 1333, 1335, 1337, 1339, 1341, 1343, 1345, 1347, 1349, 1351, 1353, 1355, 1357, 1359, 1361, 1363, 1365, 1367, 1369, 1371, 1373, 1375, 1377, 1379, 1381, 1383, 1385, 1387, 1389, 1391] (by decide +kernel)
set_option maxRecDepth 20000 in
theorem inX9 : ∀ w ∈ wsX90, w ∈ lw_tbl := in_r [140, 142, 144, 146, 148, 150, 152, 154] (by decide +kernel)
set_option maxRecDepth 20000 in
theorem inX7 : ∀ w ∈ wsX70, w ∈ lw_tbl := in_r [177, 179, 181, 183] (by decide +kernel)
set_option maxRecDepth 20000 in
theorem inX8 : ∀ w ∈ wsX80, w ∈ lw_tbl := in_r [201, 203, 205, 207, 209, 211] (by decide +kernel)
set_option maxRecDepth 20000 in
theorem inX1 : ∀ w ∈ wsX10, w ∈ lw_tbl := in_r [229, 231, 233, 235, 237] (by decide +kernel)
set_option maxRecDepth 20000 in
theorem inX3 : ∀ w ∈ wsX30, w ∈ lw_tbl := in_r [264, 266, 268, 270, 272, 274, 276, 278, 280, 282, 284] (by decide +kernel)
set_option maxRecDepth 20000 in
theorem inX0 : ∀ w ∈ wsX00, w ∈ lw_tbl := in_r [301, 303, 305, 307, 309, 311, 313, 315] (by decide +kernel)
set_option maxRecDepth 20000 in
theorem inX10 : ∀ w ∈ wsX100, w ∈ lw_tbl := in_r [431, 433, 435, 437, 439, 441, 443, 445, 447, 449, 451, 453] (by decide +kernel)
set_option maxRecDepth 20000 in
theorem inX6 : ∀ w ∈ wsX60, w ∈ lw_tbl := in_r [341, 343, 345, 347, 349, 351] (by decide +kernel)
set_option maxRecDepth 20000 in
theorem inX4 : ∀ w ∈ wsX40, w ∈ lw_tbl := in_r [376, 378, 380, 382, 384, 386, 388, 390, 392, 394, 396] (by decide +kernel)
set_option maxRecDepth 20000 in
theorem inX2 : ∀ w ∈ wsX20, w ∈ lw_tbl := in_r [520, 522] (by decide +kernel)
set_option maxRecDepth 20000 in
theorem inX5 : ∀ w ∈ wsX50, w ∈ lw_tbl := in_r [712, 714, 716, 718, 720, 722, 724] (by decide +kernel)
theorem wsL_law_in : ∀ w ∈ wsL_law, w ∈ lw_tbl := List.forall_mem_append.mpr ⟨List.forall_mem_append.mpr ⟨List.forall_mem_append.mpr ⟨List.forall_mem_append.mpr ⟨List.forall_mem_append.mpr ⟨List.forall_mem_append.mpr ⟨List.forall_mem_append.mpr ⟨List.forall_mem_append.mpr ⟨List.forall_mem_append.mpr ⟨List.forall_mem_append.mpr ⟨List.forall_mem_append.mpr ⟨List.forall_mem_append.mpr ⟨List.forall_mem_append.mpr ⟨List.forall_mem_append.mpr ⟨List.forall_mem_append.mpr ⟨wsL_law_r1_in, List.forall_mem_append.mpr ⟨wsL_law_r2_in, List.forall_mem_append.mpr ⟨wsL_law_r3_in, List.forall_mem_append.mpr ⟨wsL_law_r4_in, List.forall_mem_append.mpr ⟨wsL_law_r5_in, List.forall_mem_append.mpr ⟨wsL_law_r6_in, List.forall_mem_append.mpr ⟨wsL_law_r7_in, List.forall_mem_append.mpr ⟨wsL_law_r8_in, List.forall_mem_append.mpr ⟨wsL_law_r9_in, List.forall_mem_append.mpr ⟨wsL_law_r10_in, List.forall_mem_append.mpr ⟨wsL_law_r11_in, List.forall_mem_append.mpr ⟨wsL_law_r12_in, List.forall_mem_append.mpr ⟨wsL_law_r13_in, List.forall_mem_append.mpr ⟨wsL_law_r14_in, List.forall_mem_append.mpr ⟨wsL_law_r15_in, List.forall_mem_append.mpr ⟨wsL_law_r16_in, List.forall_mem_append.mpr ⟨wsL_law_r17_in, List.forall_mem_append.mpr ⟨wsL_law_r18_in, List.forall_mem_append.mpr ⟨wsL_law_r19_in, List.forall_mem_append.mpr ⟨wsL_law_r20_in, List.forall_mem_append.mpr ⟨wsL_law_r21_in, List.forall_mem_append.mpr ⟨wsL_law_r22_in, List.forall_mem_append.mpr ⟨wsL_law_r23_in, List.forall_mem_append.mpr ⟨wsL_law_r24_in, List.forall_mem_append.mpr ⟨wsL_law_r25_in, List.forall_mem_append.mpr ⟨wsL_law_r26_in, List.forall_mem_append.mpr ⟨wsL_law_r27_in, List.forall_mem_append.mpr ⟨wsL_law_r28_in, List.forall_mem_append.mpr ⟨wsL_law_r29_in, List.forall_mem_append.mpr ⟨wsL_law_r30_in, List.forall_mem_append.mpr ⟨wsL_law_r31_in, List.forall_mem_append.mpr ⟨wsL_law_r32_in, List.forall_mem_append.mpr ⟨wsL_law_r33_in, List.forall_mem_append.mpr ⟨wsL_law_r34_in, List.forall_mem_append.mpr ⟨wsL_law_r35_in, List.forall_mem_append.mpr ⟨wsL_law_r36_in, List.forall_mem_append.mpr ⟨wsL_law_r37_in, List.forall_mem_append.mpr ⟨wsL_law_r38_in, List.forall_mem_append.mpr ⟨wsL_law_r39_in, List.forall_mem_append.mpr ⟨wsL_law_r40_in, List.forall_mem_append.mpr ⟨wsL_law_r41_in, List.forall_mem_append.mpr ⟨wsL_law_r42_in, List.forall_mem_append.mpr ⟨wsL_law_r43_in, List.forall_mem_append.mpr ⟨wsL_law_r44_in, List.forall_mem_append.mpr ⟨wsL_law_r45_in, List.forall_mem_append.mpr ⟨wsL_law_r46_in, List.forall_mem_append.mpr ⟨wsL_law_r47_in, List.forall_mem_append.mpr ⟨wsL_law_r48_in, List.forall_mem_append.mpr ⟨wsL_law_r49_in, List.forall_mem_append.mpr ⟨wsL_law_r50_in, List.forall_mem_append.mpr ⟨wsL_law_r51_in, List.forall_mem_append.mpr ⟨wsL_law_r52_in, List.forall_mem_append.mpr ⟨wsL_law_r53_in, List.forall_mem_append.mpr ⟨wsL_law_r54_in, List.forall_mem_append.mpr ⟨wsL_law_r55_in, List.forall_mem_append.mpr ⟨wsL_law_r56_in, List.forall_mem_append.mpr ⟨wsL_law_r57_in, List.forall_mem_append.mpr ⟨wsL_law_r58_in, List.forall_mem_append.mpr ⟨wsL_law_r59_in, List.forall_mem_append.mpr ⟨wsL_law_r60_in, List.forall_mem_append.mpr ⟨wsL_law_r61_in, wsL_law_r62_in⟩⟩⟩⟩⟩⟩⟩⟩⟩⟩⟩⟩⟩⟩⟩⟩⟩⟩⟩⟩⟩⟩⟩⟩⟩⟩⟩⟩⟩⟩⟩⟩⟩⟩⟩⟩⟩⟩⟩⟩⟩⟩⟩⟩⟩⟩⟩⟩⟩⟩⟩⟩⟩⟩⟩⟩⟩⟩⟩⟩⟩, inX11⟩, inX12⟩, inX9⟩, inX7⟩, inX8⟩, inX1⟩, inX3⟩, inX0⟩, inX10⟩, inX6⟩, inX4⟩, inX2⟩, inX5⟩, fun _ h => absurd h List.not_mem_nil⟩
