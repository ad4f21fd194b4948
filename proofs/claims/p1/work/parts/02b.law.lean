theorem y_idx {ws : List Cond} (is : List Nat) (h : ws = is.filterMap (fun i => lw_tbl[i]?)) : ∀ w ∈ ws, w ∈ lw_tbl := fun w hw => by
  rw [h] at hw
  obtain ⟨i, -, hi⟩ := List.mem_filterMap.mp hw
  exact List.mem_of_getElem? hi
set_option maxRecDepth 20000 in
theorem yb_wsL_law0_r1 : ∀ w ∈ wsL_law0_r1, w ∈ lw_tbl := y_idx [100, 101, 65, 969, 970, 72, 211, 1805, 102, 103, 104, 105, 106, 107, 108, 109, 66, 256, 154, 155, 67, 257, 172, 173] (by decide +kernel)
set_option maxRecDepth 20000 in
theorem yb_wsL_law0_r2 : ∀ w ∈ wsL_law0_r2, w ∈ lw_tbl := y_idx [68, 258, 235, 236, 70, 259, 152, 260, 252, 261, 262, 111, 112, 113, 116, 120, 124, 127, 114, 131, 153, 134, 136, 157] (by decide +kernel)
set_option maxRecDepth 20000 in
theorem yb_wsL_law0_r3 : ∀ w ∈ wsL_law0_r3, w ∈ lw_tbl := y_idx [158, 159, 160, 162, 164, 175, 176, 177, 212, 214, 216, 178, 179, 69, 218, 219, 234, 220, 181, 182, 183, 184, 186, 188] (by decide +kernel)
set_option maxRecDepth 20000 in
theorem yb_wsL_law0_r4 : ∀ w ∈ wsL_law0_r4, w ∈ lw_tbl := y_idx [190, 192, 193, 194, 195, 238, 239, 240, 242, 241, 243, 244, 253, 254, 71, 255, 971, 972, 973, 974, 1038, 1039, 1040, 975] (by decide +kernel)
set_option maxRecDepth 20000 in
theorem yb_wsL_law0_r5 : ∀ w ∈ wsL_law0_r5, w ∈ lw_tbl := y_idx [1041, 976, 977, 75, 1042, 1005, 1006, 77, 1043, 978, 979, 980, 988, 990, 981, 982, 74, 983, 994, 984, 985, 73, 986, 987] (by decide +kernel)
set_option maxRecDepth 20000 in
theorem yb_wsL_law0_r6 : ∀ w ∈ wsL_law0_r6, w ∈ lw_tbl := y_idx [1007, 1008, 1009, 1010, 1011, 76, 1012, 1013, 1014, 531, 1023, 1024, 1016, 1017, 79, 1018, 1019, 1020, 1021, 1022, 1037, 446, 447, 64] (by decide +kernel)
set_option maxRecDepth 20000 in
theorem yb_wsL_law0_r7 : ∀ w ∈ wsL_law0_r7, w ∈ lw_tbl := y_idx [448, 449, 450, 451, 452, 453, 454, 532, 84, 118, 126, 455, 457, 19, 458, 459, 83, 1070, 1071, 1072, 1073, 1044, 1074, 1075] (by decide +kernel)
set_option maxRecDepth 20000 in
theorem yb_wsL_law0_r8 : ∀ w ∈ wsL_law0_r8, w ∈ lw_tbl := y_idx [1076, 1077, 1079, 33, 1080, 1046, 1066, 1067, 1068, 1069, 548, 549, 550, 551, 552, 553, 554, 123, 128, 1081, 1082, 1083, 1084, 1045] (by decide +kernel)
set_option maxRecDepth 20000 in
theorem yb_wsL_law0_r9 : ∀ w ∈ wsL_law0_r9, w ∈ lw_tbl := y_idx [556, 557, 558, 559, 583, 584, 585, 586, 587, 589, 21, 590, 591, 85, 1085, 1086, 1087, 1088, 1089, 1091, 34, 1092, 604, 605] (by decide +kernel)
set_option maxRecDepth 20000 in
theorem yb_wsL_law0_r10 : ∀ w ∈ wsL_law0_r10, w ∈ lw_tbl := y_idx [606, 607, 608, 609, 610, 611, 621, 87, 612, 614, 22, 615, 617, 618, 619, 620, 1093, 1094, 1095, 1096, 1097, 1099, 35, 1100] (by decide +kernel)
set_option maxRecDepth 20000 in
theorem yb_wsL_law0_r11 : ∀ w ∈ wsL_law0_r11, w ∈ lw_tbl := y_idx [1101, 1103, 36, 1104, 637, 638, 639, 640, 641, 642, 643, 132, 644, 646, 23, 647, 648, 321, 322, 323, 298, 299, 300, 301] (by decide +kernel)
set_option maxRecDepth 20000 in
theorem yb_wsL_law0_r12 : ∀ w ∈ wsL_law0_r12, w ∈ lw_tbl := y_idx [1105, 1106, 1107, 1108, 1109, 1111, 37, 1112, 649, 650, 651, 652, 653, 654, 655, 1113, 1114, 1115, 1116, 656, 657, 658, 659, 660] (by decide +kernel)
set_option maxRecDepth 20000 in
theorem yb_wsL_law0_r13 : ∀ w ∈ wsL_law0_r13, w ∈ lw_tbl := y_idx [661, 662, 663, 664, 665, 667, 668, 669, 670, 672, 673, 674, 675, 676, 1117, 1118, 1119, 1120, 1121, 1122, 1123, 1124, 1125, 1807] (by decide +kernel)
set_option maxRecDepth 20000 in
theorem yb_wsL_law0_r14 : ∀ w ∈ wsL_law0_r14, w ∈ lw_tbl := y_idx [1036, 1126, 1127, 1027, 1128, 1129, 1130, 1131, 1132, 1808, 1133, 1134, 1135, 1809, 0, 1137, 1138, 1139, 1810, 1, 1141, 1142, 1151, 1143] (by decide +kernel)
set_option maxRecDepth 20000 in
theorem yb_wsL_law0_r15 : ∀ w ∈ wsL_law0_r15, w ∈ lw_tbl := y_idx [1144, 88, 1145, 1146, 408, 89, 409, 1147, 1148, 1149, 1150, 1152, 1153, 1154, 1155, 1156, 1157, 1158, 1159, 1161, 1162, 427, 428, 1163] (by decide +kernel)
set_option maxRecDepth 20000 in
theorem yb_wsL_law0_r16 : ∀ w ∈ wsL_law0_r16, w ∈ lw_tbl := y_idx [773, 772, 90, 1164, 1166, 1167, 1165, 1168, 1169, 1170, 91, 1171, 1172, 1811, 2, 1174, 1175, 1176, 1177, 1178, 1179, 1180, 1181, 1182] (by decide +kernel)
set_option maxRecDepth 20000 in
theorem yb_wsL_law0_r17 : ∀ w ∈ wsL_law0_r17, w ∈ lw_tbl := y_idx [1183, 1184, 1185, 1186, 1187, 1188, 1189, 78, 1190, 1191, 1193, 1194, 92, 1195, 1196, 1197, 1198, 1199, 1201, 1203, 1205, 1206, 1207, 1208] (by decide +kernel)
set_option maxRecDepth 20000 in
theorem yb_wsL_law0_r18 : ∀ w ∈ wsL_law0_r18, w ∈ lw_tbl := y_idx [1209, 1210, 1211, 1212, 1213, 1214, 1215, 1216, 278, 279, 280, 281, 161, 1217, 1218, 1219, 1220, 1221, 1222, 1223, 1224, 1225, 1812, 1226] (by decide +kernel)
set_option maxRecDepth 20000 in
theorem yb_wsL_law0_r19 : ∀ w ∈ wsL_law0_r19, w ∈ lw_tbl := y_idx [1227, 1228, 1229, 93, 1025, 1372, 1373, 1374, 1375, 1376, 1377, 1378, 1379, 1380, 1337, 1384, 560, 86, 1394, 1395, 1396, 1397, 677, 678] (by decide +kernel)
set_option maxRecDepth 20000 in
theorem yb_wsL_law0_r20 : ∀ w ∈ wsL_law0_r20, w ∈ lw_tbl := y_idx [679, 680, 681, 682, 683, 163, 684, 685, 686, 687, 688, 1398, 1399, 1400, 1401, 1416, 1402, 1404, 38, 1405, 1406, 1407, 1408, 1409] (by decide +kernel)
set_option maxRecDepth 20000 in
theorem yb_wsL_law0_r21 : ∀ w ∈ wsL_law0_r21, w ∈ lw_tbl := y_idx [1410, 1819, 1411, 1412, 1413, 1414, 1415, 1351, 1352, 690, 691, 692, 693, 694, 695, 696, 697, 698, 699, 700, 701, 703, 24, 704] (by decide +kernel)
set_option maxRecDepth 20000 in
theorem yb_wsL_law0_r22 : ∀ w ∈ wsL_law0_r22, w ∈ lw_tbl := y_idx [1417, 1418, 1419, 1420, 1421, 1423, 39, 1424, 1425, 1309, 1310, 1311, 1312, 578, 1313, 1314, 1315, 1316, 1317, 1318, 1319, 1358, 1357, 1267] (by decide +kernel)
set_option maxRecDepth 20000 in
theorem yb_wsL_law0_r23 : ∀ w ∈ wsL_law0_r23, w ∈ lw_tbl := y_idx [1026, 1320, 1322, 1323, 1321, 1324, 1325, 1126, 1818, 1326, 1327, 1328, 1329, 1330, 1331, 1332, 1333, 1334, 1335, 1344, 1345, 1346, 1347, 1348] (by decide +kernel)
set_option maxRecDepth 20000 in
theorem yb_wsL_law0_r24 : ∀ w ∈ wsL_law0_r24, w ∈ lw_tbl := y_idx [1349, 1350, 1353, 1354, 1355, 1356, 1426, 1260, 1261, 1262, 1263, 1264, 1265, 1266, 705, 706, 707, 708, 709, 710, 711, 712, 713, 96] (by decide +kernel)
set_option maxRecDepth 20000 in
theorem yb_wsL_law0_r25 : ∀ w ∈ wsL_law0_r25, w ∈ lw_tbl := y_idx [135, 1427, 1428, 1429, 1430, 1431, 1432, 1433, 1434, 1435, 1436, 1437, 1438, 1439, 1440, 1441, 1442, 1443, 1444, 1445, 729, 730, 731, 732] (by decide +kernel)
set_option maxRecDepth 20000 in
theorem yb_wsL_law0_r26 : ∀ w ∈ wsL_law0_r26, w ∈ lw_tbl := y_idx [733, 734, 735, 736, 738, 25, 739, 1446, 1447, 1448, 1449, 741, 742, 743, 744, 745, 746, 747, 1450, 1451, 1452, 1453, 749, 750] (by decide +kernel)
set_option maxRecDepth 20000 in
theorem yb_wsL_law0_r27 : ∀ w ∈ wsL_law0_r27, w ∈ lw_tbl := y_idx [751, 752, 753, 754, 755, 1454, 1455, 1456, 1457, 756, 757, 758, 759, 760, 761, 762, 1458, 1459, 1460, 1461, 763, 764, 765, 766] (by decide +kernel)
set_option maxRecDepth 20000 in
theorem yb_wsL_law0_r28 : ∀ w ∈ wsL_law0_r28, w ∈ lw_tbl := y_idx [767, 768, 769, 771, 1462, 1463, 1464, 1465, 1476, 1477, 1478, 1480, 1467, 1471, 1473, 1475, 993, 1482, 1485, 1487, 1489, 997, 996, 1490] (by decide +kernel)
set_option maxRecDepth 20000 in
theorem yb_wsL_law0_r29 : ∀ w ∈ wsL_law0_r29, w ∈ lw_tbl := y_idx [1492, 40, 1493, 1494, 1496, 41, 1497, 1498, 1500, 42, 1501, 1535, 1536, 1502, 1503, 1504, 1505, 1506, 1843, 1507, 1528, 1529, 1530, 1531] (by decide +kernel)
set_option maxRecDepth 20000 in
theorem yb_wsL_law0_r30 : ∀ w ∈ wsL_law0_r30, w ∈ lw_tbl := y_idx [1532, 1534, 774, 775, 776, 777, 778, 779, 780, 781, 783, 26, 784, 396, 397, 398, 399, 400, 401, 787, 789, 27, 790, 1537] (by decide +kernel)
set_option maxRecDepth 20000 in
theorem yb_wsL_law0_r31 : ∀ w ∈ wsL_law0_r31, w ∈ lw_tbl := y_idx [1538, 1539, 1540, 1541, 1543, 43, 1544, 1546, 1549, 1551, 1553, 1554, 1555, 97, 1556, 1557, 1558, 1559, 1560, 1561, 1562, 1564, 44, 1565] (by decide +kernel)
set_option maxRecDepth 20000 in
theorem yb_wsL_law0_r32 : ∀ w ∈ wsL_law0_r32, w ∈ lw_tbl := y_idx [791, 792, 793, 794, 795, 796, 797, 1566, 1567, 1568, 1569, 798, 799, 800, 801, 802, 803, 804, 805, 807, 28, 808, 809, 811] (by decide +kernel)
set_option maxRecDepth 20000 in
theorem yb_wsL_law0_r33 : ∀ w ∈ wsL_law0_r33, w ∈ lw_tbl := y_idx [29, 812, 813, 295, 296, 297, 1570, 1571, 1572, 1573, 1574, 1576, 45, 1577, 1578, 1580, 46, 1581, 1582, 1584, 47, 1585, 1586, 1588] (by decide +kernel)
set_option maxRecDepth 20000 in
theorem yb_wsL_law0_r34 : ∀ w ∈ wsL_law0_r34, w ∈ lw_tbl := y_idx [48, 1589, 814, 815, 816, 817, 818, 819, 820, 402, 291, 292, 293, 294, 1590, 1591, 1592, 1593, 1594, 1596, 49, 1597, 821, 822] (by decide +kernel)
set_option maxRecDepth 20000 in
theorem yb_wsL_law0_r35 : ∀ w ∈ wsL_law0_r35, w ∈ lw_tbl := y_idx [823, 824, 825, 826, 827, 1598, 1599, 1600, 1601, 828, 829, 830, 831, 832, 833, 834, 286, 287, 288, 289, 290, 835, 836, 837] (by decide +kernel)
set_option maxRecDepth 20000 in
theorem yb_wsL_law0_r36 : ∀ w ∈ wsL_law0_r36, w ∈ lw_tbl := y_idx [838, 839, 841, 30, 842, 1602, 1603, 1604, 1605, 1606, 1608, 50, 1609, 844, 845, 846, 847, 848, 849, 850, 302, 303, 304, 305] (by decide +kernel)
set_option maxRecDepth 20000 in
theorem yb_wsL_law0_r37 : ∀ w ∈ wsL_law0_r37, w ∈ lw_tbl := y_idx [306, 307, 309, 3, 310, 1610, 1611, 1612, 1613, 1614, 1616, 51, 1617, 282, 283, 284, 285, 1618, 1619, 1620, 1621, 311, 312, 313] (by decide +kernel)
set_option maxRecDepth 20000 in
theorem yb_wsL_law0_r38 : ∀ w ∈ wsL_law0_r38, w ∈ lw_tbl := y_idx [314, 315, 316, 317, 318, 117, 125, 122, 187, 327, 319, 320, 324, 325, 95, 326, 328, 329, 330, 331, 121, 119, 332, 333] (by decide +kernel)
set_option maxRecDepth 20000 in
theorem yb_wsL_law0_r39 : ∀ w ∈ wsL_law0_r39, w ∈ lw_tbl := y_idx [335, 4, 336, 337, 339, 5, 340, 341, 342, 344, 6, 345, 348, 350, 7, 351, 352, 354, 8, 355, 129, 356, 358, 9] (by decide +kernel)
set_option maxRecDepth 20000 in
theorem yb_wsL_law0_r40 : ∀ w ∈ wsL_law0_r40, w ∈ lw_tbl := y_idx [359, 360, 361, 362, 363, 1622, 1623, 1624, 1625, 1626, 1628, 52, 1629, 1630, 1631, 1632, 1634, 53, 1635, 852, 853, 854, 855, 856] (by decide +kernel)
set_option maxRecDepth 20000 in
theorem yb_wsL_law0_r41 : ∀ w ∈ wsL_law0_r41, w ∈ lw_tbl := y_idx [857, 858, 213, 1636, 1637, 1638, 1639, 1640, 1642, 54, 1643, 1644, 1646, 55, 1647, 1648, 1649, 1650, 364, 365, 366, 367, 1651, 1652] (by decide +kernel)
set_option maxRecDepth 20000 in
theorem yb_wsL_law0_r42 : ∀ w ∈ wsL_law0_r42, w ∈ lw_tbl := y_idx [1653, 1654, 859, 860, 861, 862, 863, 864, 865, 866, 868, 31, 869, 414, 415, 416, 417, 418, 419, 420, 421, 422, 424, 14] (by decide +kernel)
set_option maxRecDepth 20000 in
theorem yb_wsL_law0_r43 : ∀ w ∈ wsL_law0_r43, w ∈ lw_tbl := y_idx [425, 426, 429, 431, 15, 432, 133, 433, 435, 16, 436, 191, 130, 189, 437, 439, 17, 440, 441, 443, 18, 444, 445, 1655] (by decide +kernel)
set_option maxRecDepth 20000 in
theorem yb_wsL_law0_r44 : ∀ w ∈ wsL_law0_r44, w ∈ lw_tbl := y_idx [1656, 1657, 1658, 1659, 1661, 56, 1662, 1663, 1665, 57, 1666, 1675, 1667, 1669, 58, 1670, 1671, 1673, 59, 1674, 1676, 1678, 60, 1679] (by decide +kernel)
set_option maxRecDepth 20000 in
theorem yb_wsL_law0_r45 : ∀ w ∈ wsL_law0_r45, w ∈ lw_tbl := y_idx [871, 872, 873, 874, 875, 876, 877, 217, 1680, 1681, 1682, 1683, 879, 880, 881, 882, 883, 884, 885, 886, 887, 888, 889, 1684] (by decide +kernel)
set_option maxRecDepth 20000 in
theorem yb_wsL_law0_r46 : ∀ w ∈ wsL_law0_r46, w ∈ lw_tbl := y_idx [1685, 1686, 1687, 1688, 1690, 61, 1691, 890, 891, 892, 893, 894, 895, 896, 215, 387, 388, 389, 390, 391, 393, 11, 394, 1692] (by decide +kernel)
set_option maxRecDepth 20000 in
theorem yb_wsL_law0_r47 : ∀ w ∈ wsL_law0_r47, w ∈ lw_tbl := y_idx [1693, 1694, 1695, 1696, 1698, 62, 1699, 1700, 897, 898, 899, 900, 901, 902, 903, 1701, 1702, 1703, 1704, 904, 905, 906, 907, 908] (by decide +kernel)
set_option maxRecDepth 20000 in
theorem yb_wsL_law0_r48 : ∀ w ∈ wsL_law0_r48, w ∈ lw_tbl := y_idx [909, 910, 911, 912, 913, 914, 915, 917, 32, 918, 1705, 1706, 1707, 1708, 919, 920, 921, 922, 923, 924, 925, 376, 926, 927] (by decide +kernel)
set_option maxRecDepth 20000 in
theorem yb_wsL_law0_r49 : ∀ w ∈ wsL_law0_r49, w ∈ lw_tbl := y_idx [928, 929, 1709, 1710, 1711, 1712, 930, 931, 932, 933, 934, 935, 936, 372, 374, 10, 375, 1713, 1714, 1715, 1716, 1717, 1719, 63] (by decide +kernel)
set_option maxRecDepth 20000 in
theorem yb_wsL_law0_r50 : ∀ w ∈ wsL_law0_r50, w ∈ lw_tbl := y_idx [1720, 368, 369, 370, 371, 1721, 1722, 1723, 1724, 937, 938, 939, 940, 954, 955, 956, 957, 958, 98, 1725, 1726, 1727, 1728, 961] (by decide +kernel)
set_option maxRecDepth 20000 in
theorem yb_wsL_law0_r51 : ∀ w ∈ wsL_law0_r51, w ∈ lw_tbl := y_idx [962, 963, 964, 965, 966, 967, 1729, 1730, 1731, 1732, 377, 378, 379, 380, 381, 382, 1733, 1734, 1735, 1736, 1737, 1738, 1740, 1743] (by decide +kernel)
set_option maxRecDepth 20000 in
theorem yb_wsL_law0_r52 : ∀ w ∈ wsL_law0_r52, w ∈ lw_tbl := y_idx [1745, 1747, 1748, 1749, 99, 1750, 1751, 1752, 1757, 1753, 1755, 995, 1756, 1768, 1772, 1774, 1776, 1754, 1778, 1781, 1783, 1785, 991, 1786] (by decide +kernel)
set_option maxRecDepth 20000 in
theorem yb_wsL_law0_r53 : ∀ w ∈ wsL_law0_r53, w ∈ lw_tbl := y_idx [1787, 1788, 1789, 383, 384, 385, 386, 403, 405, 12, 406, 407, 410, 412, 13, 413, 1801, 1802, 1803, 1804] (by decide +kernel)
set_option maxRecDepth 20000 in
theorem yb_wsX50 : ∀ w ∈ wsX50, w ∈ lw_tbl := by decide +kernel
set_option maxRecDepth 20000 in
theorem yb_wsX60 : ∀ w ∈ wsX60, w ∈ lw_tbl := by decide +kernel
set_option maxRecDepth 20000 in
theorem yb_wsX20 : ∀ w ∈ wsX20, w ∈ lw_tbl := by decide +kernel
set_option maxRecDepth 20000 in
theorem yb_wsX40 : ∀ w ∈ wsX40, w ∈ lw_tbl := by decide +kernel
set_option maxRecDepth 20000 in
theorem yb_wsX10 : ∀ w ∈ wsX10, w ∈ lw_tbl := by decide +kernel
set_option maxRecDepth 20000 in
theorem yb_wsX00 : ∀ w ∈ wsX00, w ∈ lw_tbl := by decide +kernel
set_option maxRecDepth 20000 in
theorem yb_wsX30 : ∀ w ∈ wsX30, w ∈ lw_tbl := by decide +kernel
set_option maxRecDepth 20000 in
theorem yb_wsJx4a65c0 : ∀ w ∈ wsJx4a65c0, w ∈ lw_tbl := by decide +kernel
set_option maxRecDepth 20000 in
theorem yb_wsJ40 : ∀ w ∈ wsJ40, w ∈ lw_tbl := by decide +kernel
set_option maxRecDepth 20000 in
theorem yb_wsJx7c7330 : ∀ w ∈ wsJx7c7330, w ∈ lw_tbl := by decide +kernel
set_option maxRecDepth 20000 in
theorem yb_wsJx000600 : ∀ w ∈ wsJx000600, w ∈ lw_tbl := by decide +kernel
set_option maxRecDepth 20000 in
theorem yb_wsJ00 : ∀ w ∈ wsJ00, w ∈ lw_tbl := by decide +kernel
set_option maxRecDepth 20000 in
theorem yb_wsJx354110 : ∀ w ∈ wsJx354110, w ∈ lw_tbl := by decide +kernel
theorem wsL_law_in0 : ∀ w ∈ wsL_law0, w ∈ lw_tbl := List.forall_mem_append.mpr ⟨List.forall_mem_append.mpr ⟨List.forall_mem_append.mpr ⟨List.forall_mem_append.mpr ⟨List.forall_mem_append.mpr ⟨List.forall_mem_append.mpr ⟨List.forall_mem_append.mpr ⟨List.forall_mem_append.mpr ⟨List.forall_mem_append.mpr ⟨List.forall_mem_append.mpr ⟨List.forall_mem_append.mpr ⟨List.forall_mem_append.mpr ⟨List.forall_mem_append.mpr ⟨List.forall_mem_append.mpr ⟨List.forall_mem_append.mpr ⟨yb_wsL_law0_r1, List.forall_mem_append.mpr ⟨yb_wsL_law0_r2, List.forall_mem_append.mpr ⟨yb_wsL_law0_r3, List.forall_mem_append.mpr ⟨yb_wsL_law0_r4, List.forall_mem_append.mpr ⟨yb_wsL_law0_r5, List.forall_mem_append.mpr ⟨yb_wsL_law0_r6, List.forall_mem_append.mpr ⟨yb_wsL_law0_r7, List.forall_mem_append.mpr ⟨yb_wsL_law0_r8, List.forall_mem_append.mpr ⟨yb_wsL_law0_r9, List.forall_mem_append.mpr ⟨yb_wsL_law0_r10, List.forall_mem_append.mpr ⟨yb_wsL_law0_r11, List.forall_mem_append.mpr ⟨yb_wsL_law0_r12, List.forall_mem_append.mpr ⟨yb_wsL_law0_r13, List.forall_mem_append.mpr ⟨yb_wsL_law0_r14, List.forall_mem_append.mpr ⟨yb_wsL_law0_r15, List.forall_mem_append.mpr ⟨yb_wsL_law0_r16, List.forall_mem_append.mpr ⟨yb_wsL_law0_r17, List.forall_mem_append.mpr ⟨yb_wsL_law0_r18, List.forall_mem_append.mpr ⟨yb_wsL_law0_r19, List.forall_mem_append.mpr ⟨yb_wsL_law0_r20, List.forall_mem_append.mpr ⟨yb_wsL_law0_r21, List.forall_mem_append.mpr ⟨yb_wsL_law0_r22, List.forall_mem_append.mpr ⟨yb_wsL_law0_r23, List.forall_mem_append.mpr ⟨yb_wsL_law0_r24, List.forall_mem_append.mpr ⟨yb_wsL_law0_r25, List.forall_mem_append.mpr ⟨yb_wsL_law0_r26, List.forall_mem_append.mpr ⟨yb_wsL_law0_r27, List.forall_mem_append.mpr ⟨yb_wsL_law0_r28, List.forall_mem_append.mpr ⟨yb_wsL_law0_r29, List.forall_mem_append.mpr ⟨yb_wsL_law0_r30, List.forall_mem_append.mpr ⟨yb_wsL_law0_r31, List.forall_mem_append.mpr ⟨yb_wsL_law0_r32, List.forall_mem_append.mpr ⟨yb_wsL_law0_r33, List.forall_mem_append.mpr ⟨yb_wsL_law0_r34, List.forall_mem_append.mpr ⟨yb_wsL_law0_r35, List.forall_mem_append.mpr ⟨yb_wsL_law0_r36, List.forall_mem_append.mpr ⟨yb_wsL_law0_r37, List.forall_mem_append.mpr ⟨yb_wsL_law0_r38, List.forall_mem_append.mpr ⟨yb_wsL_law0_r39, List.forall_mem_append.mpr ⟨yb_wsL_law0_r40, List.forall_mem_append.mpr ⟨yb_wsL_law0_r41, List.forall_mem_append.mpr ⟨yb_wsL_law0_r42, List.forall_mem_append.mpr ⟨yb_wsL_law0_r43, List.forall_mem_append.mpr ⟨yb_wsL_law0_r44, List.forall_mem_append.mpr ⟨yb_wsL_law0_r45, List.forall_mem_append.mpr ⟨yb_wsL_law0_r46, List.forall_mem_append.mpr ⟨yb_wsL_law0_r47, List.forall_mem_append.mpr ⟨yb_wsL_law0_r48, List.forall_mem_append.mpr ⟨yb_wsL_law0_r49, List.forall_mem_append.mpr ⟨yb_wsL_law0_r50, List.forall_mem_append.mpr ⟨yb_wsL_law0_r51, List.forall_mem_append.mpr ⟨yb_wsL_law0_r52, yb_wsL_law0_r53⟩⟩⟩⟩⟩⟩⟩⟩⟩⟩⟩⟩⟩⟩⟩⟩⟩⟩⟩⟩⟩⟩⟩⟩⟩⟩⟩⟩⟩⟩⟩⟩⟩⟩⟩⟩⟩⟩⟩⟩⟩⟩⟩⟩⟩⟩⟩⟩⟩⟩⟩⟩, yb_wsX50⟩, yb_wsX60⟩, yb_wsX20⟩, yb_wsX40⟩, yb_wsX10⟩, yb_wsX00⟩, yb_wsX30⟩, yb_wsJx4a65c0⟩, yb_wsJ40⟩, yb_wsJx7c7330⟩, yb_wsJx000600⟩, yb_wsJ00⟩, yb_wsJx354110⟩, fun w h => absurd h (List.not_mem_nil)⟩
