/-! the world at the start: the statics, the constants, the tables' classes -/
abbrev nK (i : Nat) : Term := .static "WeatherTea$Kind" (nmK.getD i "") "LWeatherTea$Kind;"
def stL : List Nat := [184, 190, 193, 196, 199, 202, 205, 208, 211, 214, 217, 220, 223, 226, 229, 232, 235, 238, 241, 244, 247, 250, 253, 256, 259, 262, 265, 268, 271, 274, 277, 280, 283, 286, 289, 292, 295, 298, 301, 304, 307, 310, 313, 316, 319, 322, 325, 328, 328, 328, 328, 328]
abbrev nS (i : Nat) : Term := .string "WeatherTea$Kind" (stL.getD i 0)
abbrev nVb (i : Nat) : Term := .field (nS i) "java/lang/String" "value" "[B"
abbrev nL (k : Nat) : Term := .string (lsQ k).1 (lsQ k).2.1
abbrev nLv (k : Nat) : Term := .field (nL k) "java/lang/String" "value" "[B"
abbrev nKD : Term := .static "WeatherTea" "KINDS" "[LWeatherTea$Kind;"
abbrev nSM : Term := .static "WeatherTea$1" "$SwitchMap$WeatherTea$Kind" "[I"
abbrev nDO : Term := .static "java/lang/Integer" "DigitOnes" "[B"
abbrev nDT : Term := .static "java/lang/Integer" "DigitTens" "[B"
abbrev nWD : Term := .static "WeatherTeaLaw" "WORDS" "[Ljava/lang/String;"
abbrev nSG : Term := .static "WeatherTeaLaw" "SIGNS" "[Ljava/lang/String;"
def NV : List Cond := flatC (Cond.and given_1 narrow_1)
def ixE : List Nat := [135, 138, 141, 144, 150, 153, 147, 156, 159, 162, 165, 168, 174, 177, 171, 180, 471, 474, 477, 480, 483, 486, 489, 492, 495, 498, 192, 183, 234, 237, 501, 504, 201, 204, 186, 189, 240, 207, 216, 195, 210, 213, 219, 222, 225, 228, 231, 132, 72, 4, 69, 198]
def ixO : List Nat := [136, 139, 142, 145, 151, 154, 148, 157, 160, 163, 166, 169, 175, 178, 172, 181, 472, 475, 478, 481, 484, 487, 490, 493, 496, 499, 193, 184, 235, 238, 502, 505, 202, 205, 187, 190, 241, 208, 217, 196, 211, 214, 220, 223, 226, 229, 232, 133, 73, 5, 70, 199]
def ixT : List Nat := [137, 140, 143, 146, 152, 155, 149, 158, 161, 164, 167, 170, 176, 179, 173, 182, 473, 476, 479, 482, 485, 488, 491, 494, 497, 500, 194, 185, 236, 239, 503, 506, 203, 206, 188, 191, 242, 209, 218, 197, 212, 215, 221, 224, 227, 230, 233, 134, 74, 6, 71, 200]
def ixX : List Nat := [1208, 1217, 1223, 1231, 1248, 1254, 1239, 1261, 1270, 1279, 1285, 1294, 1312, 1322, 1303, 1333, 1580, 1589, 1600, 1613, 1624, 1635, 1647, 1658, 1668, 1676, 1360, 1341, 1432, 1439, 1687, 1694, 1372, 1378, 1348, 1354, 1445, 1384, 1400, 1366, 1390, 1395, 1405, 1410, 1415, 1420, 1426, 1203, 1203, 1203, 1203, 1203]
def ixC : List Nat := [1209, 1218, 1224, 1232, 1249, 1255, 1240, 1262, 1271, 1280, 1286, 1295, 1313, 1323, 1304, 1334, 1581, 1590, 1601, 1614, 1625, 1636, 1648, 1659, 1669, 1677, 1361, 1342, 1433, 1440, 1688, 1695, 1373, 1379, 1349, 1355, 1446, 1385, 1401, 1367, 1391, 1396, 1406, 1411, 1416, 1421, 1427, 1204, 1204, 1204, 1204, 1204]
def ixA : List Nat := [1210, 1219, 1225, 1233, 1250, 1256, 1241, 1263, 1272, 1281, 1287, 1296, 1314, 1324, 1305, 1335, 1582, 1591, 1602, 1615, 1626, 1637, 1649, 1660, 1670, 1678, 1362, 1343, 1434, 1441, 1689, 1696, 1374, 1380, 1350, 1356, 1447, 1386, 1402, 1368, 1392, 1397, 1407, 1412, 1417, 1422, 1428, 1205, 1205, 1205, 1205, 1205]
def ixN : List Nat := [1211, 1220, 1226, 1234, 1251, 1257, 1242, 1264, 1273, 1282, 1288, 1297, 1315, 1325, 1306, 1336, 1583, 1592, 1603, 1616, 1627, 1638, 1650, 1661, 1671, 1679, 1363, 1344, 1435, 1442, 1690, 1697, 1375, 1381, 1351, 1357, 1448, 1387, 1403, 1369, 1393, 1398, 1408, 1413, 1418, 1423, 1429, 1206, 1206, 1206, 1206, 1206]
def ixKD : List Nat := [80, 81, 82, 83, 84, 85, 86, 87, 88, 89, 90, 91, 92, 93, 94, 95, 96, 97, 98, 99, 100, 101, 102, 103, 104, 105, 106, 107, 108, 109, 110, 111, 112, 113, 114, 115, 116, 117, 118, 119, 120, 121, 122, 123, 124, 125, 126, 127, 128, 129, 130, 131]
def ixSM : List Nat := [12, 13, 14, 15, 16, 17, 18, 19, 20, 21, 22, 23, 24, 25, 26, 27, 28, 29, 30, 31, 32, 33, 34, 35, 36, 37, 38, 39, 40, 41, 42, 43, 44, 45, 46, 47, 48, 49, 50, 51, 52, 53, 54, 55, 56, 57, 58, 59, 60, 61, 62, 63]
def ixLX : List Nat := [760, 771, 790, 809, 817, 826, 831, 842, 853, 861, 872, 1523, 1529, 1536, 1542, 1548, 1554, 1560, 1566, 1573, 1452, 1460, 1470, 1482, 1492, 1502, 1513, 935, 939, 953, 958, 966, 971, 976, 984, 991, 1001, 1013, 1026, 1034, 1039, 1048, 1053, 1061, 878, 889, 900, 909, 919, 925]
def ixLC : List Nat := [761, 772, 791, 810, 818, 827, 832, 843, 854, 862, 873, 1524, 1530, 1537, 1543, 1549, 1555, 1561, 1567, 1574, 1453, 1461, 1471, 1483, 1493, 1503, 1514, 936, 940, 954, 959, 967, 972, 977, 985, 992, 1002, 1014, 1027, 1035, 1040, 1049, 1054, 1062, 879, 890, 901, 910, 920, 926]
def ixLA : List Nat := [762, 773, 792, 811, 819, 828, 833, 844, 855, 863, 874, 1525, 1531, 1538, 1544, 1550, 1556, 1562, 1568, 1575, 1454, 1462, 1472, 1484, 1494, 1504, 1515, 937, 941, 955, 960, 968, 973, 978, 986, 993, 1003, 1015, 1028, 1036, 1041, 1050, 1055, 1063, 880, 891, 902, 911, 921, 927]
def ixLN : List Nat := [763, 774, 793, 812, 820, 829, 834, 845, 856, 864, 875, 1526, 1532, 1539, 1545, 1551, 1557, 1563, 1569, 1576, 1455, 1463, 1473, 1485, 1495, 1505, 1516, 938, 942, 956, 961, 969, 974, 979, 987, 994, 1004, 1016, 1029, 1037, 1042, 1051, 1056, 1064, 881, 892, 903, 912, 922, 928]
def ixDO : List Nat := [246, 247, 248, 249, 250, 251, 252, 253, 254, 255, 256, 257, 258, 259, 260, 261, 262, 263, 264, 265, 266, 267, 268, 269, 270, 271, 272, 273, 274, 275, 276, 277, 278, 279, 280, 281, 282, 283, 284, 285, 286, 287, 288, 289, 290, 291, 292, 293, 294, 295, 296, 297, 298, 299, 300, 301, 302, 303, 304, 305, 306, 307, 308, 309, 310, 311, 312, 313, 314, 315, 316, 317, 318, 319, 320, 321, 322, 323, 324, 325, 326, 327, 328, 329, 330, 331, 332, 333, 334, 335, 336, 337, 338, 339, 340, 341, 342, 343, 344, 345]
def ixDT : List Nat := [349, 350, 351, 352, 353, 354, 355, 356, 357, 358, 359, 360, 361, 362, 363, 364, 365, 366, 367, 368, 369, 370, 371, 372, 373, 374, 375, 376, 377, 378, 379, 380, 381, 382, 383, 384, 385, 386, 387, 388, 389, 390, 391, 392, 393, 394, 395, 396, 397, 398, 399, 400, 401, 402, 403, 404, 405, 406, 407, 408, 409, 410, 411, 412, 413, 414, 415, 416, 417, 418, 419, 420, 421, 422, 423, 424, 425, 426, 427, 428, 429, 430, 431, 432, 433, 434, 435, 436, 437, 438, 439, 440, 441, 442, 443, 444, 445, 446, 447, 448]
def ixWD : List Nat := [452, 453, 454, 455, 456, 457, 458]
def ixSG : List Nat := [462, 463, 464, 465, 466, 467, 468, 469, 470]
def ixLS : List Nat := [931, 938, 940, 942, 951, 953, 944, 955, 957, 959, 961, 966, 974, 976, 968, 978, 1615, 1616, 1617, 1618, 1619, 1620, 1621, 1622, 1623, 1624, 1013, 991, 1041, 1043, 1625, 1626, 1019, 1021, 997, 999, 1049, 1023, 1029, 1015, 1025, 1027, 1031, 1033, 1035, 1037, 1039, 902, 891, 83, 889, 1017]
def ixLR : List Nat := [1221, 1353, 1354, 1355, 1356, 1357, 1384, 1385, 1386, 1387, 1388, 1670, 1671, 1672, 1673, 1674, 1675, 1676, 1677, 1678, 1662, 1663, 1664, 1665, 1666, 1667, 1668, 1530, 1536, 1537, 1539, 1540, 1541, 1542, 1543, 1544, 1545, 1546, 1547, 1548, 1549, 1550, 1551, 1552, 1459, 1519, 1520, 1521, 1522, 1523]
def ixB : List (List Nat) := [[1212, 1213, 1214, 1215, 1216], [1221, 1222], [1227, 1228, 1229, 1230], [1235, 1236, 1237, 1238], [1252, 1253], [1258, 1259, 1260], [1243, 1244, 1245, 1246, 1247], [1265, 1266, 1267, 1268, 1269], [1274, 1275, 1276, 1277, 1278], [1283, 1284], [1289, 1290, 1291, 1292, 1293], [1298, 1299, 1300, 1301, 1302], [1316, 1317, 1318, 1319, 1320], [1326, 1327, 1328, 1329, 1330, 1331], [1307, 1308, 1309, 1310, 1311], [1337, 1338, 1339, 1340], [1584, 1585, 1586, 1587], [1593, 1594, 1595, 1596, 1597, 1598], [1604, 1605, 1606, 1607, 1608, 1609, 1610, 1611], [1617, 1618, 1619, 1620, 1621, 1622], [1628, 1629, 1630, 1631, 1632, 1633], [1639, 1640, 1641, 1642, 1643, 1644, 1645], [1651, 1652, 1653, 1654, 1655, 1656], [1662, 1663, 1664, 1665, 1666, 1667], [1672, 1673, 1674, 1675], [1680, 1681, 1682, 1683, 1684, 1685, 1686], [1364, 1365], [1345, 1346, 1347], [1436, 1437, 1438], [1443, 1444], [1691, 1692, 1693], [1698, 1699, 1700], [1376], [1382], [1352], [1358], [1449], [1388], [1404], [1370], [1394], [1399], [1409], [1414], [1419], [1424, 1425], [1430, 1431], [], [], [], [], []]
def ixLB : List (List Nat) := [[764, 765, 766, 767, 768, 769, 770], [775, 776, 777, 778, 779, 780, 781, 782, 783, 784, 785, 786, 787, 788, 789], [794, 795, 796, 797, 798, 799, 800, 801, 802, 803, 804, 805, 806, 807, 808], [813, 814, 815, 816], [821, 822, 823, 824, 825], [830], [835, 836, 837, 838, 839, 840, 841], [846, 847, 848, 849, 850, 851, 852], [857, 858, 859, 860], [865, 866, 867, 868, 869, 870, 871], [876, 877], [1527], [1533], [1540], [1546], [1552], [1558], [1564], [1570, 1571], [1577, 1578], [1456, 1457, 1458, 1459], [1464, 1465, 1466, 1467, 1468, 1469], [1474, 1475, 1476, 1477, 1478, 1479, 1480, 1481], [1486, 1487, 1488, 1489, 1490, 1491], [1496, 1497, 1498, 1499, 1500, 1501], [1506, 1507, 1508, 1509, 1510, 1511, 1512], [1517, 1518, 1519, 1520, 1521, 1522], [], [943, 944, 945, 946, 947, 948, 949, 950, 951, 952], [957], [962, 963, 964, 965], [970], [975], [980, 981, 982, 983], [988, 989, 990], [995, 996, 997, 998, 999, 1000], [1005, 1006, 1007, 1008, 1009, 1010, 1011, 1012], [1017, 1018, 1019, 1020, 1021, 1022, 1023, 1024, 1025], [1030, 1031, 1032, 1033], [1038], [1043, 1044, 1045, 1046, 1047], [1052], [1057, 1058, 1059, 1060], [1065], [882, 883, 884, 885, 886, 887, 888], [893, 894, 895, 896, 897, 898, 899], [904, 905, 906, 907, 908], [913, 914, 915, 916, 917, 918], [923], [929, 930, 931, 932, 933, 934]]
theorem nvE0 : ∀ i, i < 52 → NV[ixE.getD i 0]? = some (.exactly (nK i) "WeatherTea$Kind") := by decide +kernel
theorem nvE {i : Nat} (h : i < 52) : (.exactly (nK i) "WeatherTea$Kind" : Cond) ∈ NV := List.mem_of_getElem? (nvE0 i h)
theorem nvO0 : ∀ i, i < 52 → NV[ixO.getD i 0]? = some (.eq (.field (nK i) "java/lang/Enum" "ordinal" "I") (.int (nI i))) := by decide +kernel
theorem nvO {i : Nat} (h : i < 52) : (.eq (.field (nK i) "java/lang/Enum" "ordinal" "I") (.int (nI i)) : Cond) ∈ NV := List.mem_of_getElem? (nvO0 i h)
theorem nvT0 : ∀ i, i < 52 → NV[ixT.getD i 0]? = some (.eq (.field (nK i) "WeatherTea$Kind" "text" "Ljava/lang/String;") (nS i)) := by decide +kernel
theorem nvT {i : Nat} (h : i < 52) : (.eq (.field (nK i) "WeatherTea$Kind" "text" "Ljava/lang/String;") (nS i) : Cond) ∈ NV := List.mem_of_getElem? (nvT0 i h)
theorem nvX0 : ∀ i, i < 52 → NV[ixX.getD i 0]? = some (.exactly (nS i) "java/lang/String") := by decide +kernel
theorem nvX {i : Nat} (h : i < 52) : (.exactly (nS i) "java/lang/String" : Cond) ∈ NV := List.mem_of_getElem? (nvX0 i h)
theorem nvC0 : ∀ i, i < 52 → NV[ixC.getD i 0]? = some (.eq (.field (nS i) "java/lang/String" "coder" "B") (.int 0)) := by decide +kernel
theorem nvC {i : Nat} (h : i < 52) : (.eq (.field (nS i) "java/lang/String" "coder" "B") (.int 0) : Cond) ∈ NV := List.mem_of_getElem? (nvC0 i h)
theorem nvA0 : ∀ i, i < 52 → NV[ixA.getD i 0]? = some (.arrayOf (nVb i) .byte) := by decide +kernel
theorem nvA {i : Nat} (h : i < 52) : (.arrayOf (nVb i) .byte : Cond) ∈ NV := List.mem_of_getElem? (nvA0 i h)
theorem nvN0 : ∀ i, i < 52 → NV[ixN.getD i 0]? = some (.eq (.length (nVb i)) (.int (Int32.ofNat (kln i)))) := by decide +kernel
theorem nvN {i : Nat} (h : i < 52) : (.eq (.length (nVb i)) (.int (Int32.ofNat (kln i))) : Cond) ∈ NV := List.mem_of_getElem? (nvN0 i h)
theorem nvKD0 : ∀ i, i < 52 → NV[ixKD.getD i 0]? = some (.eq (.elem nKD (.int (Int32.ofNat i))) (nK i)) := by decide +kernel
theorem nvKD {i : Nat} (h : i < 52) : (.eq (.elem nKD (.int (Int32.ofNat i))) (nK i) : Cond) ∈ NV := List.mem_of_getElem? (nvKD0 i h)
theorem nvSM0 : ∀ i, i < 52 → NV[ixSM.getD i 0]? = some (.eq (.elem nSM (.int (Int32.ofNat i))) (.int (smap i))) := by decide +kernel
theorem nvSM {i : Nat} (h : i < 52) : (.eq (.elem nSM (.int (Int32.ofNat i))) (.int (smap i)) : Cond) ∈ NV := List.mem_of_getElem? (nvSM0 i h)
theorem nvLX0 : ∀ i, i < 50 → NV[ixLX.getD i 0]? = some (.exactly (nL i) "java/lang/String") := by decide +kernel
theorem nvLX {i : Nat} (h : i < 50) : (.exactly (nL i) "java/lang/String" : Cond) ∈ NV := List.mem_of_getElem? (nvLX0 i h)
theorem nvLC0 : ∀ i, i < 50 → NV[ixLC.getD i 0]? = some (.eq (.field (nL i) "java/lang/String" "coder" "B") (.int 0)) := by decide +kernel
theorem nvLC {i : Nat} (h : i < 50) : (.eq (.field (nL i) "java/lang/String" "coder" "B") (.int 0) : Cond) ∈ NV := List.mem_of_getElem? (nvLC0 i h)
theorem nvLA0 : ∀ i, i < 50 → NV[ixLA.getD i 0]? = some (.arrayOf (nLv i) .byte) := by decide +kernel
theorem nvLA {i : Nat} (h : i < 50) : (.arrayOf (nLv i) .byte : Cond) ∈ NV := List.mem_of_getElem? (nvLA0 i h)
theorem nvLN0 : ∀ i, i < 50 → NV[ixLN.getD i 0]? = some (.eq (.length (nLv i)) (.int (Int32.ofNat (ltx i).length))) := by decide +kernel
theorem nvLN {i : Nat} (h : i < 50) : (.eq (.length (nLv i)) (.int (Int32.ofNat (ltx i).length)) : Cond) ∈ NV := List.mem_of_getElem? (nvLN0 i h)
theorem nvDO0 : ∀ i, i < 100 → NV[ixDO.getD i 0]? = some (.eq (.elem nDO (.int (Int32.ofNat i))) (.int (nI (48 + i % 10)))) := by decide +kernel
theorem nvDO {i : Nat} (h : i < 100) : (.eq (.elem nDO (.int (Int32.ofNat i))) (.int (nI (48 + i % 10))) : Cond) ∈ NV := List.mem_of_getElem? (nvDO0 i h)
theorem nvDT0 : ∀ i, i < 100 → NV[ixDT.getD i 0]? = some (.eq (.elem nDT (.int (Int32.ofNat i))) (.int (nI (48 + i / 10)))) := by decide +kernel
theorem nvDT {i : Nat} (h : i < 100) : (.eq (.elem nDT (.int (Int32.ofNat i))) (.int (nI (48 + i / 10))) : Cond) ∈ NV := List.mem_of_getElem? (nvDT0 i h)
theorem nvWD0 : ∀ i, i < 7 → NV[ixWD.getD i 0]? = some (.eq (.elem nWD (.int (Int32.ofNat i))) (nL (wrdK i))) := by decide +kernel
theorem nvWD {i : Nat} (h : i < 7) : (.eq (.elem nWD (.int (Int32.ofNat i))) (nL (wrdK i)) : Cond) ∈ NV := List.mem_of_getElem? (nvWD0 i h)
theorem nvSG0 : ∀ i, i < 9 → NV[ixSG.getD i 0]? = some (.eq (.elem nSG (.int (Int32.ofNat i))) (nL (sgnK i))) := by decide +kernel
theorem nvSG {i : Nat} (h : i < 9) : (.eq (.elem nSG (.int (Int32.ofNat i))) (nL (sgnK i)) : Cond) ∈ NV := List.mem_of_getElem? (nvSG0 i h)
theorem nvB0 : ∀ i, i < 52 → ∀ j, j < kln i → NV[(ixB.getD i []).getD j 0]? = some (.eq (.elem (nVb i) (.int (Int32.ofNat j))) (.int (kby i j))) := by decide +kernel
theorem nvB {i j : Nat} (h : i < 52) (hj : j < kln i) : (.eq (.elem (nVb i) (.int (Int32.ofNat j))) (.int (kby i j)) : Cond) ∈ NV := List.mem_of_getElem? (nvB0 i h j hj)
theorem nvLB0 : ∀ i, i < 50 → ∀ j, j < (ltx i).length → NV[(ixLB.getD i []).getD j 0]? = some (.eq (.elem (nLv i) (.int (Int32.ofNat j))) (.int (nI ((ltx i).getD j 0)))) := by decide +kernel
theorem nvLB {i j : Nat} (h : i < 50) (hj : j < (ltx i).length) : (.eq (.elem (nLv i) (.int (Int32.ofNat j))) (.int (nI ((ltx i).getD j 0))) : Cond) ∈ NV := List.mem_of_getElem? (nvLB0 i h j hj)
theorem kln_s : ∀ i, i < 52 → kln i < 2 ^ 31 := by decide
theorem ltx_s : ∀ i, i < 50 → (ltx i).length < 2 ^ 31 := by decide
theorem nvLS0 : ∀ i, i < 52 → lw_tbl[ixLS.getD i 0]? = some (.laysStatic "WeatherTea$Kind" (nmK.getD i "") "LWeatherTea$Kind;") := by decide +kernel
theorem nvLR0 : ∀ i, i < 50 → lw_tbl[ixLR.getD i 0]? = some (.stringRef (lsQ i).1 (lsQ i).2.1 (lsQ i).2.2.1) := by decide +kernel
