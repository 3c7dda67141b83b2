set_option maxRecDepth 100000 in
theorem mj_g_cw0 : GoodIn lw_tbl ((mj_cw.drop (12 * 0)).take 12) := mj_gr _ [138, 147, 187, 193, 272, 294, 311, 332, 386, 415, 464, 499] (by rfl) (by decide +kernel)
set_option maxRecDepth 100000 in
theorem mj_g_cw1 : GoodIn lw_tbl ((mj_cw.drop (12 * 1)).take 12) := mj_gr _ [503, 507, 511, 515, 519, 523, 527, 531, 535, 539, 543, 546] (by rfl) (by decide +kernel)
set_option maxRecDepth 100000 in
theorem mj_g_cw2 : GoodIn lw_tbl ((mj_cw.drop (12 * 2)).take 12) := mj_gr _ [550, 554, 606, 610, 617, 621, 625, 629, 633, 637, 641, 645] (by rfl) (by decide +kernel)
set_option maxRecDepth 100000 in
theorem mj_g_cw3 : GoodIn lw_tbl ((mj_cw.drop (12 * 3)).take 12) := mj_gr _ [649, 653, 657, 661, 665, 669, 672, 676, 680, 684, 688, 692] (by rfl) (by decide +kernel)
set_option maxRecDepth 100000 in
theorem mj_g_cw4 : GoodIn lw_tbl ((mj_cw.drop (12 * 4)).take 12) := mj_gr _ [696, 700, 704, 712, 718, 727, 731, 735, 739, 743, 748, 752] (by rfl) (by decide +kernel)
set_option maxRecDepth 100000 in
theorem mj_g_cw5 : GoodIn lw_tbl ((mj_cw.drop (12 * 5)).take 12) := mj_gr _ [759, 763, 768, 772, 777, 781, 785, 797, 801, 804, 821, 825] (by rfl) (by decide +kernel)
set_option maxRecDepth 100000 in
theorem mj_g_cw6 : GoodIn lw_tbl ((mj_cw.drop (12 * 6)).take 12) := mj_gr _ [829, 833, 837, 841, 846, 850, 854, 858, 862, 866, 870, 874] (by rfl) (by decide +kernel)
set_option maxRecDepth 100000 in
theorem mj_g_cw7 : GoodIn lw_tbl ((mj_cw.drop (12 * 7)).take 12) := mj_gr _ [878, 883, 887, 891, 895, 899, 903, 907, 911, 916, 921, 925] (by rfl) (by decide +kernel)
set_option maxRecDepth 100000 in
theorem mj_g_cw8 : GoodIn lw_tbl ((mj_cw.drop (12 * 8)).take 12) := mj_gr _ [929, 935, 940, 944, 948, 955, 959, 963, 967, 971, 976, 983] (by rfl) (by decide +kernel)
set_option maxRecDepth 100000 in
theorem mj_g_cw9 : GoodIn lw_tbl ((mj_cw.drop (12 * 9)).take 12) := mj_gr _ [987, 991, 995, 999, 1003, 1010, 1015, 1019, 1023, 1027, 1031, 1035] (by rfl) (by decide +kernel)
set_option maxRecDepth 100000 in
theorem mj_g_cw10 : GoodIn lw_tbl ((mj_cw.drop (12 * 10)).take 12) := mj_gr _ [1041, 1045, 1050, 1054, 1058, 1065, 1068, 1072, 1076, 1079, 1083, 1086] (by rfl) (by decide +kernel)
set_option maxRecDepth 100000 in
theorem mj_g_cw11 : GoodIn lw_tbl ((mj_cw.drop (12 * 11)).take 12) := mj_gr _ [1089, 1093, 1096, 1099, 1102, 1107, 1110, 1114, 1117, 1122, 1127, 1131] (by rfl) (by decide +kernel)
set_option maxRecDepth 100000 in
theorem mj_g_cw12 : GoodIn lw_tbl ((mj_cw.drop (12 * 12)).take 12) := mj_gr _ [1135, 1139, 1143, 1147, 1151, 1156, 1161, 1165, 1169, 1173, 1177, 1181] (by rfl) (by decide +kernel)
set_option maxRecDepth 100000 in
theorem mj_g_cw13 : GoodIn lw_tbl ((mj_cw.drop (12 * 13)).take 12) := mj_gr _ [1185, 1189, 1193, 1197, 1201, 1206, 1210, 1214, 1218, 1223, 1227, 1232] (by rfl) (by decide +kernel)
set_option maxRecDepth 100000 in
theorem mj_g_cw14 : GoodIn lw_tbl ((mj_cw.drop (12 * 14)).take 12) := mj_gr _ [1236, 1335, 1338, 1342, 1346, 1350, 1354, 1358, 1362, 1366, 1370, 1373] (by rfl) (by decide +kernel)
set_option maxRecDepth 100000 in
theorem mj_g_cw15 : GoodIn lw_tbl ((mj_cw.drop (12 * 15)).take 12) := mj_gr _ [1377, 1381, 1385, 1389, 1392, 1395, 1398, 1401, 1404, 1408, 1411, 1415] (by rfl) (by decide +kernel)
set_option maxRecDepth 100000 in
theorem mj_g_cw16 : GoodIn lw_tbl ((mj_cw.drop (12 * 16)).take 12) := mj_gr _ [1419, 1423, 1427, 1431, 1435, 1439, 1443, 1446, 1450, 1454, 1458, 1462] (by rfl) (by decide +kernel)
set_option maxRecDepth 100000 in
theorem mj_g_cw17 : GoodIn lw_tbl ((mj_cw.drop (12 * 17)).take 12) := mj_gr _ [1466, 1470, 1474, 1478, 1482, 1486, 1490, 1494, 1498, 1502, 1506, 1510] (by rfl) (by decide +kernel)
set_option maxRecDepth 100000 in
theorem mj_g_cw18 : GoodIn lw_tbl ((mj_cw.drop (12 * 18)).take 12) := mj_gr _ [1514, 1518, 1522, 1526, 1530, 1534, 1538, 1542, 1546, 1550, 1554, 1558] (by rfl) (by decide +kernel)
set_option maxRecDepth 100000 in
theorem mj_g_cw19 : GoodIn lw_tbl ((mj_cw.drop (12 * 19)).take 12) := mj_gr _ [1561, 1565, 1569, 1573, 1577, 1581, 1584, 1587, 1592, 1595, 1599, 1603] (by rfl) (by decide +kernel)
set_option maxRecDepth 100000 in
theorem mj_g_cw20 : GoodIn lw_tbl ((mj_cw.drop (12 * 20)).take 12) := mj_gr _ [1607, 1611, 1615, 1619, 1623, 1627, 1631, 1635, 1639, 1643, 1647, 1651] (by rfl) (by decide +kernel)
set_option maxRecDepth 100000 in
theorem mj_g_cw21 : GoodIn lw_tbl ((mj_cw.drop (12 * 21)).take 12) := mj_gr _ [1655, 1659, 1663, 1667, 1677, 1681, 1685, 1689, 1693, 1697, 1701, 1705] (by rfl) (by decide +kernel)
set_option maxRecDepth 100000 in
theorem mj_g_cw22 : GoodIn lw_tbl ((mj_cw.drop (12 * 22)).take 12) := mj_gr _ [1709, 1713, 1717, 1721, 1725, 1729, 1734, 1738, 1742, 1746, 1750, 1754] (by rfl) (by decide +kernel)
set_option maxRecDepth 100000 in
theorem mj_g_cw23 : GoodIn lw_tbl ((mj_cw.drop (12 * 23)).take 12) := mj_gr _ [1758, 1763, 1766, 1769, 1773, 1777, 1780, 1784, 1788, 1792, 1796, 1800] (by rfl) (by decide +kernel)
set_option maxRecDepth 100000 in
theorem mj_g_cw24 : GoodIn lw_tbl ((mj_cw.drop (12 * 24)).take 12) := mj_gr _ [1804, 1808, 1811, 1815, 1819, 1823, 1827, 1831, 1835, 1839, 1843, 1847] (by rfl) (by decide +kernel)
set_option maxRecDepth 100000 in
theorem mj_g_cw25 : GoodIn lw_tbl ((mj_cw.drop (12 * 25)).take 12) := mj_gr _ [1851, 1855, 1859, 1862, 1866, 1870, 1874, 1878, 1882, 1886, 1890, 1894] (by rfl) (by decide +kernel)
set_option maxRecDepth 100000 in
theorem mj_g_cw26 : GoodIn lw_tbl ((mj_cw.drop (12 * 26)).take 12) := mj_gr _ [1898, 1902] (by rfl) (by decide +kernel)
theorem mj_g_cws : ∀ k, k < 27 → GoodIn lw_tbl ((mj_cw.drop (12 * k)).take 12) := by
  intro k hk
  match k, hk with
  | 0, _ => exact mj_g_cw0
  | 1, _ => exact mj_g_cw1
  | 2, _ => exact mj_g_cw2
  | 3, _ => exact mj_g_cw3
  | 4, _ => exact mj_g_cw4
  | 5, _ => exact mj_g_cw5
  | 6, _ => exact mj_g_cw6
  | 7, _ => exact mj_g_cw7
  | 8, _ => exact mj_g_cw8
  | 9, _ => exact mj_g_cw9
  | 10, _ => exact mj_g_cw10
  | 11, _ => exact mj_g_cw11
  | 12, _ => exact mj_g_cw12
  | 13, _ => exact mj_g_cw13
  | 14, _ => exact mj_g_cw14
  | 15, _ => exact mj_g_cw15
  | 16, _ => exact mj_g_cw16
  | 17, _ => exact mj_g_cw17
  | 18, _ => exact mj_g_cw18
  | 19, _ => exact mj_g_cw19
  | 20, _ => exact mj_g_cw20
  | 21, _ => exact mj_g_cw21
  | 22, _ => exact mj_g_cw22
  | 23, _ => exact mj_g_cw23
  | 24, _ => exact mj_g_cw24
  | 25, _ => exact mj_g_cw25
  | 26, _ => exact mj_g_cw26
  | k + 27, h => omega
set_option maxRecDepth 100000 in
theorem mj_g_cw : GoodIn lw_tbl mj_cw := mj_gch (B := 12) (K := 27) (by decide) (by decide +kernel) mj_g_cws
