/-! the law's cases -/
theorem w_30 {V : mj_V} {b L i : Nat} {xs : Nat → Int32} (hV : vV V) (hs : V.2.2 b = some (L, xs)) (hb : b < V.1) (hL : L ≤ 3072) (hi : i + 6 ≤ L) : Wst V b i 30 := by
  intro I J ks sl hI
  obtain ⟨v, I1, J1, ks1, sl1, I2, J2, e1, e2, hI2⟩ := s_noisy V (xs (i + 1)) (xs (i + 2)) (xs (i + 3)) I J ks sl hI
  obtain ⟨x, rfl⟩ := ev_int m70 rfl e1
  refine ⟨I2, J2, ks1, sl1, ?_, hI2⟩
  simp only [r218_33c30, r218_1290, r218_1291, r218_1292, r218_1293, r218_1294, r218_1295, r218_1296, r218_1297, r218_1298, r218_1299, r218_1300, r218_1301, r218_1302, r218_1303, r218_1304, r218_1305, r218_1306, r218_1309, r218_1310, r218_1311, r218_1312, r218_1313, r218_1314, r218_1315, r218_1316, r218_1317, r218_1318, r218_1319, r218_1320, r218_1321, r218_1322, r218_1323, r218_1324, r218_1325, r218_1328, r218_1331, r218_1332, Option.bind_some, Option.toList_some, Option.toList_none, List.cons_append, List.nil_append, mj_rfs, mj_rfn, if_true, if_false, not_true_eq_false, not_false_eq_true, true_or, or_true, mj_b_0, mj_b_1, mj_b_01, Decidable.not_not, and_self, and_true, true_and, and_false, false_and, or_false, false_or, or_self, c0_cls, m51_cls, show nI i + 1 = nI (i + 1) from nI_add i 1, sc_l hs hb hL (show i + 1 < L by omega), show nI i + 2 = nI (i + 2) from nI_add i 2, sc_l hs hb hL (show i + 2 < L by omega), show nI i + 3 = nI (i + 3) from nI_add i 3, sc_l hs hb hL (show i + 3 < L by omega), e1, e2, eq_self, lgc_self]
theorem w_31 {V : mj_V} {b L i : Nat} {xs : Nat → Int32} (hV : vV V) (hs : V.2.2 b = some (L, xs)) (hb : b < V.1) (hL : L ≤ 3072) (hi : i + 6 ≤ L) : Wst V b i 31 := by
  intro I J ks sl hI
  obtain ⟨v, I1, J1, ks1, sl1, I2, J2, e1, e2, hI2⟩ := s_harm V (xs (i + 1)) (xs (i + 2)) (xs (i + 3)) (xs (i + 4)) I J ks sl hI
  obtain ⟨x, rfl⟩ := ev_int m71 rfl e1
  refine ⟨I2, J2, ks1, sl1, ?_, hI2⟩
  simp only [r218_33c31, r218_1333, r218_1334, r218_1335, r218_1336, r218_1337, r218_1338, r218_1339, r218_1340, r218_1341, r218_1342, r218_1343, r218_1344, r218_1345, r218_1346, r218_1347, r218_1348, r218_1349, r218_1350, r218_1351, r218_1352, r218_1353, r218_1354, r218_1357, r218_1358, r218_1359, r218_1360, r218_1361, r218_1362, r218_1363, r218_1364, r218_1365, r218_1366, r218_1367, r218_1368, r218_1369, r218_1370, r218_1371, r218_1372, r218_1373, r218_1374, r218_1375, r218_1376, r218_1377, r218_1378, r218_1381, r218_1384, r218_1385, Option.bind_some, Option.toList_some, Option.toList_none, List.cons_append, List.nil_append, mj_rfs, mj_rfn, if_true, if_false, not_true_eq_false, not_false_eq_true, true_or, or_true, mj_b_0, mj_b_1, mj_b_01, Decidable.not_not, and_self, and_true, true_and, and_false, false_and, or_false, false_or, or_self, c0_cls, m51_cls, show nI i + 1 = nI (i + 1) from nI_add i 1, sc_l hs hb hL (show i + 1 < L by omega), show nI i + 2 = nI (i + 2) from nI_add i 2, sc_l hs hb hL (show i + 2 < L by omega), show nI i + 3 = nI (i + 3) from nI_add i 3, sc_l hs hb hL (show i + 3 < L by omega), show nI i + 4 = nI (i + 4) from nI_add i 4, sc_l hs hb hL (show i + 4 < L by omega), e1, e2, eq_self, lgc_self]
theorem w_32 {V : mj_V} {b L i : Nat} {xs : Nat → Int32} (hV : vV V) (hs : V.2.2 b = some (L, xs)) (hb : b < V.1) (hL : L ≤ 3072) (hi : i + 6 ≤ L) : Wst V b i 32 := by
  intro I J ks sl hI
  obtain ⟨v, I1, J1, ks1, sl1, I2, J2, e1, e2, hI2⟩ := s_least V (xs (i + 1)) (xs (i + 2)) (xs (i + 3)) I J ks sl hI
  obtain ⟨x, rfl⟩ := ev_int m72 rfl e1
  refine ⟨I2, J2, ks1, sl1, ?_, hI2⟩
  simp only [r218_33c32, r218_1386, r218_1387, r218_1388, r218_1389, r218_1390, r218_1391, r218_1392, r218_1393, r218_1394, r218_1395, r218_1396, r218_1397, r218_1398, r218_1399, r218_1400, r218_1401, r218_1402, r218_1405, r218_1406, r218_1407, r218_1408, r218_1409, r218_1410, r218_1411, r218_1412, r218_1413, r218_1414, r218_1415, r218_1416, r218_1417, r218_1418, r218_1419, r218_1420, r218_1421, r218_1424, r218_1427, r218_1428, Option.bind_some, Option.toList_some, Option.toList_none, List.cons_append, List.nil_append, mj_rfs, mj_rfn, if_true, if_false, not_true_eq_false, not_false_eq_true, true_or, or_true, mj_b_0, mj_b_1, mj_b_01, Decidable.not_not, and_self, and_true, true_and, and_false, false_and, or_false, false_or, or_self, c0_cls, m51_cls, show nI i + 1 = nI (i + 1) from nI_add i 1, sc_l hs hb hL (show i + 1 < L by omega), show nI i + 2 = nI (i + 2) from nI_add i 2, sc_l hs hb hL (show i + 2 < L by omega), show nI i + 3 = nI (i + 3) from nI_add i 3, sc_l hs hb hL (show i + 3 < L by omega), e1, e2, eq_self, lgc_self]
theorem w_33 {V : mj_V} {b L i : Nat} {xs : Nat → Int32} (hV : vV V) (hs : V.2.2 b = some (L, xs)) (hb : b < V.1) (hL : L ≤ 3072) (hi : i + 6 ≤ L) : Wst V b i 33 := by
  intro I J ks sl hI
  obtain ⟨v, I1, J1, ks1, sl1, I2, J2, e1, e2, hI2⟩ := s_share V (xs (i + 1)) (xs (i + 2)) (xs (i + 3)) (xs (i + 4)) I J ks sl hI
  obtain ⟨x, rfl⟩ := ev_int m73 rfl e1
  refine ⟨I2, J2, ks1, sl1, ?_, hI2⟩
  simp only [r218_33c33, r218_1429, r218_1430, r218_1431, r218_1432, r218_1433, r218_1434, r218_1435, r218_1436, r218_1437, r218_1438, r218_1439, r218_1440, r218_1441, r218_1442, r218_1443, r218_1444, r218_1445, r218_1446, r218_1447, r218_1448, r218_1449, r218_1450, r218_1453, r218_1454, r218_1455, r218_1456, r218_1457, r218_1458, r218_1459, r218_1460, r218_1461, r218_1462, r218_1463, r218_1464, r218_1465, r218_1466, r218_1467, r218_1468, r218_1469, r218_1470, r218_1471, r218_1472, r218_1473, r218_1474, r218_1477, r218_1480, r218_1481, Option.bind_some, Option.toList_some, Option.toList_none, List.cons_append, List.nil_append, mj_rfs, mj_rfn, if_true, if_false, not_true_eq_false, not_false_eq_true, true_or, or_true, mj_b_0, mj_b_1, mj_b_01, Decidable.not_not, and_self, and_true, true_and, and_false, false_and, or_false, false_or, or_self, c0_cls, m51_cls, show nI i + 1 = nI (i + 1) from nI_add i 1, sc_l hs hb hL (show i + 1 < L by omega), show nI i + 2 = nI (i + 2) from nI_add i 2, sc_l hs hb hL (show i + 2 < L by omega), show nI i + 3 = nI (i + 3) from nI_add i 3, sc_l hs hb hL (show i + 3 < L by omega), show nI i + 4 = nI (i + 4) from nI_add i 4, sc_l hs hb hL (show i + 4 < L by omega), e1, e2, eq_self, lgc_self]
theorem w_34 {V : mj_V} {b L i : Nat} {xs : Nat → Int32} (hV : vV V) (hs : V.2.2 b = some (L, xs)) (hb : b < V.1) (hL : L ≤ 3072) (hi : i + 6 ≤ L) : Wst V b i 34 := by
  intro I J ks sl hI
  obtain ⟨v, I1, J1, ks1, sl1, I2, J2, e1, e2, hI2⟩ := s_askings V (xs (i + 1)) (xs (i + 2)) (xs (i + 3)) (xs (i + 4)) I J ks sl hI
  obtain ⟨x, rfl⟩ := ev_int m74 rfl e1
  refine ⟨I2, J2, ks1, sl1, ?_, hI2⟩
  simp only [r218_33c34, r218_1482, r218_1483, r218_1484, r218_1485, r218_1486, r218_1487, r218_1488, r218_1489, r218_1490, r218_1491, r218_1492, r218_1493, r218_1494, r218_1495, r218_1496, r218_1497, r218_1498, r218_1499, r218_1500, r218_1501, r218_1502, r218_1503, r218_1506, r218_1507, r218_1508, r218_1509, r218_1510, r218_1511, r218_1512, r218_1513, r218_1514, r218_1515, r218_1516, r218_1517, r218_1518, r218_1519, r218_1520, r218_1521, r218_1522, r218_1523, r218_1524, r218_1525, r218_1526, r218_1527, r218_1530, r218_1533, r218_1534, Option.bind_some, Option.toList_some, Option.toList_none, List.cons_append, List.nil_append, mj_rfs, mj_rfn, if_true, if_false, not_true_eq_false, not_false_eq_true, true_or, or_true, mj_b_0, mj_b_1, mj_b_01, Decidable.not_not, and_self, and_true, true_and, and_false, false_and, or_false, false_or, or_self, c0_cls, m51_cls, show nI i + 1 = nI (i + 1) from nI_add i 1, sc_l hs hb hL (show i + 1 < L by omega), show nI i + 2 = nI (i + 2) from nI_add i 2, sc_l hs hb hL (show i + 2 < L by omega), show nI i + 3 = nI (i + 3) from nI_add i 3, sc_l hs hb hL (show i + 3 < L by omega), show nI i + 4 = nI (i + 4) from nI_add i 4, sc_l hs hb hL (show i + 4 < L by omega), e1, e2, eq_self, lgc_self]
theorem w_35 {V : mj_V} {b L i : Nat} {xs : Nat → Int32} (hV : vV V) (hs : V.2.2 b = some (L, xs)) (hb : b < V.1) (hL : L ≤ 3072) (hi : i + 6 ≤ L) : Wst V b i 35 := by
  intro I J ks sl hI
  obtain ⟨v, I1, J1, ks1, sl1, I2, J2, e1, e2, hI2⟩ := s_writes V (xs (i + 1)) (xs (i + 2)) (xs (i + 3)) I J ks sl hI
  obtain ⟨x, rfl⟩ := ev_int m75 rfl e1
  refine ⟨I2, J2, ks1, sl1, ?_, hI2⟩
  simp only [r218_33c35, r218_1535, r218_1536, r218_1537, r218_1538, r218_1539, r218_1540, r218_1541, r218_1542, r218_1543, r218_1544, r218_1545, r218_1546, r218_1547, r218_1548, r218_1549, r218_1550, r218_1551, r218_1554, r218_1555, r218_1556, r218_1557, r218_1558, r218_1559, r218_1560, r218_1561, r218_1562, r218_1563, r218_1564, r218_1565, r218_1566, r218_1567, r218_1568, r218_1569, r218_1570, r218_1573, r218_1576, r218_1577, Option.bind_some, Option.toList_some, Option.toList_none, List.cons_append, List.nil_append, mj_rfs, mj_rfn, if_true, if_false, not_true_eq_false, not_false_eq_true, true_or, or_true, mj_b_0, mj_b_1, mj_b_01, Decidable.not_not, and_self, and_true, true_and, and_false, false_and, or_false, false_or, or_self, c0_cls, m51_cls, show nI i + 1 = nI (i + 1) from nI_add i 1, sc_l hs hb hL (show i + 1 < L by omega), show nI i + 2 = nI (i + 2) from nI_add i 2, sc_l hs hb hL (show i + 2 < L by omega), show nI i + 3 = nI (i + 3) from nI_add i 3, sc_l hs hb hL (show i + 3 < L by omega), e1, e2, eq_self, lgc_self]
theorem w_36 {V : mj_V} {b L i : Nat} {xs : Nat → Int32} (hV : vV V) (hs : V.2.2 b = some (L, xs)) (hb : b < V.1) (hL : L ≤ 3072) (hi : i + 6 ≤ L) : Wst V b i 36 := by
  intro I J ks sl hI
  obtain ⟨v, I1, J1, ks1, sl1, I2, J2, e1, e2, hI2⟩ := s_neither V (xs (i + 1)) (xs (i + 2)) I J ks sl hI
  obtain ⟨x, rfl⟩ := ev_int m76 rfl e1
  refine ⟨I2, J2, ks1, sl1, ?_, hI2⟩
  simp only [r218_33c36, r218_1578, r218_1579, r218_1580, r218_1581, r218_1582, r218_1583, r218_1584, r218_1585, r218_1586, r218_1587, r218_1588, r218_1589, r218_1592, r218_1593, r218_1594, r218_1595, r218_1596, r218_1597, r218_1598, r218_1599, r218_1600, r218_1601, r218_1602, r218_1603, r218_1606, r218_1609, r218_1610, Option.bind_some, Option.toList_some, Option.toList_none, List.cons_append, List.nil_append, mj_rfs, mj_rfn, if_true, if_false, not_true_eq_false, not_false_eq_true, true_or, or_true, mj_b_0, mj_b_1, mj_b_01, Decidable.not_not, and_self, and_true, true_and, and_false, false_and, or_false, false_or, or_self, c0_cls, m51_cls, show nI i + 1 = nI (i + 1) from nI_add i 1, sc_l hs hb hL (show i + 1 < L by omega), show nI i + 2 = nI (i + 2) from nI_add i 2, sc_l hs hb hL (show i + 2 < L by omega), e1, e2, eq_self, lgc_self]
theorem w_37 {V : mj_V} {b L i : Nat} {xs : Nat → Int32} (hV : vV V) (hs : V.2.2 b = some (L, xs)) (hb : b < V.1) (hL : L ≤ 3072) (hi : i + 6 ≤ L) : Wst V b i 37 := by
  intro I J ks sl hI
  obtain ⟨v, I1, J1, ks1, sl1, I2, J2, e1, e2, hI2⟩ := s_asked V  I J ks sl hI
  obtain ⟨x, rfl⟩ := ev_int m77 rfl e1
  refine ⟨I2, J2, ks1, sl1, ?_, hI2⟩
  simp only [r218_33c37, r218_1611, r218_1612, r218_1615, r218_1616, r218_1619, r218_1622, r218_1623, Option.bind_some, Option.toList_some, Option.toList_none, List.cons_append, List.nil_append, mj_rfs, mj_rfn, if_true, if_false, not_true_eq_false, not_false_eq_true, true_or, or_true, mj_b_0, mj_b_1, mj_b_01, Decidable.not_not, and_self, and_true, true_and, and_false, false_and, or_false, false_or, or_self, c0_cls, m51_cls, eq_self, e1, e2, eq_self, lgc_self]
theorem w_38 {V : mj_V} {b L i : Nat} {xs : Nat → Int32} (hV : vV V) (hs : V.2.2 b = some (L, xs)) (hb : b < V.1) (hL : L ≤ 3072) (hi : i + 6 ≤ L) : Wst V b i 38 := by
  intro I J ks sl hI
  obtain ⟨v, I1, J1, ks1, sl1, I2, J2, e1, e2, hI2⟩ := s_upper V  I J ks sl hI
  obtain ⟨x, rfl⟩ := ev_long m78 rfl e1
  refine ⟨I2, J2, ks1, sl1, ?_, hI2⟩
  simp only [r218_33c38, r218_1624, r218_1625, r218_1628, r218_1629, r218_1632, r218_1633, r218_1636, r218_1637, Option.bind_some, Option.toList_some, Option.toList_none, List.cons_append, List.nil_append, mj_rfs, mj_rfn, if_true, if_false, not_true_eq_false, not_false_eq_true, true_or, or_true, mj_b_0, mj_b_1, mj_b_01, Decidable.not_not, and_self, and_true, true_and, and_false, false_and, or_false, false_or, or_self, c0_cls, m51_cls, eq_self, e1, e2, eq_self, lgc_self]
theorem w_39 {V : mj_V} {b L i : Nat} {xs : Nat → Int32} (hV : vV V) (hs : V.2.2 b = some (L, xs)) (hb : b < V.1) (hL : L ≤ 3072) (hi : i + 6 ≤ L) : Wst V b i 39 := by
  intro I J ks sl hI
  obtain ⟨v, I1, J1, ks1, sl1, I2, J2, e1, e2, hI2⟩ := s_lower V  I J ks sl hI
  obtain ⟨x, rfl⟩ := ev_long m79 rfl e1
  refine ⟨I2, J2, ks1, sl1, ?_, hI2⟩
  simp only [r218_33c39, r218_1638, r218_1639, r218_1642, r218_1643, r218_1646, r218_1647, r218_1650, r218_1651, Option.bind_some, Option.toList_some, Option.toList_none, List.cons_append, List.nil_append, mj_rfs, mj_rfn, if_true, if_false, not_true_eq_false, not_false_eq_true, true_or, or_true, mj_b_0, mj_b_1, mj_b_01, Decidable.not_not, and_self, and_true, true_and, and_false, false_and, or_false, false_or, or_self, c0_cls, m51_cls, eq_self, e1, e2, eq_self, lgc_self]
theorem w_40 {V : mj_V} {b L i : Nat} {xs : Nat → Int32} (hV : vV V) (hs : V.2.2 b = some (L, xs)) (hb : b < V.1) (hL : L ≤ 3072) (hi : i + 6 ≤ L) : Wst V b i 40 := by
  intro I J ks sl hI
  obtain ⟨v, I1, J1, ks1, sl1, I2, J2, e1, e2, hI2⟩ := s_count V (xs (i + 1)) I J ks sl hI
  obtain ⟨x, rfl⟩ := ev_int m80 rfl e1
  refine ⟨I2, J2, ks1, sl1, ?_, hI2⟩
  simp only [r218_33c40, r218_1652, r218_1653, r218_1654, r218_1655, r218_1656, r218_1657, r218_1658, r218_1661, r218_1662, r218_1663, r218_1664, r218_1665, r218_1666, r218_1667, r218_1670, r218_1673, r218_1674, Option.bind_some, Option.toList_some, Option.toList_none, List.cons_append, List.nil_append, mj_rfs, mj_rfn, if_true, if_false, not_true_eq_false, not_false_eq_true, true_or, or_true, mj_b_0, mj_b_1, mj_b_01, Decidable.not_not, and_self, and_true, true_and, and_false, false_and, or_false, false_or, or_self, c0_cls, m51_cls, show nI i + 1 = nI (i + 1) from nI_add i 1, sc_l hs hb hL (show i + 1 < L by omega), e1, e2, eq_self, lgc_self]
theorem w_41 {V : mj_V} {b L i : Nat} {xs : Nat → Int32} (hV : vV V) (hs : V.2.2 b = some (L, xs)) (hb : b < V.1) (hL : L ≤ 3072) (hi : i + 6 ≤ L) : Wst V b i 41 := by
  intro I J ks sl hI
  obtain ⟨v, I1, J1, ks1, sl1, I2, J2, e1, e2, hI2⟩ := s_finding V  I J ks sl hI
  obtain ⟨x, rfl⟩ := ev_int m81 rfl e1
  refine ⟨I2, J2, ks1, sl1, ?_, hI2⟩
  simp only [r218_33c41, r218_1675, r218_1676, r218_1679, r218_1680, r218_1683, r218_1686, r218_1687, Option.bind_some, Option.toList_some, Option.toList_none, List.cons_append, List.nil_append, mj_rfs, mj_rfn, if_true, if_false, not_true_eq_false, not_false_eq_true, true_or, or_true, mj_b_0, mj_b_1, mj_b_01, Decidable.not_not, and_self, and_true, true_and, and_false, false_and, or_false, false_or, or_self, c0_cls, m51_cls, eq_self, e1, e2, eq_self, lgc_self]
theorem w_42 {V : mj_V} {b L i : Nat} {xs : Nat → Int32} (hV : vV V) (hs : V.2.2 b = some (L, xs)) (hb : b < V.1) (hL : L ≤ 3072) (hi : i + 6 ≤ L) : Wst V b i 42 := by
  intro I J ks sl hI
  obtain ⟨v, I1, J1, ks1, sl1, I2, J2, e1, e2, hI2⟩ := s_findings V (xs (i + 1)) I J ks sl hI
  obtain ⟨x, rfl⟩ := ev_int m82 rfl e1
  refine ⟨I2, J2, ks1, sl1, ?_, hI2⟩
  simp only [r218_33c42, r218_1688, r218_1689, r218_1690, r218_1691, r218_1692, r218_1693, r218_1694, r218_1697, r218_1698, r218_1699, r218_1700, r218_1701, r218_1702, r218_1703, r218_1706, r218_1709, r218_1710, Option.bind_some, Option.toList_some, Option.toList_none, List.cons_append, List.nil_append, mj_rfs, mj_rfn, if_true, if_false, not_true_eq_false, not_false_eq_true, true_or, or_true, mj_b_0, mj_b_1, mj_b_01, Decidable.not_not, and_self, and_true, true_and, and_false, false_and, or_false, false_or, or_self, c0_cls, m51_cls, show nI i + 1 = nI (i + 1) from nI_add i 1, sc_l hs hb hL (show i + 1 < L by omega), e1, e2, eq_self, lgc_self]
theorem w_43 {V : mj_V} {b L i : Nat} {xs : Nat → Int32} (hV : vV V) (hs : V.2.2 b = some (L, xs)) (hb : b < V.1) (hL : L ≤ 3072) (hi : i + 6 ≤ L) : Wst V b i 43 := by
  intro I J ks sl hI
  obtain ⟨v, I1, J1, ks1, sl1, I2, J2, e1, e2, hI2⟩ := s_digest V  I J ks sl hI
  obtain ⟨x, rfl⟩ := ev_long m83 rfl e1
  refine ⟨I2, J2, ks1, sl1, ?_, hI2⟩
  simp only [r218_33c43, r218_1711, r218_1712, r218_1715, r218_1716, r218_1719, r218_1720, r218_1723, r218_1724, Option.bind_some, Option.toList_some, Option.toList_none, List.cons_append, List.nil_append, mj_rfs, mj_rfn, if_true, if_false, not_true_eq_false, not_false_eq_true, true_or, or_true, mj_b_0, mj_b_1, mj_b_01, Decidable.not_not, and_self, and_true, true_and, and_false, false_and, or_false, false_or, or_self, c0_cls, m51_cls, eq_self, e1, e2, eq_self, lgc_self]
