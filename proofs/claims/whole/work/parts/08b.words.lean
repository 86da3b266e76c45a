/-! ===== the links stand in the tables (printed by wip/whole/gencheck.py) ===== -/
set_option maxRecDepth 100000 in
theorem j_FL_0 : j_zip (fun p q => j_hw p (j_wFL q)) ((j_FLp.drop 0).take 40) ((j_FL.drop 0).take 40) = true := by decide +kernel
set_option maxRecDepth 100000 in
theorem j_FL_40 : j_zip (fun p q => j_hw p (j_wFL q)) ((j_FLp.drop 40).take 40) ((j_FL.drop 40).take 40) = true := by decide +kernel
set_option maxRecDepth 100000 in
theorem j_FL_80 : j_zip (fun p q => j_hw p (j_wFL q)) ((j_FLp.drop 80).take 40) ((j_FL.drop 80).take 40) = true := by decide +kernel
set_option maxRecDepth 100000 in
theorem j_FL_120 : j_zip (fun p q => j_hw p (j_wFL q)) ((j_FLp.drop 120).take 40) ((j_FL.drop 120).take 40) = true := by decide +kernel
set_option maxRecDepth 100000 in
theorem j_FL_160 : j_zip (fun p q => j_hw p (j_wFL q)) ((j_FLp.drop 160).take 35) ((j_FL.drop 160).take 35) = true := by decide +kernel
set_option maxRecDepth 100000 in
theorem j_ML_0 : j_zip (fun p q => bif Nat.beq q.2.2.2 0 then j_hw p (j_wML q) else j_hn p (j_wML q)) ((j_MLp.drop 0).take 40) ((j_ML.drop 0).take 40) = true := by decide +kernel
set_option maxRecDepth 100000 in
theorem j_ML_40 : j_zip (fun p q => bif Nat.beq q.2.2.2 0 then j_hw p (j_wML q) else j_hn p (j_wML q)) ((j_MLp.drop 40).take 40) ((j_ML.drop 40).take 40) = true := by decide +kernel
set_option maxRecDepth 100000 in
theorem j_ML_80 : j_zip (fun p q => bif Nat.beq q.2.2.2 0 then j_hw p (j_wML q) else j_hn p (j_wML q)) ((j_MLp.drop 80).take 40) ((j_ML.drop 80).take 40) = true := by decide +kernel
set_option maxRecDepth 100000 in
theorem j_ML_120 : j_zip (fun p q => bif Nat.beq q.2.2.2 0 then j_hw p (j_wML q) else j_hn p (j_wML q)) ((j_MLp.drop 120).take 40) ((j_ML.drop 120).take 40) = true := by decide +kernel
set_option maxRecDepth 100000 in
theorem j_ML_160 : j_zip (fun p q => bif Nat.beq q.2.2.2 0 then j_hw p (j_wML q) else j_hn p (j_wML q)) ((j_MLp.drop 160).take 30) ((j_ML.drop 160).take 30) = true := by decide +kernel
set_option maxRecDepth 100000 in
theorem j_CL_0 : j_zip (fun p q => j_hw p (j_wCL q)) ((j_CLp.drop 0).take 10) ((j_CL.drop 0).take 10) = true := by decide +kernel
set_option maxRecDepth 100000 in
theorem j_KI_0 : j_zip (fun p q => j_hw p (j_wKI q)) ((j_KIp.drop 0).take 5) ((j_KI.drop 0).take 5) = true := by decide +kernel
set_option maxRecDepth 100000 in
theorem j_KL_0 : j_zip (fun p q => j_hw p (j_wKL q)) ((j_KLp.drop 0).take 18) ((j_KL.drop 0).take 18) = true := by decide +kernel
set_option maxRecDepth 100000 in
theorem j_NL_0 : j_zip (fun p q => j_hw p (j_wNL q)) ((j_NLp.drop 0).take 12) ((j_NL.drop 0).take 12) = true := by decide +kernel
set_option maxRecDepth 100000 in
theorem j_OL_0 : j_zip (fun p q => j_hw p (j_wOL q)) ((j_OLp.drop 0).take 12) ((j_OL.drop 0).take 12) = true := by decide +kernel
set_option maxRecDepth 100000 in
theorem j_SL_0 : j_zip (fun p q => j_hw p (j_wSL q)) ((j_SLp.drop 0).take 2) ((j_SL.drop 0).take 2) = true := by decide +kernel
def j_mps : List (List Nat) := [[418, 94, 417], [1035, 94, 1033, 1034], [1117, 94, 1115, 1116], [1023, 94, 1021, 1022], [1120, 94, 1119], [1059, 94, 1057, 1058], [1031, 94, 1029, 1030], [1039, 94, 1038, 37], [1043, 94, 1042, 38], [1051, 94, 1050, 39], [366, 92, 365], [561, 92, 559, 560], [565, 92, 564, 1], [1006, 92, 1004, 1005], [1015, 92, 1013, 1014], [112, 86, 111], [548, 86, 546, 547], [508, 86, 506, 507], [544, 86, 542, 543], [553, 86, 551, 552], [557, 86, 555, 556], [192, 87, 191], [580, 87, 578, 579], [917, 87, 915, 916], [585, 87, 583, 584], [589, 87, 587, 588], [602, 87, 600, 601], [606, 87, 604, 605], [610, 87, 609, 4], [614, 87, 613, 5], [618, 87, 617, 6], [932, 87, 930, 931], [296, 90, 295], [633, 90, 631, 632], [641, 90, 639, 640], [645, 90, 644, 7], [649, 90, 648, 8], [653, 90, 652, 9], [657, 90, 656, 10], [661, 90, 660, 11], [665, 90, 664, 12], [707, 90, 706, 21], [669, 90, 668, 13], [703, 90, 702, 20], [673, 90, 672, 14], [687, 90, 686, 16], [677, 90, 676, 15], [683, 90, 682], [680, 90, 679], [699, 90, 698, 19], [695, 90, 694, 18], [691, 90, 690, 17], [871, 90, 869, 870], [899, 90, 898], [875, 90, 874, 30], [890, 90, 889, 33], [886, 90, 885, 32], [879, 90, 878, 31], [882, 90, 881], [896, 90, 895], [893, 90, 892], [269, 89, 268], [834, 89, 832, 833], [826, 89, 824, 825], [838, 89, 836, 837], [846, 89, 844, 845], [851, 89, 850, 28], [862, 89, 861, 29], [855, 89, 853, 854], [240, 88, 239], [725, 88, 724, 23], [716, 88, 714, 715], [770, 88, 769, 25], [766, 88, 764, 765], [721, 88, 720, 22], [782, 88, 781, 26], [778, 88, 776, 777], [787, 88, 785, 786], [794, 88, 793, 27], [804, 88, 802, 803], [813, 88, 811, 812], [817, 88, 815, 816], [745, 88, 743, 744], [736, 88, 734, 735], [741, 88, 740, 24], [757, 88, 755, 756], [337, 91, 336], [926, 91, 924, 925], [940, 91, 938, 939], [955, 91, 953, 954], [964, 91, 962, 963], [973, 91, 971, 972], [977, 91, 976, 36], [392, 93, 391], [986, 93, 984, 985], [995, 93, 993, 994], [443, 95, 442], [519, 95, 517, 518], [1107, 95, 1105, 1106], [523, 95, 521, 522], [1068, 95, 1066, 1067], [1076, 95, 1074, 1075], [536, 95, 534, 535], [1087, 95, 1085, 1086], [532, 95, 530, 531], [1091, 95, 1089, 1090], [1095, 95, 1094, 40], [104, 85, 103], [501, 85, 499, 500], [512, 85, 510, 511], [540, 85, 538, 539], [572, 85, 570, 571], [625, 85, 623, 624], [629, 85, 627, 628], [637, 85, 635, 636], [712, 85, 710, 711], [731, 85, 729, 730], [753, 85, 751, 752], [762, 85, 760, 761], [774, 85, 772, 773], [800, 85, 798, 799], [809, 85, 807, 808], [822, 85, 820, 821], [830, 85, 828, 829], [842, 85, 840, 841], [867, 85, 865, 866], [905, 85, 903, 904], [913, 85, 911, 912], [922, 85, 920, 921], [936, 85, 934, 935], [947, 85, 945, 946], [960, 85, 958, 959], [969, 85, 967, 968], [982, 85, 980, 981], [991, 85, 989, 990], [1002, 85, 1000, 1001], [1011, 85, 1009, 1010], [1019, 85, 1017, 1018], [1027, 85, 1025, 1026], [1055, 85, 1053, 1054], [1063, 85, 1061, 1062], [1072, 85, 1070, 1071], [1083, 85, 1081, 1082], [1099, 85, 1097, 1098], [1103, 85, 1101, 1102], [1113, 85, 1111, 1112], [1124, 85, 1122, 1123], [504, 85, 503], [515, 85, 514], [528, 85, 527, 0], [598, 85, 597, 3], [576, 85, 575, 2], [909, 85, 908, 34], [951, 85, 950, 35], [749, 85, 748], [1288, 96, 1287], [1129, 96, 1128], [1309, 96, 1308, 42], [1276, 96, 1274, 1275], [1280, 96, 1278, 1279], [1305, 96, 1304, 41], [1284, 96, 1282, 1283], [1292, 96, 1290, 1291], [1301, 96, 1299, 1300], [1320, 96, 1319, 43], [1316, 96, 1314, 1315], [1361, 96, 1359, 1360], [1328, 96, 1327, 45], [1340, 96, 1339, 48], [1344, 96, 1343, 49], [1348, 96, 1347, 50], [1352, 96, 1351, 51], [1336, 96, 1335, 47], [1332, 96, 1331, 46], [1356, 96, 1355, 52], [1324, 96, 1323, 44], [1374, 96, 1373, 54], [1370, 96, 1369, 53], [1366, 96, 1364, 1365], [1393, 96, 1392], [1390, 96, 1389], [1383, 96, 1382, 55], [1387, 96, 1386, 56], [1378, 96, 1376, 1377], [1397, 96, 1395, 1396], [1409, 96, 1408, 58], [1405, 96, 1404, 57], [1401, 96, 1399, 1400], [1417, 96, 1416, 59], [1413, 96, 1411, 1412], [1421, 96, 1419, 1420], [1425, 96, 1423, 1424], [1430, 96, 1428, 1429], [1434, 96, 1432, 1433], [1447, 96, 1446, 61], [1443, 96, 1442, 60], [1438, 96, 1436, 1437], [1451, 96, 1449, 1450], [1488, 96, 1487, 69], [1492, 96, 1491, 70], [1496, 96, 1495, 71], [1464, 96, 1463, 63], [1468, 96, 1467, 64], [1472, 96, 1471, 65], [1476, 96, 1475, 66], [1480, 96, 1479, 67], [1499, 96, 1498], [1484, 96, 1483, 68], [1460, 96, 1459, 62], [1456, 96, 1454, 1455], [1507, 96, 1506, 72], [1503, 96, 1501, 1502], [1515, 96, 1514, 73], [1511, 96, 1509, 1510], [1519, 96, 1517, 1518], [1523, 96, 1521, 1522], [1527, 96, 1525, 1526], [1537, 96, 1536, 74], [1541, 96, 1540, 75], [1533, 96, 1531, 1532], [1545, 96, 1543, 1544], [1549, 96, 1547, 1548], [1553, 96, 1551, 1552], [1557, 96, 1555, 1556], [1570, 96, 1569, 76], [1629, 96, 1628, 83], [1561, 96, 1559, 1560], [1632, 96, 1631], [1578, 96, 1577, 78], [1574, 96, 1573, 77], [1582, 96, 1581, 79], [1586, 96, 1585, 80], [1590, 96, 1589, 81], [1566, 96, 1564, 1565], [1594, 96, 1592, 1593], [1295, 96, 1294], [1598, 96, 1596, 1597], [1602, 96, 1600, 1601], [1610, 96, 1609, 82], [1613, 96, 1612], [1606, 96, 1604, 1605], [1617, 96, 1615, 1616], [1621, 96, 1619, 1620], [1625, 96, 1623, 1624], [1636, 96, 1634, 1635], [1079, 99, 1078], [998, 99, 997]]
def j_mp : List (List Nat) → Nat → List Nat
  | [], _ => []
  | x :: _, 0 => x
  | _ :: r, k + 1 => j_mp r k
set_option maxRecDepth 100000 in
theorem j_mok_0 : ∀ i, i < 20 → j_mok (j_info (0 + i)) (j_mp j_mps (0 + i)) = true := by decide +kernel
set_option maxRecDepth 100000 in
theorem j_mok_20 : ∀ i, i < 20 → j_mok (j_info (20 + i)) (j_mp j_mps (20 + i)) = true := by decide +kernel
set_option maxRecDepth 100000 in
theorem j_mok_40 : ∀ i, i < 20 → j_mok (j_info (40 + i)) (j_mp j_mps (40 + i)) = true := by decide +kernel
set_option maxRecDepth 100000 in
theorem j_mok_60 : ∀ i, i < 20 → j_mok (j_info (60 + i)) (j_mp j_mps (60 + i)) = true := by decide +kernel
set_option maxRecDepth 100000 in
theorem j_mok_80 : ∀ i, i < 20 → j_mok (j_info (80 + i)) (j_mp j_mps (80 + i)) = true := by decide +kernel
set_option maxRecDepth 100000 in
theorem j_mok_100 : ∀ i, i < 20 → j_mok (j_info (100 + i)) (j_mp j_mps (100 + i)) = true := by decide +kernel
set_option maxRecDepth 100000 in
theorem j_mok_120 : ∀ i, i < 20 → j_mok (j_info (120 + i)) (j_mp j_mps (120 + i)) = true := by decide +kernel
set_option maxRecDepth 100000 in
theorem j_mok_140 : ∀ i, i < 20 → j_mok (j_info (140 + i)) (j_mp j_mps (140 + i)) = true := by decide +kernel
set_option maxRecDepth 100000 in
theorem j_mok_160 : ∀ i, i < 20 → j_mok (j_info (160 + i)) (j_mp j_mps (160 + i)) = true := by decide +kernel
set_option maxRecDepth 100000 in
theorem j_mok_180 : ∀ i, i < 20 → j_mok (j_info (180 + i)) (j_mp j_mps (180 + i)) = true := by decide +kernel
set_option maxRecDepth 100000 in
theorem j_mok_200 : ∀ i, i < 20 → j_mok (j_info (200 + i)) (j_mp j_mps (200 + i)) = true := by decide +kernel
set_option maxRecDepth 100000 in
theorem j_mok_220 : ∀ i, i < 20 → j_mok (j_info (220 + i)) (j_mp j_mps (220 + i)) = true := by decide +kernel
set_option maxRecDepth 100000 in
theorem j_mok_240 : ∀ i, i < 7 → j_mok (j_info (240 + i)) (j_mp j_mps (240 + i)) = true := by decide +kernel
theorem j_mok_all (i : Nat) (h : i < j_cnt) : j_mok (j_info i) (j_mp j_mps i) = true := by
  have h : i < 247 := h
  rcases Nat.lt_or_ge i 20 with h20 | h20
  · have e := j_mok_0 (i - 0) (by omega)
    rwa [show 0 + (i - 0) = i by omega] at e
  rcases Nat.lt_or_ge i 40 with h40 | h40
  · have e := j_mok_20 (i - 20) (by omega)
    rwa [show 20 + (i - 20) = i by omega] at e
  rcases Nat.lt_or_ge i 60 with h60 | h60
  · have e := j_mok_40 (i - 40) (by omega)
    rwa [show 40 + (i - 40) = i by omega] at e
  rcases Nat.lt_or_ge i 80 with h80 | h80
  · have e := j_mok_60 (i - 60) (by omega)
    rwa [show 60 + (i - 60) = i by omega] at e
  rcases Nat.lt_or_ge i 100 with h100 | h100
  · have e := j_mok_80 (i - 80) (by omega)
    rwa [show 80 + (i - 80) = i by omega] at e
  rcases Nat.lt_or_ge i 120 with h120 | h120
  · have e := j_mok_100 (i - 100) (by omega)
    rwa [show 100 + (i - 100) = i by omega] at e
  rcases Nat.lt_or_ge i 140 with h140 | h140
  · have e := j_mok_120 (i - 120) (by omega)
    rwa [show 120 + (i - 120) = i by omega] at e
  rcases Nat.lt_or_ge i 160 with h160 | h160
  · have e := j_mok_140 (i - 140) (by omega)
    rwa [show 140 + (i - 140) = i by omega] at e
  rcases Nat.lt_or_ge i 180 with h180 | h180
  · have e := j_mok_160 (i - 160) (by omega)
    rwa [show 160 + (i - 160) = i by omega] at e
  rcases Nat.lt_or_ge i 200 with h200 | h200
  · have e := j_mok_180 (i - 180) (by omega)
    rwa [show 180 + (i - 180) = i by omega] at e
  rcases Nat.lt_or_ge i 220 with h220 | h220
  · have e := j_mok_200 (i - 200) (by omega)
    rwa [show 200 + (i - 200) = i by omega] at e
  rcases Nat.lt_or_ge i 240 with h240 | h240
  · have e := j_mok_220 (i - 220) (by omega)
    rwa [show 220 + (i - 220) = i by omega] at e
  rcases Nat.lt_or_ge i 247 with h247 | h247
  · have e := j_mok_240 (i - 240) (by omega)
    rwa [show 240 + (i - 240) = i by omega] at e
  omega
set_option maxRecDepth 100000 in
theorem j_Tcls : ∀ a, a < 12 → ∀ b, b < j_Nf a → (j_T a b).1 = j_cn a := by decide +kernel
