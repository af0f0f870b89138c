/-! ===== the Statement's premises, by their places (printed by program: gen6.py) ===== -/
def jw_nl : List Cond := flatC (Jvm.Cond.and given_1 narrow_1)
def jw_pre (args : Array Value) (s : State) : Prop := ∀ c ∈ jw_nl, c.before args s = true
theorem jw_pre.at {args : Array Value} {s : State} (h : jw_pre args s) (i : Nat) {c : Cond} (hc : jw_nl[i]? = some c) : c.before args s = true := h c (List.mem_of_getElem? hc)
def jw_sr : List (String × Nat) := [("PickDesk$Value", 32), ("java/util/Arrays", 48), ("java/util/Arrays", 57), ("java/util/Arrays", 59), ("java/util/Arrays", 337), ("PickDesk$Words", 152), ("PickDesk$Words", 153), ("PickDesk$Words", 155), ("PickDesk$Words", 156), ("PickDesk$Words", 157), ("PickDesk$Words", 159), ("PickDesk$Word", 82), ("PickDesk$Word", 88), ("PickDesk$Word", 91), ("PickDesk$Word", 94), ("PickDesk$Word", 70), ("PickDesk$Word", 76), ("PickDesk$Word", 79), ("PickDesk$Word", 85), ("PickDesk$Word", 97)]
def jw_tm (i : Nat) : Term := .string (jw_sr.getD i ("", 0)).1 (jw_sr.getD i ("", 0)).2
def jw_len (i : Nat) : Nat := (jw_txL.getD i []).length
def jw_ixS : List (List Nat) := [[372, 376, 391, 409, 417, 458, 474, 492, 512, 531, 551, 574, 596, 618, 641, 665, 693, 720, 750, 782], [373, 377, 392, 410, 418, 459, 475, 493, 513, 532, 552, 575, 597, 619, 642, 666, 694, 721, 751, 783], [374, 378, 393, 411, 419, 460, 476, 494, 514, 533, 553, 576, 598, 620, 643, 667, 695, 722, 752, 784], [375, 379, 394, 412, 420, 461, 477, 495, 515, 534, 554, 577, 599, 621, 644, 668, 696, 723, 753, 785]]
def jw_ixE : List (List Nat) := [[], [380, 381, 382, 383, 384, 385, 386, 387, 388, 389], [395, 396, 397, 398, 399, 400, 401, 402, 403, 404, 405, 406], [413], [421, 422, 423], [462, 463, 464, 465], [478, 479, 480, 481, 482], [496, 497, 498, 499, 500, 501], [516, 517, 518, 519], [535, 536, 537, 538], [555, 556, 557, 558, 559, 560], [578, 579, 580, 581], [600, 601, 602], [622, 623, 624], [645, 646, 647], [669, 670, 671, 672, 673, 674], [697, 698, 699, 700], [724, 725, 726, 727, 728, 729], [754, 755, 756, 757, 758, 759, 760], [786, 787, 788, 789]]
def jw_ixN : List (List Nat) := [[0, 780, 814, 828, 848, 932, 966, 1004, 1040, 1078, 1122, 1164, 1206, 1250, 1296, 1350, 1402, 1460, 1522, 1580], [781, 0, 816, 830, 850, 934, 968, 1006, 1042, 1080, 1124, 1166, 1208, 1252, 1298, 1352, 1404, 1462, 1524, 1582], [815, 817, 0, 832, 852, 936, 970, 1008, 1044, 1082, 1126, 1168, 1210, 1254, 1300, 1354, 1406, 1464, 1526, 1584], [829, 831, 833, 0, 854, 938, 972, 1010, 1046, 1084, 1128, 1170, 1212, 1256, 1302, 1356, 1408, 1466, 1528, 1586], [849, 851, 853, 855, 0, 940, 974, 1012, 1048, 1086, 1130, 1172, 1214, 1258, 1304, 1358, 1410, 1468, 1530, 1588], [933, 935, 937, 939, 941, 0, 982, 1020, 1056, 1094, 1138, 1180, 1222, 1266, 1312, 1366, 1418, 1476, 1538, 1596], [967, 969, 971, 973, 975, 983, 0, 1022, 1058, 1096, 1140, 1182, 1224, 1268, 1314, 1368, 1420, 1478, 1540, 1598], [1005, 1007, 1009, 1011, 1013, 1021, 1023, 0, 1060, 1098, 1142, 1184, 1226, 1270, 1316, 1370, 1422, 1480, 1542, 1600], [1041, 1043, 1045, 1047, 1049, 1057, 1059, 1061, 0, 1100, 1144, 1186, 1228, 1272, 1318, 1372, 1424, 1482, 1544, 1602], [1079, 1081, 1083, 1085, 1087, 1095, 1097, 1099, 1101, 0, 1146, 1188, 1230, 1274, 1320, 1374, 1426, 1484, 1546, 1604], [1123, 1125, 1127, 1129, 1131, 1139, 1141, 1143, 1145, 1147, 0, 1190, 1232, 1276, 1322, 1376, 1428, 1486, 1548, 1606], [1165, 1167, 1169, 1171, 1173, 1181, 1183, 1185, 1187, 1189, 1191, 0, 1234, 1278, 1324, 1378, 1430, 1488, 1550, 1608], [1207, 1209, 1211, 1213, 1215, 1223, 1225, 1227, 1229, 1231, 1233, 1235, 0, 1280, 1326, 1380, 1432, 1490, 1552, 1610], [1251, 1253, 1255, 1257, 1259, 1267, 1269, 1271, 1273, 1275, 1277, 1279, 1281, 0, 1328, 1382, 1434, 1492, 1554, 1612], [1297, 1299, 1301, 1303, 1305, 1313, 1315, 1317, 1319, 1321, 1323, 1325, 1327, 1329, 0, 1384, 1436, 1494, 1556, 1614], [1351, 1353, 1355, 1357, 1359, 1367, 1369, 1371, 1373, 1375, 1377, 1379, 1381, 1383, 1385, 0, 1438, 1496, 1558, 1616], [1403, 1405, 1407, 1409, 1411, 1419, 1421, 1423, 1425, 1427, 1429, 1431, 1433, 1435, 1437, 1439, 0, 1498, 1560, 1618], [1461, 1463, 1465, 1467, 1469, 1477, 1479, 1481, 1483, 1485, 1487, 1489, 1491, 1493, 1495, 1497, 1499, 0, 1562, 1620], [1523, 1525, 1527, 1529, 1531, 1539, 1541, 1543, 1545, 1547, 1549, 1551, 1553, 1555, 1557, 1559, 1561, 1563, 0, 1622], [1581, 1583, 1585, 1587, 1589, 1597, 1599, 1601, 1603, 1605, 1607, 1609, 1611, 1613, 1615, 1617, 1619, 1621, 1623, 0]]
def jw_pair (l : List (List Nat)) (i j : Nat) : Nat := (l.getD i []).getD j 0
set_option maxRecDepth 100000 in
theorem jw_s1 : ∀ i, i < 20 → jw_nl[jw_pair jw_ixS 0 i]? = some (.exactly (jw_tm i) "java/lang/String") := by decide +kernel
set_option maxRecDepth 100000 in
theorem jw_s2 : ∀ i, i < 20 → jw_nl[jw_pair jw_ixS 1 i]? = some (.eq (.field (jw_tm i) "java/lang/String" "coder" "B") (.int 0)) := by decide +kernel
set_option maxRecDepth 100000 in
theorem jw_s3 : ∀ i, i < 20 → jw_nl[jw_pair jw_ixS 2 i]? = some (.arrayOf (.field (jw_tm i) "java/lang/String" "value" "[B") .byte) := by decide +kernel
set_option maxRecDepth 100000 in
theorem jw_s4 : ∀ i, i < 20 → jw_nl[jw_pair jw_ixS 3 i]? = some (.eq (.length (.field (jw_tm i) "java/lang/String" "value" "[B")) (.int (Int32.ofNat (jw_len i)))) := by decide +kernel
set_option maxRecDepth 100000 in
theorem jw_s5 : ∀ i, i < 20 → ∀ j, j < jw_len i → jw_nl[jw_pair jw_ixE i j]? = some (.eq (.elem (.field (jw_tm i) "java/lang/String" "value" "[B") (.int (Int32.ofNat j))) (.int ((jw_txL.getD i []).getD j 0))) := by decide +kernel
set_option maxRecDepth 100000 in
theorem jw_s6 : ∀ i, i < 20 → ∀ j, j < 20 → i ≠ j → jw_nl[jw_pair jw_ixN i j / 2]? = some (if jw_pair jw_ixN i j % 2 = 0 then .not (.eq (jw_tm i) (jw_tm j)) else .not (.eq (jw_tm j) (jw_tm i))) := by decide +kernel
def jw_wn : List String := ["LENGTH", "KEYS", "VALUES", "SORT", "REVERSE", "SUM", "MAX", "MIN", "TYPE"]
def jw_wt (i : Nat) : Term := .static "PickDesk$Word" (jw_wn.getD i "") "LPickDesk$Word;"
def jw_ixW : List (List Nat) := [[269, 277, 286, 235, 296, 239, 244, 250, 307], [270, 278, 287, 236, 297, 240, 245, 251, 308], [272, 280, 289, 238, 299, 242, 247, 253, 310], [271, 279, 288, 237, 298, 241, 246, 252, 309], [1714, 1715, 1716, 832, 1717, 1100, 1116, 1118, 1718]]
def jw_ixM : List (List Nat) := [[0, 570, 588, 547, 608, 549, 551, 553, 630], [571, 0, 590, 563, 610, 565, 567, 569, 632], [589, 591, 0, 581, 612, 583, 585, 587, 634], [546, 562, 580, 0, 600, 486, 496, 508, 622], [609, 611, 613, 601, 0, 603, 605, 607, 636], [548, 564, 582, 487, 602, 0, 498, 510, 624], [550, 566, 584, 497, 604, 499, 0, 512, 626], [552, 568, 586, 509, 606, 511, 513, 0, 628], [631, 633, 635, 623, 637, 625, 627, 629, 0]]
set_option maxRecDepth 100000 in
theorem jw_w1 : ∀ i, i < 9 → jw_nl[jw_pair jw_ixW 0 i]? = some (.exactly (jw_wt i) "PickDesk$Word") := by decide +kernel
set_option maxRecDepth 100000 in
theorem jw_w2 : ∀ i, i < 9 → jw_nl[jw_pair jw_ixW 1 i]? = some (.eq (.field (jw_wt i) "java/lang/Enum" "ordinal" "I") (.int (Int32.ofNat i))) := by decide +kernel
set_option maxRecDepth 100000 in
theorem jw_w3 : ∀ i, i < 9 → jw_nl[jw_pair jw_ixW 2 i]? = some (.eq (.field (jw_wt i) "PickDesk$Word" "takes" "I") (.int (jw_taL.getD i 0))) := by decide +kernel
set_option maxRecDepth 100000 in
theorem jw_w4 : ∀ i, i < 9 → jw_nl[jw_pair jw_ixW 3 i]? = some (.eq (.field (jw_wt i) "PickDesk$Word" "spelling" "Ljava/lang/String;") (jw_tm (jw_spL.getD i 0 - 9))) := by decide +kernel
set_option maxRecDepth 100000 in
theorem jw_w5 : ∀ i, i < 9 → tables_1[jw_pair jw_ixW 4 i]? = some (.laysStatic "PickDesk$Word" (jw_wn.getD i "") "LPickDesk$Word;") := by decide +kernel
set_option maxRecDepth 100000 in
theorem jw_w6 : ∀ i, i < 9 → ∀ j, j < 9 → i ≠ j → jw_nl[jw_pair jw_ixM i j / 2]? = some (if jw_pair jw_ixM i j % 2 = 0 then .not (.eq (jw_wt i) (jw_wt j)) else .not (.eq (jw_wt j) (jw_wt i))) := by decide +kernel
def jw_ixC : List Nat := [337, 354, 319, 343, 360, 325, 348, 365, 330, 341, 358, 323, 353, 370, 335, 350, 367, 332, 352, 369, 334, 338, 355, 320, 342, 359, 324, 340, 357, 322, 351, 368, 333, 344, 361, 326, 345, 362, 327, 363, 328, 346, 329, 336, 347, 364, 339, 356, 321, 349, 366, 331]
set_option maxRecDepth 100000 in
theorem jw_n1 : ∀ i, i < 52 → jw_nl[jw_ixC.getD i 0]? = some (.not (.castable (jw_ncL.getD i ("", "")).1 (jw_ncL.getD i ("", "")).2)) := by decide +kernel
def jw_tD1 : Term := (Jvm.Term.static "java/lang/Integer" "DigitOnes" "[B")
def jw_ixD1 : List Nat := [12, 13, 14, 15, 16, 17, 18, 19, 20, 21, 22, 23, 24, 25, 26, 27, 28, 29, 30, 31, 32, 33, 34, 35, 36, 37, 38, 39, 40, 41, 42, 43, 44, 45, 46, 47, 48, 49, 50, 51, 52, 53, 54, 55, 56, 57, 58, 59, 60, 61, 62, 63, 64, 65, 66, 67, 68, 69, 70, 71, 72, 73, 74, 75, 76, 77, 78, 79, 80, 81, 82, 83, 84, 85, 86, 87, 88, 89, 90, 91, 92, 93, 94, 95, 96, 97, 98, 99, 100, 101, 102, 103, 104, 105, 106, 107, 108, 109, 110, 111]
set_option maxRecDepth 100000 in
theorem jw_D11 : jw_nl[10]? = some (.arrayOf jw_tD1 (.byte)) := by decide +kernel
set_option maxRecDepth 100000 in
theorem jw_D12 : jw_nl[11]? = some (.eq (.length jw_tD1) (.int (Int32.ofNat 100))) := by decide +kernel
set_option maxRecDepth 100000 in
theorem jw_D13 : ∀ j, j < 100 → jw_nl[jw_ixD1.getD j 0]? = some (.eq (.elem jw_tD1 (.int (Int32.ofNat j))) (.int (jw_D1.getD j 0))) := by decide +kernel
def jw_tD2 : Term := (Jvm.Term.static "java/lang/Integer" "DigitTens" "[B")
def jw_ixD2 : List Nat := [115, 116, 117, 118, 119, 120, 121, 122, 123, 124, 125, 126, 127, 128, 129, 130, 131, 132, 133, 134, 135, 136, 137, 138, 139, 140, 141, 142, 143, 144, 145, 146, 147, 148, 149, 150, 151, 152, 153, 154, 155, 156, 157, 158, 159, 160, 161, 162, 163, 164, 165, 166, 167, 168, 169, 170, 171, 172, 173, 174, 175, 176, 177, 178, 179, 180, 181, 182, 183, 184, 185, 186, 187, 188, 189, 190, 191, 192, 193, 194, 195, 196, 197, 198, 199, 200, 201, 202, 203, 204, 205, 206, 207, 208, 209, 210, 211, 212, 213, 214]
set_option maxRecDepth 100000 in
theorem jw_D21 : jw_nl[113]? = some (.arrayOf jw_tD2 (.byte)) := by decide +kernel
set_option maxRecDepth 100000 in
theorem jw_D22 : jw_nl[114]? = some (.eq (.length jw_tD2) (.int (Int32.ofNat 100))) := by decide +kernel
set_option maxRecDepth 100000 in
theorem jw_D23 : ∀ j, j < 100 → jw_nl[jw_ixD2.getD j 0]? = some (.eq (.elem jw_tD2 (.int (Int32.ofNat j))) (.int (jw_D2.getD j 0))) := by decide +kernel
def jw_tSW : Term := (Jvm.Term.static "PickDesk$1" "$SwitchMap$PickDesk$Word" "[I")
def jw_ixSW : List Nat := [260, 261, 262, 263, 264, 265, 266, 267, 268]
set_option maxRecDepth 100000 in
theorem jw_SW1 : jw_nl[258]? = some (.arrayOf jw_tSW (.int)) := by decide +kernel
set_option maxRecDepth 100000 in
theorem jw_SW2 : jw_nl[259]? = some (.eq (.length jw_tSW) (.int (Int32.ofNat 9))) := by decide +kernel
set_option maxRecDepth 100000 in
theorem jw_SW3 : ∀ j, j < 9 → jw_nl[jw_ixSW.getD j 0]? = some (.eq (.elem jw_tSW (.int (Int32.ofNat j))) (.int (jw_SW.getD j 0))) := by decide +kernel
def jw_tAL : Term := (Jvm.Term.static "PickDesk$Word" "ALL" "[LPickDesk$Word;")
def jw_ixAL : List Nat := [226, 227, 228, 229, 230, 231, 232, 233, 234]
set_option maxRecDepth 100000 in
theorem jw_AL1 : jw_nl[223]? = some (.arrayOf jw_tAL (.object "PickDesk$Word")) := by decide +kernel
set_option maxRecDepth 100000 in
theorem jw_AL2 : jw_nl[224]? = some (.eq (.length jw_tAL) (.int (Int32.ofNat 9))) := by decide +kernel
set_option maxRecDepth 100000 in
theorem jw_AL3 : ∀ j, j < 9 → jw_nl[jw_ixAL.getD j 0]? = some (.eq (.elem jw_tAL (.int (Int32.ofNat j))) (jw_wt (jw_AL.getD j 0))) := by decide +kernel
def jw_tEM : Term := (Jvm.Term.static "java/util/ArrayList" "DEFAULTCAPACITY_EMPTY_ELEMENTDATA" "[Ljava/lang/Object;")
def jw_ixEM : List Nat := []
set_option maxRecDepth 100000 in
theorem jw_EM1 : jw_nl[218]? = some (.arrayOf jw_tEM (.object "java/lang/Object")) := by decide +kernel
set_option maxRecDepth 100000 in
theorem jw_EM2 : jw_nl[220]? = some (.eq (.length jw_tEM) (.int (Int32.ofNat 0))) := by decide +kernel
def jw_eqL : List (Nat × String × Nat × Nat) := [(0, "PickDesk$Stage", 13, 432), (0, "PickDesk$Step", 15, 441), (0, "java/lang/String", 7, 451)]
set_option maxRecDepth 100000 in
theorem jw_eq0 : jw_nl[432]? = some (.eq (jw_tm 0) (.string "PickDesk$Stage" 13)) := by decide +kernel
set_option maxRecDepth 100000 in
theorem jw_eq1 : jw_nl[441]? = some (.eq (jw_tm 0) (.string "PickDesk$Step" 15)) := by decide +kernel
set_option maxRecDepth 100000 in
theorem jw_eq2 : jw_nl[451]? = some (.eq (jw_tm 0) (.string "java/lang/String" 7)) := by decide +kernel
set_option maxRecDepth 100000 in
theorem jw_st_cs : jw_nl[4]? = some (.eq (.static "java/lang/String" "COMPACT_STRINGS" "Z") (.int 1)) := by decide +kernel
set_option maxRecDepth 100000 in
theorem jw_st_ad : jw_nl[6]? = some (.eq (.static "java/lang/StringUTF16" "$assertionsDisabled" "Z") (.int 1)) := by decide +kernel
set_option maxRecDepth 100000 in
theorem jw_st_hb : jw_nl[7]? = some (.eq (.static "java/lang/StringUTF16" "HI_BYTE_SHIFT" "I") (.int 0)) := by decide +kernel
set_option maxRecDepth 100000 in
theorem jw_st_lb : jw_nl[8]? = some (.eq (.static "java/lang/StringUTF16" "LO_BYTE_SHIFT" "I") (.int 8)) := by decide +kernel
