theorem gv_ref {args : Array Value} {s : State} {own tx : String} {k : Nat} (h1 : (Cond.stringRef own k tx).before args s = true) (h2 : (Cond.exactly (.string own k) "java/lang/String").before args s = true) : ∃ q : Nat, vk_R own k tx q s := by
  obtain ⟨a, c, cA, kA, q1, -⟩ := Cond.exactly_spec (args := args) (first := s) (o := none) (s := s) (idx := []) (t := .string own k) (cls := "java/lang/String") h2
  exact ⟨a, vk_R.of h1 q1⟩
/-- a private method of a class above is what is selected -/
theorem gv_selp {args : Array Value} {s : State} {C : String} {n : Nat} {y x0 y0 : MethodName} (hy : y.cls ≠ "java/lang/invoke/MethodHandle" ∧ y.cls ≠ "java/lang/invoke/VarHandle") (hins : (Cond.instantiable C n).before args s = true) (hpriv : (Cond.privateMethod y).before args s = true) (hinst : (Cond.instanceMethod y).before args s = true)
    (h0 : (Cond.selects C x0 y0).before args s = true) (hc0 : y0.cls = y.cls) : (Cond.selects C y y).before args s = true := by
  obtain ⟨c, k, hc, hk, -, -, -, -⟩ := Cond.instantiable_spec hins
  obtain ⟨mk, methM, hnamed, hmethM, -, -⟩ := Cond.instanceMethod_spec hinst
  have hfound : s.methodFound? y.cls y.name y.desc = some mk := State.methodFound?_of_named hnamed hy
  obtain ⟨c2, r2, m2, q1, q2, q3, q4, k2, hk2, hi2⟩ := Cond.selects_spec h0
  have hcl : mk.cls = m2.cls := by
    have e1 := findClass_of_methodNamed hnamed
    have e2 := findClass_of_methodNamed q3
    rw [hc0] at e2
    exact Option.some.inj (e1.symm.trans e2)
  have hsel : selectMethod {} s.vm c mk = .method mk := selectMethod_private hmethM (Cond.privateMethod_at hpriv mk methM hnamed hmethM)
  simp only [Cond.before, Cond.holds, Cond.value, hc, hfound, hnamed, hsel, hcl, hk2]
  simp; exact hi2
def sel6 : List Cond := [.selects RJ4 yJ5_appendNull_278bc yJ5_appendNull_278bc, .selects RJ4 yJ5_ensureCapacityInternal_d00df yJ5_ensureCapacityInternal_d00df, .selects RJ4 yJ5_newCapacity_0f7a4 yJ5_newCapacity_0f7a4, .selects RJ4 yJ5_putStringAt_47b60 yJ5_putStringAt_47b60, .selects RJ4 yJ5_inflateIfNeededFor_a7421 yJ5_inflateIfNeededFor_a7421, .selects RJ4 yJ5_inflate_da8c8 yJ5_inflate_da8c8]
theorem lq_in {big ws : List Cond} (ps : List Nat) (hp : ws = ps.filterMap (fun i => big[i]?)) : ∀ w ∈ ws, w ∈ big := by
  intro w hw
  rw [hp] at hw
  obtain ⟨i, -, hi⟩ := List.mem_filterMap.mp hw
  exact List.mem_of_getElem? hi
abbrev lw_all : List Cond := lw_tbl ++ sel6
set_option maxRecDepth 20000 in
theorem lq__r1 : ∀ w ∈ wsL_law0_r1, w ∈ lw_all := lq_in [72, 73, 43, 1101, 1102, 47, 793, 794, 51, 74, 75, 76, 77, 78, 79, 80, 175, 82, 83, 44, 176, 137, 138, 46] (by decide +kernel)
set_option maxRecDepth 20000 in
theorem lq__r2 : ∀ w ∈ wsL_law0_r2, w ∈ lw_all := lq_in [177, 89, 45, 178, 179, 180, 181, 182, 183, 84, 85, 86, 87, 88, 105, 108, 111, 112, 113, 114, 115, 118, 91, 92] (by decide +kernel)
set_option maxRecDepth 20000 in
theorem lq__r3 : ∀ w ∈ wsL_law0_r3, w ∈ lw_all := lq_in [93, 104, 94, 95, 139, 140, 141, 142, 173, 146, 143, 147, 149, 151, 153, 154, 155, 145, 1103, 1104, 1105, 1106, 1107, 1137] (by decide +kernel)
set_option maxRecDepth 20000 in
theorem lq__r4 : ∀ w ∈ wsL_law0_r4, w ∈ lw_all := lq_in [1110, 1111, 50, 1138, 1139, 1112, 1113, 1114, 1122, 1124, 1115, 1116, 49, 1117, 1126, 1118, 1119, 48, 1120, 1121, 796, 797, 798, 806] (by decide +kernel)
set_option maxRecDepth 20000 in
theorem lq__r5 : ∀ w ∈ wsL_law0_r5, w ∈ lw_all := lq_in [807, 42, 808, 809, 810, 811, 812, 813, 814, 815, 849, 57, 96, 816, 817, 818, 819, 55, 835, 836, 837, 838, 56, 841] (by decide +kernel)
set_option maxRecDepth 20000 in
theorem lq__r6 : ∀ w ∈ wsL_law0_r6, w ∈ lw_all := lq_in [842, 843, 844, 845, 846, 847, 848, 769, 292, 293, 294, 288, 290, 289, 58, 1162, 1163, 1164, 1165, 1169, 304, 60, 1166, 1167] (by decide +kernel)
set_option maxRecDepth 20000 in
theorem lq__r7 : ∀ w ∈ wsL_law0_r7, w ∈ lw_all := lq_in [1168, 1170, 306, 307, 308, 309, 59, 310, 311, 312, 321, 322, 314, 315, 62, 316, 317, 318, 319, 320, 1171, 545, 546, 547] (by decide +kernel)
set_option maxRecDepth 20000 in
theorem lq__r8 : ∀ w ∈ wsL_law0_r8, w ∈ lw_all := lq_in [548, 1613, 333, 549, 550, 324, 551, 1614, 1639, 553, 554, 345, 1608, 1640, 347, 348, 349, 1609, 1641, 351, 352, 363, 353, 354] (by decide +kernel)
set_option maxRecDepth 20000 in
theorem lq__r9 : ∀ w ∈ wsL_law0_r9, w ∈ lw_all := lq_in [63, 355, 356, 357, 64, 358, 359, 360, 361, 362, 364, 365, 65, 366, 367, 368, 369, 370, 371, 373, 374, 248, 249, 375] (by decide +kernel)
set_option maxRecDepth 20000 in
theorem lq__r10 : ∀ w ∈ wsL_law0_r10, w ∈ lw_all := lq_in [376, 378, 379, 377, 380, 555, 556, 557, 411, 529, 530, 531, 397, 398, 399, 532, 533, 61, 534, 403, 535, 536, 66, 537] (by decide +kernel)
set_option maxRecDepth 20000 in
theorem lq__r11 : ∀ w ∈ wsL_law0_r11, w ∈ lw_all := lq_in [408, 409, 410, 413, 415, 558, 559, 560, 561, 621, 562, 563, 564, 565, 566, 622, 567, 1615, 1642, 569, 570, 571, 1616, 1643] (by decide +kernel)
set_option maxRecDepth 20000 in
theorem lq__r12 : ∀ w ∈ wsL_law0_r12, w ∈ lw_all := lq_in [573, 574, 575, 384, 1610, 1644, 386, 387, 388, 389, 67, 390, 391, 392, 393, 394, 395, 396, 400, 401, 402, 405, 406, 407] (by decide +kernel)
set_option maxRecDepth 20000 in
theorem lq__r13 : ∀ w ∈ wsL_law0_r13, w ∈ lw_all := lq_in [576, 577, 578, 579, 580, 581, 1173, 1174, 1175, 1176, 1177, 1178, 1179, 1180, 1181, 1182, 1183, 1184, 424, 425, 426, 427, 428, 1185] (by decide +kernel)
set_option maxRecDepth 20000 in
theorem lq__r14 : ∀ w ∈ wsL_law0_r14, w ∈ lw_all := lq_in [1186, 1187, 420, 421, 422, 423, 614, 615, 616, 1188, 339, 340, 341, 342, 1607, 343, 344, 381, 382, 383, 417, 418, 419, 1189] (by decide +kernel)
set_option maxRecDepth 20000 in
theorem lq__r15 : ∀ w ∈ wsL_law0_r15, w ∈ lw_all := lq_in [431, 432, 433, 434, 435, 436, 437, 438, 439, 440, 441, 442, 323, 443, 445, 446, 444, 447, 448, 450, 449, 451, 452, 453] (by decide +kernel)
set_option maxRecDepth 20000 in
theorem lq__r16 : ∀ w ∈ wsL_law0_r16, w ∈ lw_all := lq_in [454, 449, 455, 456, 457, 458, 459, 460, 461, 462, 463, 464, 465, 507, 608, 609, 610, 611, 612, 613, 617, 618, 619, 620] (by decide +kernel)
set_option maxRecDepth 20000 in
theorem lq__r17 : ∀ w ∈ wsL_law0_r17, w ∈ lw_all := lq_in [1190, 1191, 1192, 1193, 1194, 1196, 19, 1197, 1136, 1158, 1159, 1160, 1161, 865, 866, 867, 868, 869, 870, 871, 1198, 1199, 1200, 1201] (by decide +kernel)
set_option maxRecDepth 20000 in
theorem lq__r18 : ∀ w ∈ wsL_law0_r18, w ∈ lw_all := lq_in [872, 873, 874, 875, 876, 877, 878, 731, 285, 286, 287, 1202, 1203, 1204, 1205, 879, 880, 881, 882, 883, 884, 885, 886, 887] (by decide +kernel)
set_option maxRecDepth 20000 in
theorem lq__r19 : ∀ w ∈ wsL_law0_r19, w ∈ lw_all := lq_in [888, 684, 686, 8, 687, 890, 296, 297, 298, 1206, 1207, 1208, 1209, 1210, 1211, 1212, 1213, 1214, 1215, 1216, 1217, 1218, 1219, 1220] (by decide +kernel)
set_option maxRecDepth 20000 in
theorem lq__r20 : ∀ w ∈ wsL_law0_r20, w ∈ lw_all := lq_in [1221, 1223, 1224, 1225, 1226, 1227, 1228, 1229, 1230, 1232, 1235, 1233, 1234, 1236, 1237, 1238, 1239, 1240, 1241, 1242, 1244, 20, 1245, 1140] (by decide +kernel)
set_option maxRecDepth 20000 in
theorem lq__r21 : ∀ w ∈ wsL_law0_r21, w ∈ lw_all := lq_in [891, 892, 893, 894, 895, 896, 897, 1246, 1247, 1248, 1249, 899, 900, 901, 902, 903, 904, 905, 739, 740, 741, 742, 1250, 1251] (by decide +kernel)
set_option maxRecDepth 20000 in
theorem lq__r22 : ∀ w ∈ wsL_law0_r22, w ∈ lw_all := lq_in [1252, 1253, 906, 907, 908, 909, 910, 911, 912, 913, 914, 915, 916, 917, 918, 919, 335, 336, 337, 338, 920, 1254, 1255, 1256] (by decide +kernel)
set_option maxRecDepth 20000 in
theorem lq__r23 : ∀ w ∈ wsL_law0_r23, w ∈ lw_all := lq_in [1257, 1606, 1514, 1515, 1516, 1517, 1518, 1519, 1520, 921, 922, 923, 924, 925, 926, 927, 683, 228, 229, 230, 1258, 1259, 1260, 1261] (by decide +kernel)
set_option maxRecDepth 20000 in
theorem lq__r24 : ∀ w ∈ wsL_law0_r24, w ∈ lw_all := lq_in [1262, 1263, 1264, 928, 929, 930, 931, 932, 933, 934, 734, 263, 264, 265, 1265, 1266, 1267, 1268, 1269, 1270, 1271, 1272, 1273, 1274] (by decide +kernel)
set_option maxRecDepth 20000 in
theorem lq__r25 : ∀ w ∈ wsL_law0_r25, w ∈ lw_all := lq_in [1275, 1276, 69, 1277, 1278, 1280, 1282, 1283, 1284, 1285, 1286, 1291, 1287, 1288, 68, 1289, 1290, 1295, 1296, 1297, 1298, 1127, 1128, 1125] (by decide +kernel)
set_option maxRecDepth 20000 in
theorem lq__r26 : ∀ w ∈ wsL_law0_r26, w ∈ lw_all := lq_in [1299, 1301, 21, 1302, 1303, 1305, 22, 1306, 1307, 1309, 23, 1310, 1338, 1339, 1311, 1312, 1313, 1314, 1315, 1632, 1316, 1331, 1332, 1333] (by decide +kernel)
set_option maxRecDepth 20000 in
theorem lq__r27 : ∀ w ∈ wsL_law0_r27, w ∈ lw_all := lq_in [1334, 1335, 1337, 1340, 1341, 1342, 1343, 935, 936, 937, 938, 939, 940, 941, 1344, 1345, 1346, 1347, 1364, 1348, 1349, 1350, 1351, 1352] (by decide +kernel)
set_option maxRecDepth 20000 in
theorem lq__r28 : ∀ w ∈ wsL_law0_r28, w ∈ lw_all := lq_in [1353, 1354, 1355, 1356, 1357, 71, 1358, 1359, 1360, 1361, 1362, 1363, 1365, 1366, 1367, 1368, 942, 943, 944, 945, 946, 947, 948, 688] (by decide +kernel)
set_option maxRecDepth 20000 in
theorem lq__r29 : ∀ w ∈ wsL_law0_r29, w ∈ lw_all := lq_in [690, 9, 691, 117, 692, 693, 694, 695, 696, 1369, 1370, 1371, 1372, 1373, 1375, 24, 1376, 1377, 1378, 1379, 1380, 949, 950, 951] (by decide +kernel)
set_option maxRecDepth 20000 in
theorem lq__r30 : ∀ w ∈ wsL_law0_r30, w ∈ lw_all := lq_in [952, 953, 954, 955, 679, 681, 7, 682, 1381, 1382, 1383, 1384, 956, 957, 958, 959, 960, 961, 962, 963, 965, 17, 966, 968] (by decide +kernel)
set_option maxRecDepth 20000 in
theorem lq__r31 : ∀ w ∈ wsL_law0_r31, w ∈ lw_all := lq_in [706, 707, 708, 1385, 1386, 1387, 1388, 1389, 1391, 25, 1392, 1393, 1394, 1395, 1396, 1397, 1399, 26, 1400, 1401, 203, 204, 205, 206] (by decide +kernel)
set_option maxRecDepth 20000 in
theorem lq__r32 : ∀ w ∈ wsL_law0_r32, w ∈ lw_all := lq_in [207, 208, 209, 210, 1402, 1403, 1404, 1405, 969, 970, 971, 972, 973, 974, 975, 110, 976, 977, 978, 979, 733, 224, 225, 226] (by decide +kernel)
set_option maxRecDepth 20000 in
theorem lq__r33 : ∀ w ∈ wsL_law0_r33, w ∈ lw_all := lq_in [227, 1406, 1407, 1408, 1409, 1107, 1410, 1411, 1412, 1413, 1414, 1416, 27, 1417, 1418, 1419, 1420, 980, 981, 982, 983, 984, 985, 986] (by decide +kernel)
set_option maxRecDepth 20000 in
theorem lq__r34 : ∀ w ∈ wsL_law0_r34, w ∈ lw_all := lq_in [107, 1421, 1422, 1423, 1424, 211, 212, 213, 214, 1425, 1426, 1427, 1428, 987, 988, 989, 990, 991, 992, 993, 303, 305, 334, 429] (by decide +kernel)
set_option maxRecDepth 20000 in
theorem lq__r35 : ∀ w ∈ wsL_law0_r35, w ∈ lw_all := lq_in [430, 1429, 1430, 1431, 1432, 1433, 1435, 28, 1436, 994, 995, 996, 997, 998, 999, 1000, 1438, 1439, 1440, 1441, 215, 216, 217, 218] (by decide +kernel)
set_option maxRecDepth 20000 in
theorem lq__r36 : ∀ w ∈ wsL_law0_r36, w ∈ lw_all := lq_in [219, 220, 221, 222, 223, 1442, 1443, 1444, 1445, 1446, 1448, 29, 1449, 1001, 1002, 1003, 1004, 1005, 1006, 1007, 1008, 1009, 1010, 1012] (by decide +kernel)
set_option maxRecDepth 20000 in
theorem lq__r37 : ∀ w ∈ wsL_law0_r37, w ∈ lw_all := lq_in [753, 754, 755, 756, 758, 13, 759, 98, 659, 760, 762, 14, 763, 649, 650, 651, 652, 653, 654, 655, 656, 657, 658, 1013] (by decide +kernel)
set_option maxRecDepth 20000 in
theorem lq__r38 : ∀ w ∈ wsL_law0_r38, w ∈ lw_all := lq_in [1015, 18, 1016, 1017, 661, 662, 663, 732, 665, 666, 667, 668, 729, 1450, 1451, 1452, 1453, 1142, 1454, 1456, 30, 1457, 1458, 1460] (by decide +kernel)
set_option maxRecDepth 20000 in
theorem lq__r39 : ∀ w ∈ wsL_law0_r39, w ∈ lw_all := lq_in [31, 1461, 1018, 1019, 1020, 1021, 1022, 1023, 1024, 748, 749, 750, 751, 752, 660, 664, 1462, 1463, 1464, 1465, 1466, 1468, 32, 1469] (by decide +kernel)
set_option maxRecDepth 20000 in
theorem lq__r40 : ∀ w ∈ wsL_law0_r40, w ∈ lw_all := lq_in [1026, 1027, 1028, 1029, 1030, 1031, 1032, 1033, 1034, 1035, 1036, 1470, 1471, 1472, 1473, 1478, 1474, 1476, 33, 1477, 1037, 1038, 1039, 1040] (by decide +kernel)
set_option maxRecDepth 20000 in
theorem lq__r41 : ∀ w ∈ wsL_law0_r41, w ∈ lw_all := lq_in [1041, 1042, 1043, 1044, 1045, 1046, 1047, 673, 1479, 1480, 1481, 1482, 1048, 1049, 1050, 1051, 1052, 1053, 1054, 788, 789, 790, 791, 1483] (by decide +kernel)
set_option maxRecDepth 20000 in
theorem lq__r42 : ∀ w ∈ wsL_law0_r42, w ∈ lw_all := lq_in [1484, 1485, 1486, 1055, 1056, 1057, 1058, 1059, 1060, 1061, 1062, 510, 511, 512, 513, 1612, 514, 515, 516, 517, 518, 519, 520, 521] (by decide +kernel)
set_option maxRecDepth 20000 in
theorem lq__r43 : ∀ w ∈ wsL_law0_r43, w ∈ lw_all := lq_in [522, 524, 526, 527, 528, 538, 539, 540, 541, 542, 730, 1487, 1488, 1489, 1490, 1491, 1063, 1064, 1065, 1066, 1067, 1068, 1069, 764] (by decide +kernel)
set_option maxRecDepth 20000 in
theorem lq__r44 : ∀ w ∈ wsL_law0_r44, w ∈ lw_all := lq_in [711, 712, 713, 1493, 1494, 1495, 1496, 1497, 1499, 34, 1500, 1070, 1071, 1072, 1073, 1074, 1075, 1076, 678, 646, 647, 648, 1501, 1502] (by decide +kernel)
set_option maxRecDepth 20000 in
theorem lq__r45 : ∀ w ∈ wsL_law0_r45, w ∈ lw_all := lq_in [1503, 1504, 1505, 1507, 35, 1508, 1077, 1078, 1079, 1080, 1081, 1082, 1083, 743, 670, 671, 672, 636, 637, 638, 639, 239, 241, 0] (by decide +kernel)
set_option maxRecDepth 20000 in
theorem lq__r46 : ∀ w ∈ wsL_law0_r46, w ∈ lw_all := lq_in [242, 119, 116, 243, 245, 1, 246, 106, 97, 247, 250, 251, 252, 253, 254, 256, 2, 257, 258, 260, 3, 261, 262, 640] (by decide +kernel)
set_option maxRecDepth 20000 in
theorem lq__r47 : ∀ w ∈ wsL_law0_r47, w ∈ lw_all := lq_in [641, 642, 643, 644, 277, 278, 279, 280, 282, 4, 283, 109, 284, 291, 295, 299, 301, 5, 302, 645, 669, 1509, 1510, 1511] (by decide +kernel)
set_option maxRecDepth 20000 in
theorem lq__r48 : ∀ w ∈ wsL_law0_r48, w ∈ lw_all := lq_in [1512, 1513, 1521, 1523, 36, 1524, 1529, 1525, 1527, 37, 1528, 1530, 1532, 38, 1533, 231, 232, 233, 234, 235, 236, 237, 238, 1534] (by decide +kernel)
set_option maxRecDepth 20000 in
theorem lq__r49 : ∀ w ∈ wsL_law0_r49, w ∈ lw_all := lq_in [1535, 1536, 1537, 266, 267, 268, 269, 148, 150, 152, 270, 271, 272, 273, 274, 276, 1538, 1539, 1540, 1541, 1084, 1085, 1086, 1087] (by decide +kernel)
set_option maxRecDepth 20000 in
theorem lq__r50 : ∀ w ∈ wsL_law0_r50, w ∈ lw_all := lq_in [1088, 1089, 1090, 1092, 1544, 1545, 1546, 1547, 632, 633, 634, 635, 1548, 1549, 1550, 1551, 674, 675, 676, 677, 1552, 1553, 1554, 1555] (by decide +kernel)
set_option maxRecDepth 20000 in
theorem lq__r51 : ∀ w ∈ wsL_law0_r51, w ∈ lw_all := lq_in [697, 698, 699, 700, 701, 702, 703, 704, 705, 709, 710, 714, 715, 1556, 1557, 1558, 1559, 1560, 1561, 1562, 1563, 1564, 1566, 39] (by decide +kernel)
set_option maxRecDepth 20000 in
theorem lq__r52 : ∀ w ∈ wsL_law0_r52, w ∈ lw_all := lq_in [1567, 1093, 1094, 1095, 1096, 1097, 1098, 1099, 779, 781, 16, 782, 1581, 1582, 1583, 1584, 1585, 1587, 41, 1588, 1141, 716, 717, 718] (by decide +kernel)
set_option maxRecDepth 20000 in
theorem lq__r53 : ∀ w ∈ wsL_law0_r53, w ∈ lw_all := lq_in [719, 1589, 1590, 1591, 1592, 720, 721, 722, 723, 724, 726, 10, 727, 728, 735, 737, 11, 738, 744, 746, 12, 747, 765, 767] (by decide +kernel)
set_option maxRecDepth 20000 in
theorem lq__r54 : ∀ w ∈ wsL_law0_r54, w ∈ lw_all := lq_in [15, 768, 1593, 1594, 1595, 1596, 770, 771, 772, 773, 774, 775, 776, 777, 778, 783, 784, 785, 786, 792, 1597, 1598, 1599, 1600] (by decide +kernel)
set_option maxRecDepth 20000 in
theorem lq__r55 : ∀ w ∈ wsL_law0_r55, w ∈ lw_all := lq_in [1601, 1602, 1603, 1604, 1605] (by decide +kernel)
theorem lq_wsX30 : ∀ w ∈ wsX30, w ∈ lw_all := lq_in [184, 186, 188, 190, 192, 194, 196, 198, 200] (by decide +kernel)
theorem lq_wsX50 : ∀ w ∈ wsX50, w ∈ lw_all := lq_in [1143, 1145, 1147, 1149, 1151, 1153, 1155] (by decide +kernel)
theorem lq_wsX40 : ∀ w ∈ wsX40, w ∈ lw_all := lq_in [801, 803] (by decide +kernel)
theorem lq_wsX10 : ∀ w ∈ wsX10, w ∈ lw_all := lq_in [120, 122, 124, 126, 128, 130, 132, 134] (by decide +kernel)
theorem lq_wsX00 : ∀ w ∈ wsX00, w ∈ lw_all := lq_in [156, 158, 160, 162, 164, 166, 168, 170] (by decide +kernel)
theorem lq_wsX20 : ∀ w ∈ wsX20, w ∈ lw_all := lq_in [99, 101] (by decide +kernel)
theorem lq_wsJx4a65c0 : ∀ w ∈ wsJx4a65c0, w ∈ lw_all := lq_in [1133, 1129, 1131] (by decide +kernel)
theorem lq_wsJ40 : ∀ w ∈ wsJ40, w ∈ lw_all := lq_in [325, 327, 329, 331] (by decide +kernel)
theorem lq_wsJ00 : ∀ w ∈ wsJ00, w ∈ lw_all := lq_in [623, 625, 627, 629] (by decide +kernel)
theorem lq_wsJ60 : ∀ w ∈ wsJ60, w ∈ lw_all := lq_in [1292] (by decide +kernel)
theorem wsL_law_in0 : ∀ w ∈ wsL_law0, w ∈ lw_tbl ++ sel6 := by
  intro w h
  rcases List.mem_append.mp h with h | h
  rotate_left
  · exact absurd h List.not_mem_nil
  rcases List.mem_append.mp h with h | h
  rotate_left
  · exact lq_wsJ60 w h
  rcases List.mem_append.mp h with h | h
  rotate_left
  · exact lq_wsJ00 w h
  rcases List.mem_append.mp h with h | h
  rotate_left
  · exact lq_wsJ40 w h
  rcases List.mem_append.mp h with h | h
  rotate_left
  · exact lq_wsJx4a65c0 w h
  rcases List.mem_append.mp h with h | h
  rotate_left
  · exact lq_wsX20 w h
  rcases List.mem_append.mp h with h | h
  rotate_left
  · exact lq_wsX00 w h
  rcases List.mem_append.mp h with h | h
  rotate_left
  · exact lq_wsX10 w h
  rcases List.mem_append.mp h with h | h
  rotate_left
  · exact lq_wsX40 w h
  rcases List.mem_append.mp h with h | h
  rotate_left
  · exact lq_wsX50 w h
  rcases List.mem_append.mp h with h | h
  rotate_left
  · exact lq_wsX30 w h
  rcases List.mem_append.mp h with h | h
  · exact lq__r1 w h
  rcases List.mem_append.mp h with h | h
  · exact lq__r2 w h
  rcases List.mem_append.mp h with h | h
  · exact lq__r3 w h
  rcases List.mem_append.mp h with h | h
  · exact lq__r4 w h
  rcases List.mem_append.mp h with h | h
  · exact lq__r5 w h
  rcases List.mem_append.mp h with h | h
  · exact lq__r6 w h
  rcases List.mem_append.mp h with h | h
  · exact lq__r7 w h
  rcases List.mem_append.mp h with h | h
  · exact lq__r8 w h
  rcases List.mem_append.mp h with h | h
  · exact lq__r9 w h
  rcases List.mem_append.mp h with h | h
  · exact lq__r10 w h
  rcases List.mem_append.mp h with h | h
  · exact lq__r11 w h
  rcases List.mem_append.mp h with h | h
  · exact lq__r12 w h
  rcases List.mem_append.mp h with h | h
  · exact lq__r13 w h
  rcases List.mem_append.mp h with h | h
  · exact lq__r14 w h
  rcases List.mem_append.mp h with h | h
  · exact lq__r15 w h
  rcases List.mem_append.mp h with h | h
  · exact lq__r16 w h
  rcases List.mem_append.mp h with h | h
  · exact lq__r17 w h
  rcases List.mem_append.mp h with h | h
  · exact lq__r18 w h
  rcases List.mem_append.mp h with h | h
  · exact lq__r19 w h
  rcases List.mem_append.mp h with h | h
  · exact lq__r20 w h
  rcases List.mem_append.mp h with h | h
  · exact lq__r21 w h
  rcases List.mem_append.mp h with h | h
  · exact lq__r22 w h
  rcases List.mem_append.mp h with h | h
  · exact lq__r23 w h
  rcases List.mem_append.mp h with h | h
  · exact lq__r24 w h
  rcases List.mem_append.mp h with h | h
  · exact lq__r25 w h
  rcases List.mem_append.mp h with h | h
  · exact lq__r26 w h
  rcases List.mem_append.mp h with h | h
  · exact lq__r27 w h
  rcases List.mem_append.mp h with h | h
  · exact lq__r28 w h
  rcases List.mem_append.mp h with h | h
  · exact lq__r29 w h
  rcases List.mem_append.mp h with h | h
  · exact lq__r30 w h
  rcases List.mem_append.mp h with h | h
  · exact lq__r31 w h
  rcases List.mem_append.mp h with h | h
  · exact lq__r32 w h
  rcases List.mem_append.mp h with h | h
  · exact lq__r33 w h
  rcases List.mem_append.mp h with h | h
  · exact lq__r34 w h
  rcases List.mem_append.mp h with h | h
  · exact lq__r35 w h
  rcases List.mem_append.mp h with h | h
  · exact lq__r36 w h
  rcases List.mem_append.mp h with h | h
  · exact lq__r37 w h
  rcases List.mem_append.mp h with h | h
  · exact lq__r38 w h
  rcases List.mem_append.mp h with h | h
  · exact lq__r39 w h
  rcases List.mem_append.mp h with h | h
  · exact lq__r40 w h
  rcases List.mem_append.mp h with h | h
  · exact lq__r41 w h
  rcases List.mem_append.mp h with h | h
  · exact lq__r42 w h
  rcases List.mem_append.mp h with h | h
  · exact lq__r43 w h
  rcases List.mem_append.mp h with h | h
  · exact lq__r44 w h
  rcases List.mem_append.mp h with h | h
  · exact lq__r45 w h
  rcases List.mem_append.mp h with h | h
  · exact lq__r46 w h
  rcases List.mem_append.mp h with h | h
  · exact lq__r47 w h
  rcases List.mem_append.mp h with h | h
  · exact lq__r48 w h
  rcases List.mem_append.mp h with h | h
  · exact lq__r49 w h
  rcases List.mem_append.mp h with h | h
  · exact lq__r50 w h
  rcases List.mem_append.mp h with h | h
  · exact lq__r51 w h
  rcases List.mem_append.mp h with h | h
  · exact lq__r52 w h
  rcases List.mem_append.mp h with h | h
  · exact lq__r53 w h
  rcases List.mem_append.mp h with h | h
  · exact lq__r54 w h
  exact lq__r55 w h
set_option maxRecDepth 20000 in
theorem wsL_law_x0 : ∀ w ∈ (vx_atS RX3 72 "java/lang/IllegalStateException" ["java/lang/RuntimeException", "java/lang/Exception"]).filter goodWord, w ∈ lw_tbl := by decide +kernel
set_option maxRecDepth 20000 in
theorem wsL_law_x1 : ∀ w ∈ (vx_atS RX3 240 "java/lang/IndexOutOfBoundsException" ["java/lang/RuntimeException", "java/lang/Exception"]).filter goodWord, w ∈ lw_tbl := by decide +kernel
set_option maxRecDepth 20000 in
theorem wsL_law_x2 : ∀ w ∈ (vx_atS RX3 99 "java/lang/IllegalArgumentException" ["java/lang/RuntimeException", "java/lang/Exception"]).filter goodWord, w ∈ lw_tbl := by decide +kernel
theorem gq_585 {args : Array Value} {s : State} (h : (Jvm.Cond.and given_1 narrow_1).before args s = true) : (Cond.exactly (.string RX5 9) "java/lang/String").before args s = true := flat_of_before _ h _ (List.mem_of_getElem? (i := 585) (by decide +kernel))
theorem gq_586 {args : Array Value} {s : State} (h : (Jvm.Cond.and given_1 narrow_1).before args s = true) : (Cond.eq (.field (.string RX5 9) "java/lang/String" "coder" "B") (.int 0)).before args s = true := flat_of_before _ h _ (List.mem_of_getElem? (i := 586) (by decide +kernel))
theorem gq_587 {args : Array Value} {s : State} (h : (Jvm.Cond.and given_1 narrow_1).before args s = true) : (Cond.arrayOf (.field (.string RX5 9) "java/lang/String" "value" "[B") .byte).before args s = true := flat_of_before _ h _ (List.mem_of_getElem? (i := 587) (by decide +kernel))
theorem gq_588 {args : Array Value} {s : State} (h : (Jvm.Cond.and given_1 narrow_1).before args s = true) : (Cond.eq (.length (.field (.string RX5 9) "java/lang/String" "value" "[B")) (.int 0)).before args s = true := flat_of_before _ h _ (List.mem_of_getElem? (i := 588) (by decide +kernel))
theorem gq_605 {args : Array Value} {s : State} (h : (Jvm.Cond.and given_1 narrow_1).before args s = true) : (Cond.eq (.elem (.field (.string RX5 119) "java/lang/String" "value" "[B") (.int 0)) (.int 97)).before args s = true := flat_of_before _ h _ (List.mem_of_getElem? (i := 605) (by decide +kernel))
theorem gq_606 {args : Array Value} {s : State} (h : (Jvm.Cond.and given_1 narrow_1).before args s = true) : (Cond.eq (.elem (.field (.string RX5 119) "java/lang/String" "value" "[B") (.int 1)) (.int 98)).before args s = true := flat_of_before _ h _ (List.mem_of_getElem? (i := 606) (by decide +kernel))
theorem gq_607 {args : Array Value} {s : State} (h : (Jvm.Cond.and given_1 narrow_1).before args s = true) : (Cond.eq (.elem (.field (.string RX5 119) "java/lang/String" "value" "[B") (.int 2)) (.int 99)).before args s = true := flat_of_before _ h _ (List.mem_of_getElem? (i := 607) (by decide +kernel))
theorem gq_608 {args : Array Value} {s : State} (h : (Jvm.Cond.and given_1 narrow_1).before args s = true) : (Cond.eq (.elem (.field (.string RX5 119) "java/lang/String" "value" "[B") (.int 3)) (.int 100)).before args s = true := flat_of_before _ h _ (List.mem_of_getElem? (i := 608) (by decide +kernel))
theorem gq_601 {args : Array Value} {s : State} (h : (Jvm.Cond.and given_1 narrow_1).before args s = true) : (Cond.exactly (.string RX5 119) "java/lang/String").before args s = true := flat_of_before _ h _ (List.mem_of_getElem? (i := 601) (by decide +kernel))
theorem gq_602 {args : Array Value} {s : State} (h : (Jvm.Cond.and given_1 narrow_1).before args s = true) : (Cond.eq (.field (.string RX5 119) "java/lang/String" "coder" "B") (.int 0)).before args s = true := flat_of_before _ h _ (List.mem_of_getElem? (i := 602) (by decide +kernel))
theorem gq_603 {args : Array Value} {s : State} (h : (Jvm.Cond.and given_1 narrow_1).before args s = true) : (Cond.arrayOf (.field (.string RX5 119) "java/lang/String" "value" "[B") .byte).before args s = true := flat_of_before _ h _ (List.mem_of_getElem? (i := 603) (by decide +kernel))
theorem gq_604 {args : Array Value} {s : State} (h : (Jvm.Cond.and given_1 narrow_1).before args s = true) : (Cond.eq (.length (.field (.string RX5 119) "java/lang/String" "value" "[B")) (.int 4)).before args s = true := flat_of_before _ h _ (List.mem_of_getElem? (i := 604) (by decide +kernel))
theorem gq_589 {args : Array Value} {s : State} (h : (Jvm.Cond.and given_1 narrow_1).before args s = true) : (Cond.eq (.string RX3 195) (.string RX5 9)).before args s = true := flat_of_before _ h _ (List.mem_of_getElem? (i := 589) (by decide +kernel))
theorem gq_218 {args : Array Value} {s : State} (h : (Jvm.Cond.and given_1 narrow_1).before args s = true) : (Cond.arrayOf (.static "java/util/ArrayList" "DEFAULTCAPACITY_EMPTY_ELEMENTDATA" "[Ljava/lang/Object;") (.object "java/lang/Object")).before args s = true := flat_of_before _ h _ (List.mem_of_getElem? (i := 218) (by decide +kernel))
theorem gq_220 {args : Array Value} {s : State} (h : (Jvm.Cond.and given_1 narrow_1).before args s = true) : (Cond.eq (.length (.static "java/util/ArrayList" "DEFAULTCAPACITY_EMPTY_ELEMENTDATA" "[Ljava/lang/Object;")) (.int 0)).before args s = true := flat_of_before _ h _ (List.mem_of_getElem? (i := 220) (by decide +kernel))
theorem gq_all {args : Array Value} {s : State} (h : (Jvm.Cond.and given_1 narrow_1).before args s = true) : (Cond.all (.static "java/lang/Integer$IntegerCache" "cache" "[Ljava/lang/Integer;") (.and (.exactly (.elem (.static "java/lang/Integer$IntegerCache" "cache" "[Ljava/lang/Integer;") (.index 0)) "java/lang/Integer") (.eq (.field (.elem (.static "java/lang/Integer$IntegerCache" "cache" "[Ljava/lang/Integer;") (.index 0)) "java/lang/Integer" "value" "I") (.sub (.index 0) (.int 128))))).before args s = true := flat_of_before _ h _ (List.mem_of_getElem? (i := 225) (by decide +kernel))
theorem gq_224 {args : Array Value} {s : State} (h : (Jvm.Cond.and given_1 narrow_1).before args s = true) : (Cond.eq (.length (.static "java/lang/Integer$IntegerCache" "cache" "[Ljava/lang/Integer;")) (.int 256)).before args s = true := flat_of_before _ h _ (List.mem_of_getElem? (i := 224) (by decide +kernel))
theorem gq_223 {args : Array Value} {s : State} (h : (Jvm.Cond.and given_1 narrow_1).before args s = true) : (Cond.arrayOf (.static "java/lang/Integer$IntegerCache" "cache" "[Ljava/lang/Integer;") (.object "java/lang/Integer")).before args s = true := flat_of_before _ h _ (List.mem_of_getElem? (i := 223) (by decide +kernel))
theorem gt_81 {args : Array Value} {s : State} (h : ∀ w ∈ lw_tbl, w.before args s = true) : (Cond.arrayOver (.object "Rewriterope$Text")).before args s = true := h _ (List.mem_of_getElem? (i := 81) (by decide +kernel))
theorem gt_1108 {args : Array Value} {s : State} (h : ∀ w ∈ lw_tbl, w.before args s = true) : (Cond.arrayOver (.object "java/lang/String")).before args s = true := h _ (List.mem_of_getElem? (i := 1108) (by decide +kernel))
theorem gt_1336 {args : Array Value} {s : State} (h : ∀ w ∈ lw_tbl, w.before args s = true) : (Cond.arrayOver (.object "java/lang/Object")).before args s = true := h _ (List.mem_of_getElem? (i := 1336) (by decide +kernel))
theorem gt_90 {args : Array Value} {s : State} (h : ∀ w ∈ lw_tbl, w.before args s = true) : (Cond.methodLinkNest RX1 20 yX2_init "Rewriterope").before args s = true := h _ (List.mem_of_getElem? (i := 90) (by decide +kernel))
theorem gt_144 {args : Array Value} {s : State} (h : ∀ w ∈ lw_tbl, w.before args s = true) : (Cond.methodLinkNest RX0 17 yX2_init "Rewriterope").before args s = true := h _ (List.mem_of_getElem? (i := 144) (by decide +kernel))
theorem gt_174 {args : Array Value} {s : State} (h : ∀ w ∈ lw_tbl, w.before args s = true) : (Cond.methodLinkNest RX3 31 yX2_init "Rewriterope").before args s = true := h _ (List.mem_of_getElem? (i := 174) (by decide +kernel))
theorem gt_787 {args : Array Value} {s : State} (h : ∀ w ∈ lw_tbl, w.before args s = true) : (Cond.methodLinkNest RX2 44 yX3_mix "Rewriterope").before args s = true := h _ (List.mem_of_getElem? (i := 787) (by decide +kernel))
theorem gt_795 {args : Array Value} {s : State} (h : ∀ w ∈ lw_tbl, w.before args s = true) : (Cond.methodLinkNest RL 121 yX4_init "RewriteropeLaw").before args s = true := h _ (List.mem_of_getElem? (i := 795) (by decide +kernel))
theorem gt_799 {args : Array Value} {s : State} (h : ∀ w ∈ lw_tbl, w.before args s = true) : (Cond.fieldLinkNest RL 13 "RewriteropeLaw$Out" "n" "J" "RewriteropeLaw").before args s = true := h _ (List.mem_of_getElem? (i := 799) (by decide +kernel))
theorem gt_800 {args : Array Value} {s : State} (h : ∀ w ∈ lw_tbl, w.before args s = true) : (Cond.fieldLinkNest RL 47 "RewriteropeLaw$Out" "s" "Ljava/lang/String;" "RewriteropeLaw").before args s = true := h _ (List.mem_of_getElem? (i := 800) (by decide +kernel))
theorem gt_821 {args : Array Value} {s : State} (h : ∀ w ∈ lw_tbl, w.before args s = true) : (Cond.castable "java/lang/IndexOutOfBoundsException" "java/lang/IndexOutOfBoundsException").before args s = true := h _ (List.mem_of_getElem? (i := 821) (by decide +kernel))
theorem gt_468 {args : Array Value} {s : State} (h : ∀ w ∈ lw_tbl, w.before args s = true) : (Cond.castable "java/lang/IllegalArgumentException" "java/lang/IllegalArgumentException").before args s = true := h _ (List.mem_of_getElem? (i := 468) (by decide +kernel))
theorem gt_851 {args : Array Value} {s : State} (h : ∀ w ∈ lw_tbl, w.before args s = true) : (Cond.castable "java/lang/IllegalStateException" "java/lang/IllegalStateException").before args s = true := h _ (List.mem_of_getElem? (i := 851) (by decide +kernel))
theorem gt_1619 {args : Array Value} {s : State} (h : ∀ w ∈ lw_tbl, w.before args s = true) : (Cond.castable "java/lang/Integer" "java/lang/Object").before args s = true := h _ (List.mem_of_getElem? (i := 1619) (by decide +kernel))
theorem gt_1618 {args : Array Value} {s : State} (h : ∀ w ∈ lw_tbl, w.before args s = true) : (Cond.castable "java/lang/String" "java/lang/Object").before args s = true := h _ (List.mem_of_getElem? (i := 1618) (by decide +kernel))
theorem gt_470 {args : Array Value} {s : State} (h : ∀ w ∈ lw_tbl, w.before args s = true) : (Cond.declares (Bundle.initS "java/lang/RuntimeException")).before args s = true := h _ (List.mem_of_getElem? (i := 470) (by decide +kernel))
theorem gt_472 {args : Array Value} {s : State} (h : ∀ w ∈ lw_tbl, w.before args s = true) : (Cond.declares (Bundle.initS "java/lang/Exception")).before args s = true := h _ (List.mem_of_getElem? (i := 472) (by decide +kernel))
theorem gt_474 {args : Array Value} {s : State} (h : ∀ w ∈ lw_tbl, w.before args s = true) : (Cond.declares (Bundle.initS Bundle.tN)).before args s = true := h _ (List.mem_of_getElem? (i := 474) (by decide +kernel))
theorem gq_233 {args : Array Value} {s : State} (h : (Jvm.Cond.and given_1 narrow_1).before args s = true) : (Cond.not (.castable "java/lang/IllegalArgumentException" "java/lang/IndexOutOfBoundsException")).before args s = true := flat_of_before _ h _ (List.mem_of_getElem? (i := 233) (by decide +kernel))
theorem gq_234 {args : Array Value} {s : State} (h : (Jvm.Cond.and given_1 narrow_1).before args s = true) : (Cond.not (.castable "java/lang/IllegalStateException" "java/lang/IndexOutOfBoundsException")).before args s = true := flat_of_before _ h _ (List.mem_of_getElem? (i := 234) (by decide +kernel))
theorem gq_246 {args : Array Value} {s : State} (h : (Jvm.Cond.and given_1 narrow_1).before args s = true) : (Cond.not (.castable "java/lang/IllegalStateException" "java/lang/IllegalArgumentException")).before args s = true := flat_of_before _ h _ (List.mem_of_getElem? (i := 246) (by decide +kernel))
theorem gt_275 {args : Array Value} {s : State} (h : ∀ w ∈ lw_tbl, w.before args s = true) : (Cond.stringRef RX3 195 "").before args s = true := h _ (List.mem_of_getElem? (i := 275) (by decide +kernel))
theorem gt_1109 {args : Array Value} {s : State} (h : ∀ w ∈ lw_tbl, w.before args s = true) : (Cond.stringRef RX5 9 "").before args s = true := h _ (List.mem_of_getElem? (i := 1109) (by decide +kernel))
theorem gt_1172 {args : Array Value} {s : State} (h : ∀ w ∈ lw_tbl, w.before args s = true) : (Cond.stringRef RX5 119 "abcd").before args s = true := h _ (List.mem_of_getElem? (i := 1172) (by decide +kernel))
theorem gt_828 {args : Array Value} {s : State} (h : ∀ w ∈ lw_tbl, w.before args s = true) : (Cond.stringRef RX3 278 "no such rope").before args s = true := h _ (List.mem_of_getElem? (i := 828) (by decide +kernel))
theorem gq_308 {args : Array Value} {s : State} (h : (Jvm.Cond.and given_1 narrow_1).before args s = true) : (Cond.exactly (.string RX3 278) "java/lang/String").before args s = true := flat_of_before _ h _ (List.mem_of_getElem? (i := 308) (by decide +kernel))
theorem gt_967 {args : Array Value} {s : State} (h : ∀ w ∈ lw_tbl, w.before args s = true) : (Cond.stringRef RX3 280 "no such rule").before args s = true := h _ (List.mem_of_getElem? (i := 967) (by decide +kernel))
theorem gq_429 {args : Array Value} {s : State} (h : (Jvm.Cond.and given_1 narrow_1).before args s = true) : (Cond.exactly (.string RX3 280) "java/lang/String").before args s = true := flat_of_before _ h _ (List.mem_of_getElem? (i := 429) (by decide +kernel))
theorem gt_889 {args : Array Value} {s : State} (h : ∀ w ∈ lw_tbl, w.before args s = true) : (Cond.stringRef RX3 282 "no such place").before args s = true := h _ (List.mem_of_getElem? (i := 889) (by decide +kernel))
theorem gq_381 {args : Array Value} {s : State} (h : (Jvm.Cond.and given_1 narrow_1).before args s = true) : (Cond.exactly (.string RX3 282) "java/lang/String").before args s = true := flat_of_before _ h _ (List.mem_of_getElem? (i := 381) (by decide +kernel))
theorem gt_839 {args : Array Value} {s : State} (h : ∀ w ∈ lw_tbl, w.before args s = true) : (Cond.stringRef RX3 284 "no such letter").before args s = true := h _ (List.mem_of_getElem? (i := 839) (by decide +kernel))
theorem gq_326 {args : Array Value} {s : State} (h : (Jvm.Cond.and given_1 narrow_1).before args s = true) : (Cond.exactly (.string RX3 284) "java/lang/String").before args s = true := flat_of_before _ h _ (List.mem_of_getElem? (i := 326) (by decide +kernel))
theorem gt_1011 {args : Array Value} {s : State} (h : ∀ w ∈ lw_tbl, w.before args s = true) : (Cond.stringRef RX3 286 "no such way").before args s = true := h _ (List.mem_of_getElem? (i := 1011) (by decide +kernel))
theorem gq_452 {args : Array Value} {s : State} (h : (Jvm.Cond.and given_1 narrow_1).before args s = true) : (Cond.exactly (.string RX3 286) "java/lang/String").before args s = true := flat_of_before _ h _ (List.mem_of_getElem? (i := 452) (by decide +kernel))
theorem gt_1025 {args : Array Value} {s : State} (h : ∀ w ∈ lw_tbl, w.before args s = true) : (Cond.stringRef RX3 180 "no such number of steps").before args s = true := h _ (List.mem_of_getElem? (i := 1025) (by decide +kernel))
theorem gq_475 {args : Array Value} {s : State} (h : (Jvm.Cond.and given_1 narrow_1).before args s = true) : (Cond.exactly (.string RX3 180) "java/lang/String").before args s = true := flat_of_before _ h _ (List.mem_of_getElem? (i := 475) (by decide +kernel))
theorem gt_1091 {args : Array Value} {s : State} (h : ∀ w ∈ lw_tbl, w.before args s = true) : (Cond.stringRef RX3 238 "no such peak").before args s = true := h _ (List.mem_of_getElem? (i := 1091) (by decide +kernel))
theorem gq_511 {args : Array Value} {s : State} (h : (Jvm.Cond.and given_1 narrow_1).before args s = true) : (Cond.exactly (.string RX3 238) "java/lang/String").before args s = true := flat_of_before _ h _ (List.mem_of_getElem? (i := 511) (by decide +kernel))
theorem gt_1100 {args : Array Value} {s : State} (h : ∀ w ∈ lw_tbl, w.before args s = true) : (Cond.stringRef RX3 250 "nothing of that number is counted").before args s = true := h _ (List.mem_of_getElem? (i := 1100) (by decide +kernel))
theorem gq_537 {args : Array Value} {s : State} (h : (Jvm.Cond.and given_1 narrow_1).before args s = true) : (Cond.exactly (.string RX3 250) "java/lang/String").before args s = true := flat_of_before _ h _ (List.mem_of_getElem? (i := 537) (by decide +kernel))
theorem gt_313 {args : Array Value} {s : State} (h : ∀ w ∈ lw_tbl, w.before args s = true) : (Cond.laysStatic "java/lang/String" "COMPACT_STRINGS" "Z").before args s = true := h _ (List.mem_of_getElem? (i := 313) (by decide +kernel))
theorem gt_61 {args : Array Value} {s : State} (h : ∀ w ∈ lw_tbl, w.before args s = true) : (Cond.initialized "java/lang/String").before args s = true := h _ (List.mem_of_getElem? (i := 61) (by decide +kernel))
theorem gq_4 {args : Array Value} {s : State} (h : (Jvm.Cond.and given_1 narrow_1).before args s = true) : (Cond.eq (.static "java/lang/String" "COMPACT_STRINGS" "Z") (.int 1)).before args s = true := flat_of_before _ h _ (List.mem_of_getElem? (i := 4) (by decide +kernel))
theorem gt_1123 {args : Array Value} {s : State} (h : ∀ w ∈ lw_tbl, w.before args s = true) : (Cond.laysStatic "java/util/ArrayList" "DEFAULTCAPACITY_EMPTY_ELEMENTDATA" "[Ljava/lang/Object;").before args s = true := h _ (List.mem_of_getElem? (i := 1123) (by decide +kernel))
theorem gt_50 {args : Array Value} {s : State} (h : ∀ w ∈ lw_tbl, w.before args s = true) : (Cond.initialized "java/util/ArrayList").before args s = true := h _ (List.mem_of_getElem? (i := 50) (by decide +kernel))
theorem gt_404 {args : Array Value} {s : State} (h : ∀ w ∈ lw_tbl, w.before args s = true) : (Cond.laysStatic "jdk/internal/util/Preconditions" "SIOOBE_FORMATTER" "Ljava/util/function/BiFunction;").before args s = true := h _ (List.mem_of_getElem? (i := 404) (by decide +kernel))
theorem gt_66 {args : Array Value} {s : State} (h : ∀ w ∈ lw_tbl, w.before args s = true) : (Cond.initialized "jdk/internal/util/Preconditions").before args s = true := h _ (List.mem_of_getElem? (i := 66) (by decide +kernel))
theorem gq_5 {args : Array Value} {s : State} (h : (Jvm.Cond.and given_1 narrow_1).before args s = true) : (Cond.isRef (.static "jdk/internal/util/Preconditions" "SIOOBE_FORMATTER" "Ljava/util/function/BiFunction;")).before args s = true := flat_of_before _ h _ (List.mem_of_getElem? (i := 5) (by decide +kernel))
theorem gt_493 {args : Array Value} {s : State} (h : ∀ w ∈ lw_tbl, w.before args s = true) : (Cond.laysStatic Bundle.tN "UNASSIGNED_STACK" Bundle.steD).before args s = true := h _ (List.mem_of_getElem? (i := 493) (by decide +kernel))
theorem gt_52 {args : Array Value} {s : State} (h : ∀ w ∈ lw_tbl, w.before args s = true) : (Cond.initialized Bundle.tN).before args s = true := h _ (List.mem_of_getElem? (i := 52) (by decide +kernel))
theorem gq_9 {args : Array Value} {s : State} (h : (Jvm.Cond.and given_1 narrow_1).before args s = true) : (Cond.isRef (.static Bundle.tN "UNASSIGNED_STACK" Bundle.steD)).before args s = true := flat_of_before _ h _ (List.mem_of_getElem? (i := 9) (by decide +kernel))
theorem gt_495 {args : Array Value} {s : State} (h : ∀ w ∈ lw_tbl, w.before args s = true) : (Cond.laysStatic Bundle.tN "SUPPRESSED_SENTINEL" Bundle.listD).before args s = true := h _ (List.mem_of_getElem? (i := 495) (by decide +kernel))
theorem gq_10 {args : Array Value} {s : State} (h : (Jvm.Cond.and given_1 narrow_1).before args s = true) : (Cond.isRef (.static Bundle.tN "SUPPRESSED_SENTINEL" Bundle.listD)).before args s = true := flat_of_before _ h _ (List.mem_of_getElem? (i := 10) (by decide +kernel))
theorem gt_1279 {args : Array Value} {s : State} (h : ∀ w ∈ lw_tbl, w.before args s = true) : (Cond.laysStatic "java/lang/Integer$IntegerCache" "high" "I").before args s = true := h _ (List.mem_of_getElem? (i := 1279) (by decide +kernel))
theorem gt_70 {args : Array Value} {s : State} (h : ∀ w ∈ lw_tbl, w.before args s = true) : (Cond.initialized "java/lang/Integer$IntegerCache").before args s = true := h _ (List.mem_of_getElem? (i := 70) (by decide +kernel))
theorem gq_221 {args : Array Value} {s : State} (h : (Jvm.Cond.and given_1 narrow_1).before args s = true) : (Cond.eq (.static "java/lang/Integer$IntegerCache" "high" "I") (.int 127)).before args s = true := flat_of_before _ h _ (List.mem_of_getElem? (i := 221) (by decide +kernel))
theorem gt_1281 {args : Array Value} {s : State} (h : ∀ w ∈ lw_tbl, w.before args s = true) : (Cond.laysStatic "java/lang/Integer$IntegerCache" "cache" "[Ljava/lang/Integer;").before args s = true := h _ (List.mem_of_getElem? (i := 1281) (by decide +kernel))
theorem gt_304 {args : Array Value} {s : State} (h : ∀ w ∈ lw_tbl, w.before args s = true) : (Cond.instantiable RJ4 4).before args s = true := h _ (List.mem_of_getElem? (i := 304) (by decide +kernel))
theorem gt_552 {args : Array Value} {s : State} (h : ∀ w ∈ lw_tbl, w.before args s = true) : (Cond.privateMethod yJ5_appendNull_278bc).before args s = true := h _ (List.mem_of_getElem? (i := 552) (by decide +kernel))
theorem gt_553 {args : Array Value} {s : State} (h : ∀ w ∈ lw_tbl, w.before args s = true) : (Cond.instanceMethod yJ5_appendNull_278bc).before args s = true := h _ (List.mem_of_getElem? (i := 553) (by decide +kernel))
theorem gt_346 {args : Array Value} {s : State} (h : ∀ w ∈ lw_tbl, w.before args s = true) : (Cond.privateMethod yJ5_ensureCapacityInternal_d00df).before args s = true := h _ (List.mem_of_getElem? (i := 346) (by decide +kernel))
theorem gt_347 {args : Array Value} {s : State} (h : ∀ w ∈ lw_tbl, w.before args s = true) : (Cond.instanceMethod yJ5_ensureCapacityInternal_d00df).before args s = true := h _ (List.mem_of_getElem? (i := 347) (by decide +kernel))
theorem gt_350 {args : Array Value} {s : State} (h : ∀ w ∈ lw_tbl, w.before args s = true) : (Cond.privateMethod yJ5_newCapacity_0f7a4).before args s = true := h _ (List.mem_of_getElem? (i := 350) (by decide +kernel))
theorem gt_351 {args : Array Value} {s : State} (h : ∀ w ∈ lw_tbl, w.before args s = true) : (Cond.instanceMethod yJ5_newCapacity_0f7a4).before args s = true := h _ (List.mem_of_getElem? (i := 351) (by decide +kernel))
theorem gt_568 {args : Array Value} {s : State} (h : ∀ w ∈ lw_tbl, w.before args s = true) : (Cond.privateMethod yJ5_putStringAt_47b60).before args s = true := h _ (List.mem_of_getElem? (i := 568) (by decide +kernel))
theorem gt_569 {args : Array Value} {s : State} (h : ∀ w ∈ lw_tbl, w.before args s = true) : (Cond.instanceMethod yJ5_putStringAt_47b60).before args s = true := h _ (List.mem_of_getElem? (i := 569) (by decide +kernel))
theorem gt_572 {args : Array Value} {s : State} (h : ∀ w ∈ lw_tbl, w.before args s = true) : (Cond.privateMethod yJ5_inflateIfNeededFor_a7421).before args s = true := h _ (List.mem_of_getElem? (i := 572) (by decide +kernel))
theorem gt_573 {args : Array Value} {s : State} (h : ∀ w ∈ lw_tbl, w.before args s = true) : (Cond.instanceMethod yJ5_inflateIfNeededFor_a7421).before args s = true := h _ (List.mem_of_getElem? (i := 573) (by decide +kernel))
theorem gt_385 {args : Array Value} {s : State} (h : ∀ w ∈ lw_tbl, w.before args s = true) : (Cond.privateMethod yJ5_inflate_da8c8).before args s = true := h _ (List.mem_of_getElem? (i := 385) (by decide +kernel))
theorem gt_386 {args : Array Value} {s : State} (h : ∀ w ∈ lw_tbl, w.before args s = true) : (Cond.instanceMethod yJ5_inflate_da8c8).before args s = true := h _ (List.mem_of_getElem? (i := 386) (by decide +kernel))
theorem gt_379 {args : Array Value} {s : State} (h : ∀ w ∈ lw_tbl, w.before args s = true) : (Cond.selects RJ4 ⟨"java/lang/AbstractStringBuilder", "isLatin1", "()Z"⟩ yJ5_isLatin1_aae02).before args s = true := h _ (List.mem_of_getElem? (i := 379) (by decide +kernel))
theorem wsL_law_in6 : ∀ w ∈ wsL_law, w ∈ lw_tbl ++ sel6 := fun w h => (List.mem_append.mp h).elim (fun h => (List.mem_append.mp h).elim (fun h => (List.mem_append.mp h).elim (fun h => wsL_law_in0 w h) (fun h => List.mem_append_left _ (wsL_law_x0 w h))) (fun h => List.mem_append_left _ (wsL_law_x1 w h))) (fun h => List.mem_append_left _ (wsL_law_x2 w h))
theorem wsL_law_hts {args : Array Value} {s : State} (hts : ∀ w ∈ lw_tbl, w.before args s = true) : ∀ w ∈ wsL_law, w.before args s = true := by
  have h0 := (gt_379 hts)
  have k : ∀ y ∈ ([yJ5_appendNull_278bc, yJ5_ensureCapacityInternal_d00df, yJ5_newCapacity_0f7a4, yJ5_putStringAt_47b60, yJ5_inflateIfNeededFor_a7421, yJ5_inflate_da8c8] : List MethodName), (Cond.selects RJ4 y y).before args s = true := by
    intro y hy
    simp only [List.mem_cons, List.not_mem_nil, or_false] at hy
    rcases hy with rfl | rfl | rfl | rfl | rfl | rfl
    · exact gv_selp (C := RJ4) (n := 4) (by decide +kernel) (gt_304 hts) (gt_552 hts) (gt_553 hts) h0 rfl
    · exact gv_selp (C := RJ4) (n := 4) (by decide +kernel) (gt_304 hts) (gt_346 hts) (gt_347 hts) h0 rfl
    · exact gv_selp (C := RJ4) (n := 4) (by decide +kernel) (gt_304 hts) (gt_350 hts) (gt_351 hts) h0 rfl
    · exact gv_selp (C := RJ4) (n := 4) (by decide +kernel) (gt_304 hts) (gt_568 hts) (gt_569 hts) h0 rfl
    · exact gv_selp (C := RJ4) (n := 4) (by decide +kernel) (gt_304 hts) (gt_572 hts) (gt_573 hts) h0 rfl
    · exact gv_selp (C := RJ4) (n := 4) (by decide +kernel) (gt_304 hts) (gt_385 hts) (gt_386 hts) h0 rfl
  intro w h
  rcases List.mem_append.mp (wsL_law_in6 w h) with h | h
  · exact hts w h
  · simp only [sel6, List.mem_cons, List.not_mem_nil, or_false] at h
    rcases h with rfl | rfl | rfl | rfl | rfl | rfl
    · exact k yJ5_appendNull_278bc (by decide +kernel)
    · exact k yJ5_ensureCapacityInternal_d00df (by decide +kernel)
    · exact k yJ5_newCapacity_0f7a4 (by decide +kernel)
    · exact k yJ5_putStringAt_47b60 (by decide +kernel)
    · exact k yJ5_inflateIfNeededFor_a7421 (by decide +kernel)
    · exact k yJ5_inflate_da8c8 (by decide +kernel)
