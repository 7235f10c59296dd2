theorem mem_r {big : List Cond} {ws : List Cond} (ps : List Nat) (hp : ws = ps.filterMap (fun i => big[i]?)) : ∀ w ∈ ws, w ∈ big := by
  intro w hw
  rw [hp] at hw
  obtain ⟨i, -, hi⟩ := List.mem_filterMap.mp hw
  exact List.mem_of_getElem? hi
set_option maxRecDepth 100000 in
theorem wl_1 : ∀ w ∈ wsL_law_r1, w ∈ lw_tbl := mem_r [96, 97, 80, 1053, 1054, 91, 98, 99, 100, 101, 102, 103, 161, 419, 420, 104, 105, 81, 421, 422, 164, 165, 82, 423] (by decide +kernel)
set_option maxRecDepth 100000 in
theorem wl_2 : ∀ w ∈ wsL_law_r2, w ∈ lw_tbl := mem_r [163, 424, 425, 221, 222, 86, 426, 427, 295, 296, 87, 428, 314, 315, 88, 429, 352, 353, 89, 430, 371, 372, 90, 431] (by decide +kernel)
set_option maxRecDepth 100000 in
theorem wl_3 : ∀ w ∈ wsL_law_r3, w ∈ lw_tbl := mem_r [432, 107, 108, 109, 110, 162, 114, 115, 117, 120, 122, 125, 126, 128, 130, 132, 134, 167, 168, 169, 170, 171, 83, 206] (by decide +kernel)
set_option maxRecDepth 100000 in
theorem wl_4 : ∀ w ∈ wsL_law_r4, w ∈ lw_tbl := mem_r [204, 207, 208, 210, 173, 174, 175, 178, 179, 180, 176, 181, 183, 185, 187, 224, 225, 226, 227, 229, 231, 232, 234, 237] (by decide +kernel)
set_option maxRecDepth 100000 in
theorem wl_5 : ∀ w ∈ wsL_law_r5, w ∈ lw_tbl := mem_r [239, 241, 243, 244, 245, 247, 249, 251, 252, 255, 258, 298, 299, 300, 301, 303, 305, 317, 318, 319, 320, 322, 323, 324] (by decide +kernel)
set_option maxRecDepth 100000 in
theorem wl_6 : ∀ w ∈ wsL_law_r6, w ∈ lw_tbl := mem_r [325, 326, 327, 328, 329, 331, 355, 356, 357, 358, 359, 360, 361, 374, 375, 376, 377, 379, 381, 383, 385, 418, 386, 387] (by decide +kernel)
set_option maxRecDepth 100000 in
theorem wl_7 : ∀ w ∈ wsL_law_r7, w ∈ lw_tbl := mem_r [388, 389, 390, 391, 392, 1055, 1056, 1057, 1058, 1059, 1060, 1064, 1070, 1071, 1072, 1073, 1074, 1075, 1076, 1077, 1078, 1079, 1080, 1081] (by decide +kernel)
set_option maxRecDepth 100000 in
theorem wl_8 : ∀ w ∈ wsL_law_r8, w ∈ lw_tbl := mem_r [1084, 1086, 1087, 1088, 1089, 1090, 1091, 1092, 1093, 1094, 1100, 1101, 1105, 1108, 1109, 1110, 1111, 1112, 1113, 1114, 1115, 1116, 1117, 1118] (by decide +kernel)
set_option maxRecDepth 100000 in
theorem wl_9 : ∀ w ∈ wsL_law_r9, w ∈ lw_tbl := mem_r [1121, 1122, 1123, 1125, 1126, 1127, 462, 463, 464, 465, 466, 468, 0, 469, 1586, 1587, 1588, 1589, 1061, 470, 471, 472, 473, 1590] (by decide +kernel)
set_option maxRecDepth 100000 in
theorem wl_10 : ∀ w ∈ wsL_law_r10, w ∈ lw_tbl := mem_r [1591, 1592, 1593, 474, 475, 476, 477, 123, 478, 479, 480, 481, 182, 513, 482, 483, 484, 485, 486, 487, 488, 489, 490, 491] (by decide +kernel)
set_option maxRecDepth 100000 in
theorem wl_11 : ∀ w ∈ wsL_law_r11, w ∈ lw_tbl := mem_r [92, 492, 493, 494, 495, 496, 511, 503, 497, 499, 1, 500, 501, 505, 507, 2, 508, 509, 514, 516, 3, 517, 518, 568] (by decide +kernel)
set_option maxRecDepth 100000 in
theorem wl_12 : ∀ w ∈ wsL_law_r12, w ∈ lw_tbl := mem_r [586, 519, 520, 521, 522, 523, 524, 525, 526, 527, 529, 4, 530, 186, 555, 561, 562, 531, 532, 533, 534, 535, 536, 537] (by decide +kernel)
set_option maxRecDepth 100000 in
theorem wl_13 : ∀ w ∈ wsL_law_r13, w ∈ lw_tbl := mem_r [538, 539, 541, 5, 542, 543, 545, 6, 546, 547, 548, 550, 552, 7, 553, 554, 184, 556, 558, 8, 559, 560, 188, 563] (by decide +kernel)
set_option maxRecDepth 100000 in
theorem wl_14 : ∀ w ∈ wsL_law_r14, w ∈ lw_tbl := mem_r [564, 565, 566, 567, 569, 570, 571, 572, 573, 575, 9, 576, 577, 578, 579, 580, 581, 582, 583, 584, 585, 587, 588, 589] (by decide +kernel)
set_option maxRecDepth 100000 in
theorem wl_15 : ∀ w ∈ wsL_law_r15, w ∈ lw_tbl := mem_r [590, 591, 593, 10, 594, 124, 599, 613, 595, 596, 597, 598, 600, 602, 11, 603, 604, 606, 12, 607, 608, 609, 611, 13] (by decide +kernel)
set_option maxRecDepth 100000 in
theorem wl_16 : ∀ w ∈ wsL_law_r16, w ∈ lw_tbl := mem_r [612, 614, 616, 14, 617, 618, 619, 620, 621, 622, 623, 625, 15, 626, 627, 628, 629, 630, 631, 1267, 1268, 1269, 1270, 1063] (by decide +kernel)
set_option maxRecDepth 100000 in
theorem wl_17 : ∀ w ∈ wsL_law_r17, w ∈ lw_tbl := mem_r [1062, 1066, 1082, 1083, 1067, 1119, 1124, 1085, 1271, 1273, 39, 1274, 1065, 1069, 1068, 1275, 1277, 40, 1278, 1279, 1280, 1281, 1282, 1283] (by decide +kernel)
set_option maxRecDepth 100000 in
theorem wl_18 : ∀ w ∈ wsL_law_r18, w ∈ lw_tbl := mem_r [1284, 1285, 1286, 1287, 1288, 1289, 1290, 1291, 1292, 1293, 1294, 1295, 1296, 1297, 1299, 41, 1300, 1301, 1303, 42, 1304, 1305, 1307, 43] (by decide +kernel)
set_option maxRecDepth 100000 in
theorem wl_19 : ∀ w ∈ wsL_law_r19, w ∈ lw_tbl := mem_r [1308, 1309, 1311, 44, 1312, 1313, 1315, 45, 1316, 1317, 1319, 46, 1320, 1321, 1323, 47, 1324, 1325, 1327, 48, 1328, 1329, 1331, 49] (by decide +kernel)
set_option maxRecDepth 100000 in
theorem wl_20 : ∀ w ∈ wsL_law_r20, w ∈ lw_tbl := mem_r [1332, 1333, 1335, 50, 1336, 1337, 1339, 51, 1340, 1341, 1343, 52, 1344, 1345, 1347, 53, 1348, 632, 633, 634, 635, 209, 211, 1349] (by decide +kernel)
set_option maxRecDepth 100000 in
theorem wl_21 : ∀ w ∈ wsL_law_r21, w ∈ lw_tbl := mem_r [1350, 1351, 1352, 636, 637, 638, 639, 640, 642, 16, 643, 113, 1353, 1354, 1355, 1356, 1357, 1359, 54, 1360, 1361, 1363, 55, 1364] (by decide +kernel)
set_option maxRecDepth 100000 in
theorem wl_22 : ∀ w ∈ wsL_law_r22, w ∈ lw_tbl := mem_r [1365, 1366, 1367, 644, 645, 646, 647, 648, 649, 650, 1368, 1369, 1370, 1371, 651, 652, 653, 654, 655, 657, 17, 658, 659, 660] (by decide +kernel)
set_option maxRecDepth 100000 in
theorem wl_23 : ∀ w ∈ wsL_law_r23, w ∈ lw_tbl := mem_r [661, 662, 663, 664, 93, 665, 666, 667, 668, 1372, 1373, 1374, 1375, 1102, 1376, 1378, 56, 1379, 1380, 1382, 57, 1383, 1384, 1386] (by decide +kernel)
set_option maxRecDepth 100000 in
theorem wl_24 : ∀ w ∈ wsL_law_r24, w ∈ lw_tbl := mem_r [58, 1387, 1388, 1390, 59, 1391, 669, 670, 671, 672, 257, 261, 673, 675, 18, 676, 677, 679, 19, 680, 681, 682, 683, 684] (by decide +kernel)
set_option maxRecDepth 100000 in
theorem wl_25 : ∀ w ∈ wsL_law_r25, w ∈ lw_tbl := mem_r [127, 131, 133, 112, 685, 687, 20, 688, 689, 690, 691, 692, 693, 694, 695, 696, 697, 698, 699, 700, 701, 702, 703, 704] (by decide +kernel)
set_option maxRecDepth 100000 in
theorem wl_26 : ∀ w ∈ wsL_law_r26, w ∈ lw_tbl := mem_r [705, 116, 706, 707, 708, 709, 710, 712, 21, 713, 714, 715, 716, 717, 719, 22, 720, 721, 722, 723, 724, 119, 725, 726] (by decide +kernel)
set_option maxRecDepth 100000 in
theorem wl_27 : ∀ w ∈ wsL_law_r27, w ∈ lw_tbl := mem_r [727, 728, 135, 729, 730, 731, 732, 733, 735, 23, 736, 737, 738, 739, 740, 741, 742, 743, 744, 745, 1392, 1393, 1394, 1395] (by decide +kernel)
set_option maxRecDepth 100000 in
theorem wl_28 : ∀ w ∈ wsL_law_r28, w ∈ lw_tbl := mem_r [1396, 1397, 1399, 60, 1400, 1401, 1403, 61, 1404, 1095, 1096, 1097, 1405, 1407, 62, 1408, 1098, 1099, 1409, 1410, 1412, 63, 1413, 1414] (by decide +kernel)
set_option maxRecDepth 100000 in
theorem wl_29 : ∀ w ∈ wsL_law_r29, w ∈ lw_tbl := mem_r [1415, 1416, 1417, 1419, 64, 1420, 1421, 1423, 65, 1424, 1425, 1427, 66, 1428, 1103, 1104, 1429, 1431, 67, 1432, 746, 747, 748, 749] (by decide +kernel)
set_option maxRecDepth 100000 in
theorem wl_30 : ∀ w ∈ wsL_law_r30, w ∈ lw_tbl := mem_r [750, 751, 752, 753, 754, 94, 755, 759, 757, 758, 760, 761, 762, 1433, 1434, 1435, 1436, 1440, 1437, 1438, 1439, 763, 764, 765] (by decide +kernel)
set_option maxRecDepth 100000 in
theorem wl_31 : ∀ w ∈ wsL_law_r31, w ∈ lw_tbl := mem_r [766, 246, 1441, 1442, 1443, 1444, 767, 768, 769, 770, 771, 772, 773, 774, 775, 1445, 1446, 1447, 1448, 1449, 1451, 68, 1452, 1453] (by decide +kernel)
set_option maxRecDepth 100000 in
theorem wl_32 : ∀ w ∈ wsL_law_r32, w ∈ lw_tbl := mem_r [1455, 69, 1456, 776, 777, 778, 779, 780, 781, 782, 783, 1457, 1458, 1459, 1460, 1461, 1463, 70, 1464, 1465, 1466, 1467, 784, 785] (by decide +kernel)
set_option maxRecDepth 100000 in
theorem wl_33 : ∀ w ∈ wsL_law_r33, w ∈ lw_tbl := mem_r [786, 787, 302, 304, 788, 789, 790, 791, 792, 793, 794, 795, 796, 797, 798, 799, 800, 801, 256, 259, 242, 240, 802, 804] (by decide +kernel)
set_option maxRecDepth 100000 in
theorem wl_34 : ∀ w ∈ wsL_law_r34, w ∈ lw_tbl := mem_r [24, 805, 236, 238, 806, 1468, 1469, 1470, 1471, 1107, 1106, 1472, 1474, 71, 1475, 1476, 1478, 72, 1479, 1480, 1482, 73, 1483, 807] (by decide +kernel)
set_option maxRecDepth 100000 in
theorem wl_35 : ∀ w ∈ wsL_law_r35, w ∈ lw_tbl := mem_r [808, 809, 810, 306, 1484, 1485, 1486, 1487, 811, 812, 813, 814, 254, 815, 816, 817, 818, 819, 821, 25, 822, 129, 823, 824] (by decide +kernel)
set_option maxRecDepth 100000 in
theorem wl_36 : ∀ w ∈ wsL_law_r36, w ∈ lw_tbl := mem_r [825, 826, 827, 828, 829, 830, 831, 832, 1488, 1489, 1490, 1491, 1492, 833, 834, 835, 836, 837, 1493, 1494, 1495, 1496, 838, 839] (by decide +kernel)
set_option maxRecDepth 100000 in
theorem wl_37 : ∀ w ∈ wsL_law_r37, w ∈ lw_tbl := mem_r [840, 841, 842, 843, 844, 845, 846, 847, 1497, 1498, 1499, 1500, 848, 849, 850, 851, 852, 853, 854, 855, 856, 858, 26, 859] (by decide +kernel)
set_option maxRecDepth 100000 in
theorem wl_38 : ∀ w ∈ wsL_law_r38, w ∈ lw_tbl := mem_r [860, 861, 863, 27, 864, 865, 866, 867, 868, 869, 1501, 1502, 1503, 1504, 1505, 1506, 1507, 870, 871, 872, 873, 330, 332, 874] (by decide +kernel)
set_option maxRecDepth 100000 in
theorem wl_39 : ∀ w ∈ wsL_law_r39, w ∈ lw_tbl := mem_r [875, 876, 877, 230, 121, 111, 878, 879, 880, 882, 28, 883, 235, 118, 884, 885, 886, 888, 29, 889, 250, 248, 890, 891] (by decide +kernel)
set_option maxRecDepth 100000 in
theorem wl_40 : ∀ w ∈ wsL_law_r40, w ∈ lw_tbl := mem_r [892, 893, 894, 896, 30, 897, 898, 899, 900, 901, 902, 903, 904, 906, 31, 907, 908, 910, 32, 911, 912, 914, 33, 915] (by decide +kernel)
set_option maxRecDepth 100000 in
theorem wl_41 : ∀ w ∈ wsL_law_r41, w ∈ lw_tbl := mem_r [1508, 1509, 1510, 1511, 1512, 1514, 74, 1515, 1516, 1517, 1518, 1519, 1521, 75, 1522, 916, 917, 918, 919, 920, 921, 922, 923, 1573] (by decide +kernel)
set_option maxRecDepth 100000 in
theorem wl_42 : ∀ w ∈ wsL_law_r42, w ∈ lw_tbl := mem_r [1574, 1575, 1576, 924, 925, 926, 927, 937, 928, 930, 34, 931, 936, 932, 933, 934, 935, 1565, 1566, 1567, 1568, 1569, 1571, 78] (by decide +kernel)
set_option maxRecDepth 100000 in
theorem wl_43 : ∀ w ∈ wsL_law_r43, w ∈ lw_tbl := mem_r [1572, 938, 939, 940, 941, 942, 943, 944, 945, 946, 947, 948, 949, 253, 260, 233, 950, 951, 952, 953, 954, 956, 35, 957] (by decide +kernel)
set_option maxRecDepth 100000 in
theorem wl_44 : ∀ w ∈ wsL_law_r44, w ∈ lw_tbl := mem_r [958, 959, 960, 961, 962, 95, 963, 964, 965, 966, 967, 1577, 1578, 1579, 1580, 1581, 968, 969, 970, 971, 972, 973, 974, 975] (by decide +kernel)
set_option maxRecDepth 100000 in
theorem wl_45 : ∀ w ∈ wsL_law_r45, w ∈ lw_tbl := mem_r [976, 978, 36, 979, 1557, 1558, 1559, 1560, 980, 981, 982, 983, 984, 985, 986, 987, 988, 990, 37, 991, 1561, 1562, 1563, 1564] (by decide +kernel)
set_option maxRecDepth 100000 in
theorem wl_46 : ∀ w ∈ wsL_law_r46, w ∈ lw_tbl := mem_r [1544, 1546, 77, 1547, 992, 993, 994, 995, 996, 997, 998, 999, 1000, 1001, 1002, 1003, 1004, 1005, 1523, 1524, 1525, 1526, 1120, 1006] (by decide +kernel)
set_option maxRecDepth 100000 in
theorem wl_47 : ∀ w ∈ wsL_law_r47, w ∈ lw_tbl := mem_r [1007, 1008, 1009, 1010, 1011, 1012, 1013, 1527, 1528, 1529, 1530, 1014, 1015, 1016, 1017, 1018, 1531, 1532, 1533, 1534, 1535, 1019, 1020, 1021] (by decide +kernel)
set_option maxRecDepth 100000 in
theorem wl_48 : ∀ w ∈ wsL_law_r48, w ∈ lw_tbl := mem_r [1022, 1023, 1024, 1025, 1026, 1027, 1029, 38, 1030, 1536, 1537, 1538, 1539, 1540, 1542, 76, 1543, 1031, 1032, 1033, 1034, 382, 380, 1035] (by decide +kernel)
set_option maxRecDepth 100000 in
theorem wl_49 : ∀ w ∈ wsL_law_r49, w ∈ lw_tbl := mem_r [1036, 1037, 1038, 1039, 1040, 1548, 1549, 1550, 1551, 1552, 1041, 1042, 1043, 1044, 378, 384, 1045, 1046, 1047, 1048, 1553, 1554, 1555, 1556] (by decide +kernel)
set_option maxRecDepth 100000 in
theorem wl_50 : ∀ w ∈ wsL_law_r50, w ∈ lw_tbl := mem_r [1049, 1050, 1051, 1052, 1582, 1583, 1584, 1585] (by decide +kernel)
set_option maxRecDepth 100000 in
theorem inX10 : ∀ w ∈ wsX100, w ∈ lw_tbl := mem_r [433, 435, 437, 439, 441, 443, 445, 447, 449, 451, 453, 455, 457, 459] (by decide +kernel)
set_option maxRecDepth 100000 in
theorem inX11 : ∀ w ∈ wsX110, w ∈ lw_tbl := mem_r [1128, 1130, 1132, 1134, 1136, 1138, 1140, 1142, 1144, 1146, 1148, 1150, 1152, 1154, 1156, 1158, 1160, 1162, 1164, 1166, 1168, 1170, 1172, 1174, 1176, 1178, 1180, 1182, 1184, 1186, 1188, 1190, 1192, 1194, 1196, 1198, 1200, 1202, 1204, 1206, 1208, 1210, 1212, 1214, 1216, 1218, 1220, 1222, 1224, 1226, 1228, 1230, 1232, 1234, 1236, 1238, 1240, 1242, 1244, 1246, 1248, 1250, 1252, 1254, 1256, 1258, 1260, 1262, 1264] (by decide +kernel)
set_option maxRecDepth 100000 in
theorem inX7 : ∀ w ∈ wsX70, w ∈ lw_tbl := mem_r [136, 138, 140, 142, 144, 146, 148, 150, 152, 154, 156, 158] (by decide +kernel)
set_option maxRecDepth 100000 in
theorem inX4 : ∀ w ∈ wsX40, w ∈ lw_tbl := mem_r [212, 214, 216, 218] (by decide +kernel)
set_option maxRecDepth 100000 in
theorem inX3 : ∀ w ∈ wsX30, w ∈ lw_tbl := mem_r [262, 264, 266, 268, 270, 272, 274, 276, 278, 280, 282, 284, 286, 288, 290, 292] (by decide +kernel)
set_option maxRecDepth 100000 in
theorem inX1 : ∀ w ∈ wsX10, w ∈ lw_tbl := mem_r [307, 309, 311] (by decide +kernel)
set_option maxRecDepth 100000 in
theorem inX0 : ∀ w ∈ wsX00, w ∈ lw_tbl := mem_r [333, 335, 337, 339, 341, 343, 345, 347, 349] (by decide +kernel)
set_option maxRecDepth 100000 in
theorem inX8 : ∀ w ∈ wsX80, w ∈ lw_tbl := mem_r [362, 364, 366, 368] (by decide +kernel)
set_option maxRecDepth 100000 in
theorem inX6 : ∀ w ∈ wsX60, w ∈ lw_tbl := mem_r [393, 395, 397, 399, 401, 403, 405, 407, 409, 411, 413, 415] (by decide +kernel)
set_option maxRecDepth 100000 in
theorem inX9 : ∀ w ∈ wsX90, w ∈ lw_tbl := mem_r [189, 191, 193, 195, 197, 199, 201] (by decide +kernel)
