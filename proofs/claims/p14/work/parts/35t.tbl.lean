theorem mem_by {big ws : List Cond} (ps : List Nat) (hp : ws.map some = ps.map (fun i => big[i]?)) : ∀ w ∈ ws, w ∈ big := fun w hw => by
  have h1 : some w ∈ ps.map (fun i => big[i]?) := by rw [← hp]; exact List.mem_map_of_mem hw
  obtain ⟨i, -, hi⟩ := List.mem_map.mp h1
  exact List.mem_of_getElem? hi
set_option maxRecDepth 100000 in
theorem wt0 : ∀ w ∈ wc0, w ∈ lw_tbl := mem_by [270, 271, 121, 122, 272, 273, 528, 170, 629, 150, 630, 689, 626, 628, 3, 98, 735, 736, 687, 688, 730, 731, 526, 527, 96, 732, 734, 10, 102, 517, 722, 515, 516, 740, 748, 744, 745, 746, 747, 953] rfl
set_option maxRecDepth 100000 in
theorem wt1 : ∀ w ∈ wc1, w ∈ lw_tbl := mem_by [726, 721, 723, 724, 725, 431, 672, 171, 761, 164, 762, 429, 430, 669, 670, 671, 676, 757, 758, 759, 760, 763, 674, 675, 764, 756, 680, 589, 136, 753, 755, 11, 765, 678, 679, 766, 587, 588, 97, 752] rfl
set_option maxRecDepth 100000 in
theorem wt2 : ∀ w ∈ wc2, w ∈ lw_tbl := mem_by [585, 775, 776, 777, 771, 583, 584, 772, 773, 774, 770, 664, 668, 659, 660, 157, 661, 662, 663, 665, 666, 667, 443, 135, 943, 938, 657, 658, 939, 441, 442, 940, 941, 942, 937, 573, 574, 422, 423, 948] rfl
set_option maxRecDepth 100000 in
theorem wt3 : ∀ w ∈ wc3, w ∈ lw_tbl := mem_by [571, 572, 949, 420, 421, 947, 305, 306, 143, 307, 912, 915, 918, 908, 309, 909, 910, 911, 105, 913, 914, 916, 917, 114, 899, 562, 895, 896, 898, 18, 900, 560, 561, 1147, 1148, 1149, 113, 1150, 1154, 1144] rfl
set_option maxRecDepth 100000 in
theorem wt4 : ∀ w ∈ wc4, w ∈ lw_tbl := mem_by [1145, 1146, 889, 890, 891, 783, 784, 923, 1136, 1139, 1133, 1134, 1135, 113, 1137, 1138, 1143, 1130, 1132, 40, 1140, 1142, 41, 1129, 1173, 1181, 299, 300, 315, 316, 317, 301, 302, 318, 319, 320, 304, 882, 883, 884] rfl
set_option maxRecDepth 100000 in
theorem wt5 : ∀ w ∈ wc5, w ∈ lw_tbl := mem_by [885, 886, 887, 888, 892, 893, 894, 881, 905, 906, 907, 919, 920, 921, 922, 924, 904, 321, 322, 1107, 1116, 1112, 1113, 1115, 38, 104, 1104, 1106, 36, 1108, 1109, 1111, 37, 1117, 1103, 1125, 797, 798, 799, 793] rfl
set_option maxRecDepth 100000 in
theorem wt6 : ∀ w ∈ wc6, w ∈ lw_tbl := mem_by [794, 795, 796, 803, 1160, 1161, 801, 802, 1151, 1152, 1153, 1155, 791, 792, 1159, 1122, 1124, 39, 1126, 1127, 1128, 1156, 1158, 42, 1121, 1170, 1171, 1172, 1169, 1178, 1179, 1180, 1177, 1166, 1168, 43, 1174, 1176, 44, 1165] rfl
set_option maxRecDepth 100000 in
theorem wt7 : ∀ w ∈ wc7, w ∈ lw_tbl := mem_by [344, 345, 346, 347, 348, 349, 1078, 350, 351, 352, 353, 354, 356, 1079, 355, 1089, 1074, 1090, 1091, 1092, 1088, 1096, 1085, 1087, 34, 106, 1093, 1095, 35, 1084, 1067, 1068, 1075, 1077, 32, 1080, 1081, 1083, 33, 1097] rfl
set_option maxRecDepth 100000 in
theorem wt8 : ∀ w ∈ wc8, w ∈ lw_tbl := mem_by [1098, 1065, 1066, 1099, 1073, 186, 187, 188, 189, 656, 673, 655, 684, 685, 702, 706, 707, 698, 708, 699, 700, 701, 703, 705, 7, 99, 193, 198, 203, 207, 216, 221, 694, 682, 683, 695, 697, 6, 693, 133] rfl
set_option maxRecDepth 100000 in
theorem wt9 : ∀ w ∈ wc9, w ∈ lw_tbl := mem_by [134, 142, 148, 149, 127, 128, 129, 130, 144, 145, 132, 147, 842, 843, 834, 829, 821, 816, 558, 559, 608, 609, 638, 625, 650, 651, 257, 258, 259, 260, 964, 960, 965, 972, 973, 974, 978, 979, 970, 971] rfl
set_option maxRecDepth 100000 in
theorem wt10 : ∀ w ∈ wc10, w ∈ lw_tbl := mem_by [101, 961, 963, 20, 975, 977, 22, 969, 959, 958, 966, 968, 21, 957, 987, 832, 833, 991, 988, 990, 23, 995, 984, 827, 828, 985, 986, 840, 841, 992, 994, 24, 983, 283, 284, 285, 286, 287, 1008, 1009] rfl
set_option maxRecDepth 100000 in
theorem wt11 : ∀ w ∈ wc11, w ∈ lw_tbl := mem_by [1010, 1011, 819, 820, 1012, 1007, 1021, 1017, 1025, 1026, 814, 815, 1018, 1020, 26, 103, 1022, 1024, 27, 1016, 1038, 1035, 1037, 28, 1046, 1042, 1039, 1041, 29, 1034, 1059, 1055, 1056, 1058, 31, 1054, 1051, 1053, 30, 1050] rfl
set_option maxRecDepth 100000 in
theorem wt12 : ∀ w ∈ wc12, w ∈ lw_tbl := mem_by [1064, 1069, 1063, 244, 245, 246, 247, 789, 790, 800, 788, 782, 785, 787, 12, 100, 781, 859, 860, 858, 812, 813, 826, 830, 808, 831, 825, 844, 839, 845, 838, 849, 817, 850, 809, 811, 13, 818, 822, 824] rfl
set_option maxRecDepth 100000 in
theorem wt13 : ∀ w ∈ wc13, w ∈ lw_tbl := mem_by [14, 835, 837, 15, 846, 848, 16, 807, 855, 857, 17, 929, 606, 607, 873, 805, 806, 928, 872, 871, 877, 861, 556, 557, 854, 866, 867, 865, 1003, 1000, 1002, 25, 1030, 999, 120, 123, 124, 380, 182, 183] rfl
set_option maxRecDepth 100000 in
theorem wt14 : ∀ w ∈ wc14, w ∈ lw_tbl := mem_by [381, 240, 241, 382, 253, 254, 383, 266, 267, 384, 279, 280, 385, 295, 296, 386, 340, 341, 387, 388, 126, 184, 185, 242, 243, 255, 256, 268, 269, 281, 282, 297, 298, 342, 343, 119, 451, 452, 111, 514] rfl
set_option maxRecDepth 100000 in
theorem wt15 : ∀ w ∈ wc15, w ∈ lw_tbl := mem_by [524, 525, 414, 418, 419, 539, 536, 540, 112, 537, 538, 95, 555, 569, 570, 581, 582, 586, 596, 389, 604, 605, 603, 435, 428, 427, 432, 434, 0, 639, 641, 635, 636, 637, 634, 647, 648, 649, 622, 623] rfl
set_option maxRecDepth 100000 in
theorem wt16 : ∀ w ∈ wc16, w ∈ lw_tbl := mem_by [624, 652, 653, 654, 677, 681, 686, 690, 691, 692, 646, 713, 712, 718, 719, 720, 727, 728, 729, 737, 738, 739, 741, 742, 743, 749, 750, 751, 767, 768, 769, 631, 633, 4, 778, 779, 780, 804, 851, 852] rfl
set_option maxRecDepth 100000 in
theorem wt17 : ∀ w ∈ wc17, w ∈ lw_tbl := mem_by [853, 862, 863, 864, 868, 869, 870, 874, 875, 876, 878, 879, 880, 901, 902, 903, 925, 926, 927, 717, 934, 935, 936, 944, 945, 946, 950, 951, 952, 954, 955, 956, 980, 981, 982, 996, 997, 998, 1004, 1005] rfl
set_option maxRecDepth 100000 in
theorem wt18 : ∀ w ∈ wc18, w ∈ lw_tbl := mem_by [1006, 1013, 1014, 1015, 1027, 1028, 1029, 1031, 1032, 1033, 1043, 1044, 1045, 1047, 1048, 1049, 1060, 1061, 1062, 1070, 1071, 1072, 1100, 1101, 1102, 1118, 1119, 1120, 1162, 1163, 1164, 933, 643, 645, 5, 709, 711, 8, 714, 716] rfl
set_option maxRecDepth 100000 in
theorem wt19 : ∀ w ∈ wc19, w ∈ lw_tbl := mem_by [9, 930, 932, 19, 621, 617, 425, 426, 618, 620, 2, 616, 1188, 439, 440, 1193, 1194, 1196, 1197, 1198, 1209, 1210, 1214, 1216, 1218, 1219, 1220, 1277, 1195, 1281, 1295, 1204, 1205, 1206, 1207, 1289, 1199, 1200, 1201, 1290] rfl
set_option maxRecDepth 100000 in
theorem wt20 : ∀ w ∈ wc20, w ∈ lw_tbl := mem_by [1202, 1291, 1203, 1296, 1292, 1294, 46, 107, 1304, 1305, 1306, 1285, 1286, 1288, 45, 1300, 1301, 1303, 47, 1326, 1317, 1318, 1313, 1310, 1311, 1312, 1314, 1316, 48, 1322, 1323, 1325, 49, 1330, 1334, 1367, 1211, 1363, 1364, 1366] rfl
set_option maxRecDepth 100000 in
theorem wt21 : ∀ w ∈ wc21, w ∈ lw_tbl := mem_by [54, 1371, 1406, 1355, 1418, 1424, 1421, 1415, 1212, 1416, 1417, 1386, 1382, 1383, 1385, 58, 1473, 1360, 1362, 53, 1368, 1370, 55, 1428, 1436, 1419, 1420, 1432, 1437, 1438, 1439, 1433, 1435, 68, 1411, 1412, 1414, 65, 1422, 1423] rfl
set_option maxRecDepth 100000 in
theorem wt22 : ∀ w ∈ wc22, w ∈ lw_tbl := mem_by [1425, 1427, 66, 1429, 1431, 67, 1410, 1465, 1215, 1217, 1543, 1532, 1547, 1457, 1529, 1530, 1531, 1454, 1456, 72, 1544, 1546, 92, 1541, 1542, 1526, 1528, 89, 1551, 1536, 1540, 1398, 1402, 1403, 1405, 63, 1213, 1395, 1397, 61] rfl
set_option maxRecDepth 100000 in
theorem wt23 : ∀ w ∈ wc23, w ∈ lw_tbl := mem_by [1399, 1401, 62, 1407, 1409, 64, 1394, 1447, 1452, 1453, 1451, 1462, 1464, 74, 1461, 1470, 1472, 76, 1469, 1379, 1381, 57, 1444, 1446, 70, 1448, 1450, 71, 1458, 1460, 73, 1466, 1468, 75, 1443, 1481, 1485, 1489, 1493, 1478] rfl
set_option maxRecDepth 100000 in
theorem wt24 : ∀ w ∈ wc24, w ∈ lw_tbl := mem_by [1480, 78, 1482, 1484, 79, 1486, 1488, 80, 1490, 1492, 81, 1477, 1504, 1501, 1502, 1503, 1508, 1509, 1521, 1517, 1518, 1520, 87, 1533, 1535, 90, 1537, 1539, 91, 1548, 1550, 93, 1525, 1513, 1498, 1500, 83, 1505, 1507, 84] rfl
set_option maxRecDepth 100000 in
theorem wt25 : ∀ w ∈ wc25, w ∈ lw_tbl := mem_by [1510, 1512, 85, 1514, 1516, 86, 1522, 1524, 88, 1497, 1391, 1393, 60, 1440, 1442, 69, 1474, 1476, 77, 1494, 1496, 82, 1390, 1374, 1378, 1372, 1373, 1352, 1354, 51, 1375, 1377, 56, 1387, 1389, 59, 1359, 1338, 1208, 1342] rfl
set_option maxRecDepth 100000 in
theorem wt26 : ∀ w ∈ wc26, w ∈ lw_tbl := mem_by [1343, 1351, 1348, 1350, 50, 1356, 1358, 52, 1347, 1555, 1559, 784, 1150, 446, 447, 448, 449, 450, 520, 521, 522, 523, 531, 532, 533, 534, 535, 565, 566, 567, 568, 577, 578, 579, 580, 592, 593, 594, 595, 600] rfl
set_option maxRecDepth 100000 in
theorem wt27 : ∀ w ∈ wc27, w ∈ lw_tbl := mem_by [601, 602, 599, 613, 614, 615, 612, 1184, 1185, 1186, 1187, 115, 116, 1189, 1190, 1561, 1560, 117, 118, 1191, 1192, 444, 445, 94, 1274, 1275, 1276, 518, 519, 1278, 1279, 1280, 411, 412, 413, 1282, 1283, 1284, 415, 416] rfl
set_option maxRecDepth 100000 in
theorem wt28 : ∀ w ∈ wc28, w ∈ lw_tbl := mem_by [417, 1297, 1298, 1299, 529, 530, 1307, 1308, 1309, 563, 564, 1319, 1320, 1321, 575, 576, 1327, 1328, 1329, 590, 591, 1335, 1336, 1337, 597, 598, 1339, 1340, 1341, 610, 611, 1344, 1345, 1346, 424, 1552, 1553, 1554, 1182, 1183] rfl
set_option maxRecDepth 100000 in
theorem wt29 : ∀ w ∈ wc29, w ∈ lw_tbl := mem_by [1556, 1557, 1558, 436, 437, 438, 1331, 1332, 1333] rfl
set_option maxRecDepth 100000 in
theorem wtX0 : ∀ w ∈ wsX00, w ∈ lw_tbl := by decide +kernel
set_option maxRecDepth 100000 in
theorem wtX1 : ∀ w ∈ wsX10, w ∈ lw_tbl := by decide +kernel
set_option maxRecDepth 100000 in
theorem wtX2 : ∀ w ∈ wsX20, w ∈ lw_tbl := by decide +kernel
set_option maxRecDepth 100000 in
theorem wtX3 : ∀ w ∈ wsX30, w ∈ lw_tbl := by decide +kernel
set_option maxRecDepth 100000 in
theorem wtX4 : ∀ w ∈ wsX40, w ∈ lw_tbl := by decide +kernel
set_option maxRecDepth 100000 in
theorem wtX5 : ∀ w ∈ wsX50, w ∈ lw_tbl := by decide +kernel
set_option maxRecDepth 100000 in
theorem wtX6 : ∀ w ∈ wsX60, w ∈ lw_tbl := by decide +kernel
set_option maxRecDepth 100000 in
theorem wtX7 : ∀ w ∈ wsX70, w ∈ lw_tbl := by decide +kernel
set_option maxRecDepth 100000 in
theorem wtX8 : ∀ w ∈ wsX80, w ∈ lw_tbl := by decide +kernel
set_option maxRecDepth 100000 in
theorem wtX9 : ∀ w ∈ wsX90, w ∈ lw_tbl := by decide +kernel
set_option maxRecDepth 100000 in
theorem wtX10 : ∀ w ∈ wsX100, w ∈ lw_tbl := by decide +kernel
set_option maxRecDepth 100000 in
theorem wtX11 : ∀ w ∈ wsX110, w ∈ lw_tbl := by decide +kernel
set_option maxRecDepth 100000 in
theorem wtX12 : ∀ w ∈ wsX120, w ∈ lw_tbl := by decide +kernel
set_option maxRecDepth 100000 in
theorem wtv0 : ∀ w ∈ vxw0.filter goodWord, w ∈ lw_tbl := by decide +kernel
set_option maxRecDepth 100000 in
theorem wtv1 : ∀ w ∈ vxw1.filter goodWord, w ∈ lw_tbl := by decide +kernel
theorem WSA_tbl : ∀ w ∈ WSA, w ∈ lw_tbl := List.forall_mem_append.mpr ⟨wt0, List.forall_mem_append.mpr ⟨wt1, List.forall_mem_append.mpr ⟨wt2, List.forall_mem_append.mpr ⟨wt3, List.forall_mem_append.mpr ⟨wt4, List.forall_mem_append.mpr ⟨wt5, List.forall_mem_append.mpr ⟨wt6, List.forall_mem_append.mpr ⟨wt7, List.forall_mem_append.mpr ⟨wt8, List.forall_mem_append.mpr ⟨wt9, List.forall_mem_append.mpr ⟨wt10, List.forall_mem_append.mpr ⟨wt11, List.forall_mem_append.mpr ⟨wt12, List.forall_mem_append.mpr ⟨wt13, List.forall_mem_append.mpr ⟨wt14, List.forall_mem_append.mpr ⟨wt15, List.forall_mem_append.mpr ⟨wt16, List.forall_mem_append.mpr ⟨wt17, List.forall_mem_append.mpr ⟨wt18, List.forall_mem_append.mpr ⟨wt19, List.forall_mem_append.mpr ⟨wt20, List.forall_mem_append.mpr ⟨wt21, List.forall_mem_append.mpr ⟨wt22, List.forall_mem_append.mpr ⟨wt23, List.forall_mem_append.mpr ⟨wt24, List.forall_mem_append.mpr ⟨wt25, List.forall_mem_append.mpr ⟨wt26, List.forall_mem_append.mpr ⟨wt27, List.forall_mem_append.mpr ⟨wt28, List.forall_mem_append.mpr ⟨wt29, List.forall_mem_append.mpr ⟨wtX0, List.forall_mem_append.mpr ⟨wtX1, List.forall_mem_append.mpr ⟨wtX2, List.forall_mem_append.mpr ⟨wtX3, List.forall_mem_append.mpr ⟨wtX4, List.forall_mem_append.mpr ⟨wtX5, List.forall_mem_append.mpr ⟨wtX6, List.forall_mem_append.mpr ⟨wtX7, List.forall_mem_append.mpr ⟨wtX8, List.forall_mem_append.mpr ⟨wtX9, List.forall_mem_append.mpr ⟨wtX10, List.forall_mem_append.mpr ⟨wtX11, List.forall_mem_append.mpr ⟨wtX12, List.forall_mem_append.mpr ⟨wtv0, wtv1⟩⟩⟩⟩⟩⟩⟩⟩⟩⟩⟩⟩⟩⟩⟩⟩⟩⟩⟩⟩⟩⟩⟩⟩⟩⟩⟩⟩⟩⟩⟩⟩⟩⟩⟩⟩⟩⟩⟩⟩⟩⟩⟩⟩
