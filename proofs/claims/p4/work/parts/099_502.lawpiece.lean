set_option maxRecDepth 20000 in
theorem wli_r22 : ∀ w ∈ wsL_law_r22, w ∈ lw_tbl := vq_places [717, 718, 719, 144, 158, 162, 172, 720, 722, 19, 723, 178, 182, 194, 199, 1457, 1458, 1459, 1460, 1461, 1462, 1463, 1464, 724] (by decide +kernel)
set_option maxRecDepth 20000 in
theorem wli_r23 : ∀ w ∈ wsL_law_r23, w ∈ lw_tbl := vq_places [725, 726, 727, 186, 728, 730, 20, 731, 732, 734, 21, 735, 1465, 1466, 1467, 1468, 1469, 1471, 67, 1472, 1473, 1475, 68, 1476] (by decide +kernel)
set_option maxRecDepth 20000 in
theorem wli_r24 : ∀ w ∈ wsL_law_r24, w ∈ lw_tbl := vq_places [1477, 1479, 69, 1480, 736, 737, 738, 739, 740, 741, 742, 743, 744, 745, 111, 746, 1481, 1482, 1483, 1484, 1485, 1486, 1488, 70] (by decide +kernel)
set_option maxRecDepth 20000 in
theorem wli_r25 : ∀ w ∈ wsL_law_r25, w ∈ lw_tbl := vq_places [1489, 747, 748, 749, 750, 1490, 1491, 1492, 1493, 751, 752, 753, 754, 760, 755, 756, 757, 758, 759, 1494, 1495, 1496, 1497, 1502] (by decide +kernel)
set_option maxRecDepth 20000 in
theorem wli_r26 : ∀ w ∈ wsL_law_r26, w ∈ lw_tbl := vq_places [1498, 1500, 71, 1501, 761, 762, 763, 764, 765, 766, 767, 768, 1503, 1504, 1505, 1506, 1507, 1509, 72, 1510, 769, 770, 771, 772] (by decide +kernel)
set_option maxRecDepth 20000 in
theorem wli_r27 : ∀ w ∈ wsL_law_r27, w ∈ lw_tbl := vq_places [773, 774, 775, 776, 777, 778, 779, 112, 780, 781, 1511, 1512, 1513, 1514, 1515, 1517, 73, 1518, 782, 783, 784, 785, 1519, 1520] (by decide +kernel)
set_option maxRecDepth 20000 in
theorem wli_r28 : ∀ w ∈ wsL_law_r28, w ∈ lw_tbl := vq_places [1521, 1522, 786, 787, 788, 789, 283, 1523, 1524, 1525, 1526, 1195, 1527, 790, 791, 792, 793, 286, 1528, 1529, 1530, 1531, 1196, 794] (by decide +kernel)
set_option maxRecDepth 20000 in
theorem wli_r29 : ∀ w ∈ wsL_law_r29, w ∈ lw_tbl := vq_places [795, 796, 797, 798, 799, 800, 801, 142, 802, 804, 22, 805, 151, 806, 808, 23, 809, 810, 812, 24, 813, 188, 814, 816] (by decide +kernel)
set_option maxRecDepth 20000 in
theorem wli_r30 : ∀ w ∈ wsL_law_r30, w ∈ lw_tbl := vq_places [25, 817, 168, 174, 197, 192, 818, 819, 820, 821, 822, 311, 313, 315, 316, 823, 824, 825, 826, 828, 26, 829, 307, 830] (by decide +kernel)
set_option maxRecDepth 20000 in
theorem wli_r31 : ∀ w ∈ wsL_law_r31, w ∈ lw_tbl := vq_places [832, 27, 833, 834, 836, 28, 837, 157, 838, 839, 840, 841, 842, 844, 29, 845, 846, 847, 848, 849, 850, 851, 853, 30] (by decide +kernel)
set_option maxRecDepth 20000 in
theorem wli_r32 : ∀ w ∈ wsL_law_r32, w ∈ lw_tbl := vq_places [854, 855, 857, 31, 858, 859, 861, 32, 862, 863, 865, 33, 866, 867, 869, 34, 870, 871, 873, 35, 874, 876, 317, 312] (by decide +kernel)
set_option maxRecDepth 20000 in
theorem wli_r33 : ∀ w ∈ wsL_law_r33, w ∈ lw_tbl := vq_places [314, 309, 875, 877, 878, 879, 880, 881, 882, 883, 884, 885, 886, 887, 888, 889, 890, 891, 892, 893, 894, 895, 896, 897] (by decide +kernel)
set_option maxRecDepth 20000 in
theorem wli_r34 : ∀ w ∈ wsL_law_r34, w ∈ lw_tbl := vq_places [898, 899, 900, 1532, 1533, 1534, 1535, 1210, 1211, 1536, 1538, 74, 1539, 1197, 1540, 1542, 75, 1543, 1209, 1544, 1546, 76, 1547, 1198] (by decide +kernel)
set_option maxRecDepth 20000 in
theorem wli_r35 : ∀ w ∈ wsL_law_r35, w ∈ lw_tbl := vq_places [1202, 1548, 1550, 77, 1551, 1552, 1554, 78, 1555, 1556, 1558, 79, 1559, 1206, 1572, 1560, 1562, 80, 1563, 1564, 1566, 81, 1567, 1568] (by decide +kernel)
set_option maxRecDepth 20000 in
theorem wli_r36 : ∀ w ∈ wsL_law_r36, w ∈ lw_tbl := vq_places [1570, 82, 1571, 1573, 1575, 83, 1576, 1577, 1578, 1579, 1580, 1581, 1582, 1583, 1585, 84, 1586, 1587, 1589, 85, 1590, 1215, 901, 902] (by decide +kernel)
set_option maxRecDepth 20000 in
theorem wli_r37 : ∀ w ∈ wsL_law_r37, w ∈ lw_tbl := vq_places [903, 904, 905, 1591, 1592, 1593, 1594, 906, 907, 908, 909, 910, 911, 912, 913, 914, 915, 1595, 1596, 1597, 1598, 916, 917, 918] (by decide +kernel)
set_option maxRecDepth 20000 in
theorem wli_r38 : ∀ w ∈ wsL_law_r38, w ∈ lw_tbl := vq_places [919, 920, 922, 36, 923, 924, 925, 926, 927, 928, 929, 930, 931, 932, 933, 934, 935, 936, 937, 938, 939, 1599, 1600, 1601] (by decide +kernel)
set_option maxRecDepth 20000 in
theorem wli_r39 : ∀ w ∈ wsL_law_r39, w ∈ lw_tbl := vq_places [1602, 1218, 1219, 1603, 1605, 86, 1606, 940, 941, 942, 943, 944, 946, 37, 947, 948, 949, 950, 951, 1607, 1608, 1609, 1610, 952] (by decide +kernel)
set_option maxRecDepth 20000 in
theorem wli_r40 : ∀ w ∈ wsL_law_r40, w ∈ lw_tbl := vq_places [953, 954, 955, 407, 405, 956, 957, 958, 959, 141, 414, 147, 415, 960, 416, 184, 961, 963, 38, 964, 165, 965, 966, 968] (by decide +kernel)
set_option maxRecDepth 20000 in
theorem wli_r41 : ∀ w ∈ wsL_law_r41, w ∈ lw_tbl := vq_places [39, 969, 155, 971, 972, 973, 970, 974, 976, 40, 977, 978, 980, 979, 113, 981, 983, 41, 984, 985, 987, 42, 988, 989] (by decide +kernel)
set_option maxRecDepth 20000 in
theorem wli_r42 : ∀ w ∈ wsL_law_r42, w ∈ lw_tbl := vq_places [991, 43, 992, 993, 995, 44, 996, 1611, 1612, 1613, 1614, 1615, 1617, 87, 1618, 997, 998, 999, 1000, 1001, 1002, 1003, 1004, 148] (by decide +kernel)
set_option maxRecDepth 20000 in
theorem wli_r43 : ∀ w ∈ wsL_law_r43, w ∈ lw_tbl := vq_places [1005, 1007, 45, 1008, 380, 381, 382, 383, 384, 1009, 1010, 1011, 1012, 1013, 1014, 1016, 46, 1017, 1018, 1020, 47, 1021, 1022, 1023] (by decide +kernel)
