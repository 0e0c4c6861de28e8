set_option maxRecDepth 20000 in
theorem wli_r44 : ∀ w ∈ wsL_law_r44, w ∈ lw_tbl := vq_places [1024, 1025, 1026, 166, 282, 285, 1027, 1028, 1029, 1619, 1620, 1621, 1622, 1623, 1625, 88, 1626, 1627, 1629, 89, 1630, 1221, 1222, 1224] (by decide +kernel)
set_option maxRecDepth 20000 in
theorem wli_r45 : ∀ w ∈ wsL_law_r45, w ∈ lw_tbl := vq_places [1225, 1631, 1633, 90, 1634, 1223, 1635, 1637, 91, 1638, 1030, 1031, 1032, 1033, 1639, 1640, 1641, 1642, 1034, 1035, 1036, 1037, 1038, 1039] (by decide +kernel)
set_option maxRecDepth 20000 in
theorem wli_r46 : ∀ w ∈ wsL_law_r46, w ∈ lw_tbl := vq_places [1040, 1041, 154, 1643, 1644, 1645, 1646, 1042, 1043, 1044, 1045, 1046, 1047, 1048, 1049, 1050, 1051, 1052, 1053, 1647, 1648, 1649, 1650, 1054] (by decide +kernel)
set_option maxRecDepth 20000 in
theorem wli_r47 : ∀ w ∈ wsL_law_r47, w ∈ lw_tbl := vq_places [1055, 1056, 1057, 447, 1651, 1652, 1653, 1654, 1058, 1059, 1060, 1061, 1062, 1063, 1064, 1065, 180, 161, 150, 159, 145, 185, 191, 173] (by decide +kernel)
set_option maxRecDepth 20000 in
theorem wli_r48 : ∀ w ∈ wsL_law_r48, w ∈ lw_tbl := vq_places [1066, 1068, 48, 1069, 1070, 1071, 1072, 169, 196, 1074, 1075, 1076, 1073, 1077, 1655, 1656, 1657, 1658, 1659, 1661, 92, 1662, 1078, 1079] (by decide +kernel)
set_option maxRecDepth 20000 in
theorem wli_r49 : ∀ w ∈ wsL_law_r49, w ∈ lw_tbl := vq_places [1080, 1081, 1082, 1083, 1084, 1085, 1663, 1664, 1665, 1666, 1667, 1086, 1087, 1088, 1089, 1090, 1091, 1092, 1093, 1094, 1096, 49, 1097, 1668] (by decide +kernel)
set_option maxRecDepth 20000 in
theorem wli_r50 : ∀ w ∈ wsL_law_r50, w ∈ lw_tbl := vq_places [1669, 1670, 1671, 1098, 1099, 1100, 1101, 1102, 1672, 1673, 1674, 1675, 1103, 1104, 1105, 1106, 1676, 1677, 1678, 1679, 1107, 1108, 1109, 1110] (by decide +kernel)
set_option maxRecDepth 20000 in
theorem wli_r51 : ∀ w ∈ wsL_law_r51, w ∈ lw_tbl := vq_places [337, 1680, 1681, 1682, 1683, 1111, 1112, 1113, 1114, 467, 1115, 1116, 1117, 1118, 1119, 1120, 1121, 1122, 1684, 1685, 1686, 1687, 1688, 1123] (by decide +kernel)
set_option maxRecDepth 20000 in
theorem wli_r52 : ∀ w ∈ wsL_law_r52, w ∈ lw_tbl := vq_places [1124, 1125, 1126, 469, 1127, 1128, 1129, 1130, 1131, 1132, 1133, 1134, 1689, 1690, 1691, 1692, 1135, 1136, 1137, 1138, 1139, 1140, 1141, 1142] (by decide +kernel)
set_option maxRecDepth 20000 in
theorem wli_r53 : ∀ w ∈ wsL_law_r53, w ∈ lw_tbl := vq_places [1143, 1144, 1145, 187, 1146, 1148, 50, 1149, 1693, 1694, 1695, 1696, 1697, 1699, 93, 1700, 1150, 1151, 1152, 1153, 1701, 1702, 1703, 1704] (by decide +kernel)
set_option maxRecDepth 20000 in
theorem wli_r54 : ∀ w ∈ wsL_law_r54, w ∈ lw_tbl := vq_places [1154, 1155, 1156, 1157, 1705, 1706, 1707, 1708] (by decide +kernel)
set_option maxRecDepth 20000 in
theorem wli_X90 : ∀ w ∈ wsX90, w ∈ lw_tbl := by decide +kernel
set_option maxRecDepth 20000 in
theorem wli_X100 : ∀ w ∈ wsX100, w ∈ lw_tbl := by decide +kernel
set_option maxRecDepth 20000 in
theorem wli_X70 : ∀ w ∈ wsX70, w ∈ lw_tbl := by decide +kernel
set_option maxRecDepth 20000 in
theorem wli_X30 : ∀ w ∈ wsX30, w ∈ lw_tbl := by decide +kernel
set_option maxRecDepth 20000 in
theorem wli_X20 : ∀ w ∈ wsX20, w ∈ lw_tbl := by decide +kernel
set_option maxRecDepth 20000 in
theorem wli_X40 : ∀ w ∈ wsX40, w ∈ lw_tbl := by decide +kernel
set_option maxRecDepth 20000 in
theorem wli_X50 : ∀ w ∈ wsX50, w ∈ lw_tbl := by decide +kernel
set_option maxRecDepth 20000 in
theorem wli_X00 : ∀ w ∈ wsX00, w ∈ lw_tbl := by decide +kernel
set_option maxRecDepth 20000 in
theorem wli_X60 : ∀ w ∈ wsX60, w ∈ lw_tbl := by decide +kernel
set_option maxRecDepth 20000 in
theorem wli_X10 : ∀ w ∈ wsX10, w ∈ lw_tbl := by decide +kernel
set_option maxRecDepth 20000 in
theorem wli_X80 : ∀ w ∈ wsX80, w ∈ lw_tbl := by decide +kernel
