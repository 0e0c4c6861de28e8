theorem vq_places {big ws : List Cond} (ps : List Nat) (h : ws.map some = ps.map (fun i => big[i]?)) : ∀ w ∈ ws, w ∈ big := by
  intro w hw
  have h1 : some w ∈ ws.map some := List.mem_map.mpr ⟨w, hw, rfl⟩
  rw [h] at h1
  obtain ⟨i, _, hi⟩ := List.mem_map.mp h1
  exact List.mem_of_getElem? hi
set_option maxRecDepth 20000 in
theorem wli_r1 : ∀ w ∈ wsL_law_r1, w ∈ lw_tbl := vq_places [114, 115, 95, 1158, 1159, 105, 116, 117, 118, 119, 120, 121, 122, 123, 96, 496, 272, 129, 97, 497, 223, 498, 274, 275] (by decide +kernel)
set_option maxRecDepth 20000 in
theorem wli_r2 : ∀ w ∈ wsL_law_r2, w ∈ lw_tbl := vq_places [98, 499, 500, 501, 333, 502, 503, 504, 292, 293, 99, 505, 374, 375, 101, 506, 396, 397, 102, 507, 440, 441, 103, 508] (by decide +kernel)
set_option maxRecDepth 20000 in
theorem wli_r3 : ∀ w ∈ wsL_law_r3, w ∈ lw_tbl := vq_places [460, 461, 104, 509, 124, 125, 126, 127, 224, 226, 228, 128, 230, 271, 232, 233, 234, 235, 236, 237, 238, 239, 240, 241] (by decide +kernel)
set_option maxRecDepth 20000 in
theorem wli_r4 : ∀ w ∈ wsL_law_r4, w ∈ lw_tbl := vq_places [130, 131, 132, 133, 176, 179, 134, 183, 190, 195, 136, 137, 138, 139, 140, 146, 153, 160, 164, 171, 273, 276, 277, 278] (by decide +kernel)
set_option maxRecDepth 20000 in
theorem wli_r5 : ∀ w ∈ wsL_law_r5, w ∈ lw_tbl := vq_places [279, 280, 281, 284, 294, 295, 296, 297, 336, 338, 298, 299, 100, 339, 340, 341, 342, 343, 344, 334, 345, 346, 347, 348] (by decide +kernel)
set_option maxRecDepth 20000 in
theorem wli_r6 : ∀ w ∈ wsL_law_r6, w ∈ lw_tbl := vq_places [300, 301, 302, 303, 304, 306, 308, 310, 335, 376, 377, 378, 379, 398, 399, 400, 401, 404, 402, 406, 408, 409, 403, 410] (by decide +kernel)
set_option maxRecDepth 20000 in
theorem wli_r7 : ∀ w ∈ wsL_law_r7, w ∈ lw_tbl := vq_places [411, 412, 413, 442, 443, 444, 445, 446, 448, 449, 450, 462, 463, 464, 465, 466, 468, 470, 471, 472, 473, 474, 475, 476] (by decide +kernel)
set_option maxRecDepth 20000 in
theorem wli_r8 : ∀ w ∈ wsL_law_r8, w ∈ lw_tbl := vq_places [1160, 1161, 1162, 1163, 1172, 1181, 1184, 1185, 1186, 1187, 1188, 1189, 1190, 1191, 1193, 1199, 1200, 1201, 1203, 1204, 1205, 1207, 1208, 1212] (by decide +kernel)
set_option maxRecDepth 20000 in
theorem wli_r9 : ∀ w ∈ wsL_law_r9, w ∈ lw_tbl := vq_places [1213, 1216, 1217, 1220, 1226, 1227, 1232, 1233, 1234, 1235, 1236, 1164, 1166, 51, 1167, 1192, 1168, 1170, 52, 1171, 1228, 1229, 1230, 1231] (by decide +kernel)
set_option maxRecDepth 20000 in
theorem wli_r10 : ∀ w ∈ wsL_law_r10, w ∈ lw_tbl := vq_places [1194, 1214, 539, 540, 541, 542, 225, 543, 544, 545, 546, 1368, 1369, 1370, 1371, 1173, 547, 548, 549, 550, 1372, 1373, 1374, 1375] (by decide +kernel)
set_option maxRecDepth 20000 in
theorem wli_r11 : ∀ w ∈ wsL_law_r11, w ∈ lw_tbl := vq_places [551, 552, 553, 554, 231, 167, 149, 555, 556, 557, 558, 559, 560, 562, 0, 563, 564, 565, 566, 567, 569, 1, 570, 571] (by decide +kernel)
set_option maxRecDepth 20000 in
theorem wli_r12 : ∀ w ∈ wsL_law_r12, w ∈ lw_tbl := vq_places [573, 2, 574, 156, 576, 578, 3, 579, 580, 581, 582, 106, 583, 1709, 584, 585, 586, 587, 588, 1710, 590, 591, 592, 593] (by decide +kernel)
set_option maxRecDepth 20000 in
theorem wli_r13 : ∀ w ∈ wsL_law_r13, w ∈ lw_tbl := vq_places [594, 595, 596, 597, 598, 599, 107, 600, 601, 602, 603, 604, 606, 607, 108, 608, 609, 610, 109, 611, 612, 613, 614, 615] (by decide +kernel)
set_option maxRecDepth 20000 in
theorem wli_r14 : ∀ w ∈ wsL_law_r14, w ∈ lw_tbl := vq_places [616, 617, 618, 619, 620, 621, 622, 624, 626, 628, 630, 4, 631, 632, 634, 5, 635, 636, 638, 6, 639, 640, 642, 7] (by decide +kernel)
set_option maxRecDepth 20000 in
theorem wli_r15 : ∀ w ∈ wsL_law_r15, w ∈ lw_tbl := vq_places [643, 143, 645, 647, 8, 648, 177, 649, 651, 9, 652, 653, 655, 10, 656, 658, 660, 11, 661, 662, 664, 12, 665, 152] (by decide +kernel)
set_option maxRecDepth 20000 in
theorem wli_r16 : ∀ w ∈ wsL_law_r16, w ∈ lw_tbl := vq_places [667, 669, 13, 670, 181, 189, 673, 675, 14, 676, 677, 679, 15, 680, 163, 170, 682, 684, 16, 685, 688, 690, 17, 691] (by decide +kernel)
set_option maxRecDepth 20000 in
theorem wli_r17 : ∀ w ∈ wsL_law_r17, w ∈ lw_tbl := vq_places [193, 175, 692, 694, 18, 695, 198, 696, 697, 110, 698, 699, 700, 701, 702, 703, 704, 705, 706, 707, 708, 709, 710, 711] (by decide +kernel)
set_option maxRecDepth 20000 in
theorem wli_r18 : ∀ w ∈ wsL_law_r18, w ∈ lw_tbl := vq_places [1380, 1381, 1382, 1383, 1174, 1178, 1180, 1384, 1386, 53, 1387, 1177, 1176, 1175, 1182, 1395, 1396, 1179, 1388, 1390, 54, 1391, 1392, 1393] (by decide +kernel)
set_option maxRecDepth 20000 in
theorem wli_r19 : ∀ w ∈ wsL_law_r19, w ∈ lw_tbl := vq_places [1394, 1397, 1399, 55, 1400, 1402, 1403, 1404, 1405, 1406, 1407, 1409, 56, 1410, 1183, 1411, 1413, 57, 1414, 1415, 1417, 58, 1418, 1419] (by decide +kernel)
set_option maxRecDepth 20000 in
theorem wli_r20 : ∀ w ∈ wsL_law_r20, w ∈ lw_tbl := vq_places [1421, 59, 1422, 1423, 1424, 1425, 1426, 1428, 60, 1429, 1430, 1432, 61, 1433, 1434, 1436, 62, 1437, 1438, 1440, 63, 1441, 1442, 1444] (by decide +kernel)
set_option maxRecDepth 20000 in
theorem wli_r21 : ∀ w ∈ wsL_law_r21, w ∈ lw_tbl := vq_places [64, 1445, 1446, 1448, 65, 1449, 1450, 1451, 1452, 1454, 66, 1455, 1456, 712, 713, 714, 715, 227, 229, 1376, 1377, 1378, 1379, 716] (by decide +kernel)
