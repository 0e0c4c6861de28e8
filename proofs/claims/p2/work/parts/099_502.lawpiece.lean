set_option maxRecDepth 20000 in
theorem wli_r23 : ∀ w ∈ wsL_law_r23, w ∈ lw_tbl := fun w h => (goodIn_p wsL_law_r23 [727, 731, 735, 1468, 1472, 1476] (by decide +kernel) (by decide +kernel) w h).1
set_option maxRecDepth 20000 in
theorem wli_r24 : ∀ w ∈ wsL_law_r24, w ∈ lw_tbl := fun w h => (goodIn_p wsL_law_r24 [1480, 739, 743, 746, 1484] (by decide +kernel) (by decide +kernel) w h).1
set_option maxRecDepth 20000 in
theorem wli_r25 : ∀ w ∈ wsL_law_r25, w ∈ lw_tbl := fun w h => (goodIn_p wsL_law_r25 [1489, 750, 1493, 754, 758, 1497] (by decide +kernel) (by decide +kernel) w h).1
set_option maxRecDepth 20000 in
theorem wli_r26 : ∀ w ∈ wsL_law_r26, w ∈ lw_tbl := fun w h => (goodIn_p wsL_law_r26 [1501, 764, 768, 1506, 1510, 772] (by decide +kernel) (by decide +kernel) w h).1
set_option maxRecDepth 20000 in
theorem wli_r27 : ∀ w ∈ wsL_law_r27, w ∈ lw_tbl := fun w h => (goodIn_p wsL_law_r27 [776, 780, 1514, 1518, 785] (by decide +kernel) (by decide +kernel) w h).1
set_option maxRecDepth 20000 in
theorem wli_r28 : ∀ w ∈ wsL_law_r28, w ∈ lw_tbl := fun w h => (goodIn_p wsL_law_r28 [1522, 789, 1526, 793, 1531] (by decide +kernel) (by decide +kernel) w h).1
set_option maxRecDepth 20000 in
theorem wli_r29 : ∀ w ∈ wsL_law_r29, w ∈ lw_tbl := fun w h => (goodIn_p wsL_law_r29 [797, 801, 805, 809, 813] (by decide +kernel) (by decide +kernel) w h).1
set_option maxRecDepth 20000 in
theorem wli_r30 : ∀ w ∈ wsL_law_r30, w ∈ lw_tbl := fun w h => (goodIn_p wsL_law_r30 [817, 821, 825, 829] (by decide +kernel) (by decide +kernel) w h).1
set_option maxRecDepth 20000 in
theorem wli_r31 : ∀ w ∈ wsL_law_r31, w ∈ lw_tbl := fun w h => (goodIn_p wsL_law_r31 [833, 837, 841, 845, 849] (by decide +kernel) (by decide +kernel) w h).1
set_option maxRecDepth 20000 in
theorem wli_r32 : ∀ w ∈ wsL_law_r32, w ∈ lw_tbl := fun w h => (goodIn_p wsL_law_r32 [854, 858, 862, 866, 870, 874] (by decide +kernel) (by decide +kernel) w h).1
set_option maxRecDepth 20000 in
theorem wli_r33 : ∀ w ∈ wsL_law_r33, w ∈ lw_tbl := fun w h => (goodIn_p wsL_law_r33 [880, 884, 887, 890, 895] (by decide +kernel) (by decide +kernel) w h).1
set_option maxRecDepth 20000 in
theorem wli_r34 : ∀ w ∈ wsL_law_r34, w ∈ lw_tbl := fun w h => (goodIn_p wsL_law_r34 [900, 1535, 1539, 1543, 1547] (by decide +kernel) (by decide +kernel) w h).1
set_option maxRecDepth 20000 in
theorem wli_r35 : ∀ w ∈ wsL_law_r35, w ∈ lw_tbl := fun w h => (goodIn_p wsL_law_r35 [1551, 1555, 1559, 1563, 1567] (by decide +kernel) (by decide +kernel) w h).1
set_option maxRecDepth 20000 in
theorem wli_r36 : ∀ w ∈ wsL_law_r36, w ∈ lw_tbl := fun w h => (goodIn_p wsL_law_r36 [1571, 1576, 1579, 1582, 1586, 1590] (by decide +kernel) (by decide +kernel) w h).1
set_option maxRecDepth 20000 in
theorem wli_r37 : ∀ w ∈ wsL_law_r37, w ∈ lw_tbl := fun w h => (goodIn_p wsL_law_r37 [904, 1594, 909, 914, 1598] (by decide +kernel) (by decide +kernel) w h).1
set_option maxRecDepth 20000 in
theorem wli_r38 : ∀ w ∈ wsL_law_r38, w ∈ lw_tbl := fun w h => (goodIn_p wsL_law_r38 [919, 923, 927, 931, 935, 939] (by decide +kernel) (by decide +kernel) w h).1
set_option maxRecDepth 20000 in
theorem wli_r39 : ∀ w ∈ wsL_law_r39, w ∈ lw_tbl := fun w h => (goodIn_p wsL_law_r39 [1602, 1606, 943, 947, 951, 1610] (by decide +kernel) (by decide +kernel) w h).1
set_option maxRecDepth 20000 in
theorem wli_r40 : ∀ w ∈ wsL_law_r40, w ∈ lw_tbl := fun w h => (goodIn_p wsL_law_r40 [955, 959, 964] (by decide +kernel) (by decide +kernel) w h).1
set_option maxRecDepth 20000 in
theorem wli_r41 : ∀ w ∈ wsL_law_r41, w ∈ lw_tbl := fun w h => (goodIn_p wsL_law_r41 [969, 973, 977, 984, 988] (by decide +kernel) (by decide +kernel) w h).1
set_option maxRecDepth 20000 in
theorem wli_r42 : ∀ w ∈ wsL_law_r42, w ∈ lw_tbl := fun w h => (goodIn_p wsL_law_r42 [992, 996, 1614, 1618, 1000, 1004] (by decide +kernel) (by decide +kernel) w h).1
set_option maxRecDepth 20000 in
theorem wli_r43 : ∀ w ∈ wsL_law_r43, w ∈ lw_tbl := fun w h => (goodIn_p wsL_law_r43 [1008, 1012, 1017, 1021] (by decide +kernel) (by decide +kernel) w h).1
set_option maxRecDepth 20000 in
theorem wli_r44 : ∀ w ∈ wsL_law_r44, w ∈ lw_tbl := fun w h => (goodIn_p wsL_law_r44 [1026, 1622, 1626, 1630] (by decide +kernel) (by decide +kernel) w h).1
