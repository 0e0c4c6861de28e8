set_option maxRecDepth 20000 in
theorem wli_r1 : ∀ w ∈ wsL_law_r1, w ∈ lw_tbl := fun w h => (goodIn_p wsL_law_r1 [118, 121] (by decide +kernel) (by decide +kernel) w h).1
set_option maxRecDepth 20000 in
theorem wli_r2 : ∀ w ∈ wsL_law_r2, w ∈ lw_tbl := fun w h => (goodIn_p wsL_law_r2 [] (by decide +kernel) (by decide +kernel) w h).1
set_option maxRecDepth 20000 in
theorem wli_r3 : ∀ w ∈ wsL_law_r3, w ∈ lw_tbl := fun w h => (goodIn_p wsL_law_r3 [126] (by decide +kernel) (by decide +kernel) w h).1
set_option maxRecDepth 20000 in
theorem wli_r4 : ∀ w ∈ wsL_law_r4, w ∈ lw_tbl := fun w h => (goodIn_p wsL_law_r4 [132, 139, 278] (by decide +kernel) (by decide +kernel) w h).1
set_option maxRecDepth 20000 in
theorem wli_r5 : ∀ w ∈ wsL_law_r5, w ∈ lw_tbl := fun w h => (goodIn_p wsL_law_r5 [296] (by decide +kernel) (by decide +kernel) w h).1
set_option maxRecDepth 20000 in
theorem wli_r6 : ∀ w ∈ wsL_law_r6, w ∈ lw_tbl := fun w h => (goodIn_p wsL_law_r6 [302, 378, 400] (by decide +kernel) (by decide +kernel) w h).1
set_option maxRecDepth 20000 in
theorem wli_r7 : ∀ w ∈ wsL_law_r7, w ∈ lw_tbl := fun w h => (goodIn_p wsL_law_r7 [444, 464] (by decide +kernel) (by decide +kernel) w h).1
set_option maxRecDepth 20000 in
theorem wli_r8 : ∀ w ∈ wsL_law_r8, w ∈ lw_tbl := fun w h => (goodIn_p wsL_law_r8 [1162] (by decide +kernel) (by decide +kernel) w h).1
set_option maxRecDepth 20000 in
theorem wli_r9 : ∀ w ∈ wsL_law_r9, w ∈ lw_tbl := fun w h => (goodIn_p wsL_law_r9 [1167, 1171] (by decide +kernel) (by decide +kernel) w h).1
set_option maxRecDepth 20000 in
theorem wli_r10 : ∀ w ∈ wsL_law_r10, w ∈ lw_tbl := fun w h => (goodIn_p wsL_law_r10 [542, 546, 1371, 550, 1375] (by decide +kernel) (by decide +kernel) w h).1
set_option maxRecDepth 20000 in
theorem wli_r11 : ∀ w ∈ wsL_law_r11, w ∈ lw_tbl := fun w h => (goodIn_p wsL_law_r11 [554, 558, 563, 566, 570] (by decide +kernel) (by decide +kernel) w h).1
set_option maxRecDepth 20000 in
theorem wli_r12 : ∀ w ∈ wsL_law_r12, w ∈ lw_tbl := fun w h => (goodIn_p wsL_law_r12 [574, 579, 583, 587, 593] (by decide +kernel) (by decide +kernel) w h).1
set_option maxRecDepth 20000 in
theorem wli_r13 : ∀ w ∈ wsL_law_r13, w ∈ lw_tbl := fun w h => (goodIn_p wsL_law_r13 [597, 600, 603, 608, 611, 614] (by decide +kernel) (by decide +kernel) w h).1
set_option maxRecDepth 20000 in
theorem wli_r14 : ∀ w ∈ wsL_law_r14, w ∈ lw_tbl := fun w h => (goodIn_p wsL_law_r14 [617, 621, 631, 635, 639] (by decide +kernel) (by decide +kernel) w h).1
set_option maxRecDepth 20000 in
theorem wli_r15 : ∀ w ∈ wsL_law_r15, w ∈ lw_tbl := fun w h => (goodIn_p wsL_law_r15 [643, 648, 652, 656, 661, 665] (by decide +kernel) (by decide +kernel) w h).1
set_option maxRecDepth 20000 in
theorem wli_r16 : ∀ w ∈ wsL_law_r16, w ∈ lw_tbl := fun w h => (goodIn_p wsL_law_r16 [670, 676, 680, 685, 691] (by decide +kernel) (by decide +kernel) w h).1
set_option maxRecDepth 20000 in
theorem wli_r17 : ∀ w ∈ wsL_law_r17, w ∈ lw_tbl := fun w h => (goodIn_p wsL_law_r17 [695, 698, 702, 706, 711] (by decide +kernel) (by decide +kernel) w h).1
set_option maxRecDepth 20000 in
theorem wli_r18 : ∀ w ∈ wsL_law_r18, w ∈ lw_tbl := fun w h => (goodIn_p wsL_law_r18 [1383, 1387, 1391] (by decide +kernel) (by decide +kernel) w h).1
set_option maxRecDepth 20000 in
theorem wli_r19 : ∀ w ∈ wsL_law_r19, w ∈ lw_tbl := fun w h => (goodIn_p wsL_law_r19 [1394, 1400, 1406, 1410, 1414, 1418] (by decide +kernel) (by decide +kernel) w h).1
set_option maxRecDepth 20000 in
theorem wli_r20 : ∀ w ∈ wsL_law_r20, w ∈ lw_tbl := fun w h => (goodIn_p wsL_law_r20 [1422, 1425, 1429, 1433, 1437, 1441] (by decide +kernel) (by decide +kernel) w h).1
set_option maxRecDepth 20000 in
theorem wli_r21 : ∀ w ∈ wsL_law_r21, w ∈ lw_tbl := fun w h => (goodIn_p wsL_law_r21 [1445, 1449, 1455, 715, 1379] (by decide +kernel) (by decide +kernel) w h).1
set_option maxRecDepth 20000 in
theorem wli_r22 : ∀ w ∈ wsL_law_r22, w ∈ lw_tbl := fun w h => (goodIn_p wsL_law_r22 [719, 723, 1460] (by decide +kernel) (by decide +kernel) w h).1
