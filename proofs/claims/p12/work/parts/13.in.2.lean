set_option maxRecDepth 20000 in
theorem in_r21 : GoodIn lw_tbl wsL_law_r21 := goodIn_p _ [619, 623, 628, 632, 636] rfl (by decide +kernel)
set_option maxRecDepth 20000 in
theorem in_r22 : GoodIn lw_tbl wsL_law_r22 := goodIn_p _ [642, 646, 649, 652, 657, 660] rfl (by decide +kernel)
set_option maxRecDepth 20000 in
theorem in_r23 : GoodIn lw_tbl wsL_law_r23 := goodIn_p _ [663, 666, 670, 693, 697, 701] rfl (by decide +kernel)
set_option maxRecDepth 20000 in
theorem in_r24 : GoodIn lw_tbl wsL_law_r24 := goodIn_p _ [705, 709, 713, 718] rfl (by decide +kernel)
set_option maxRecDepth 20000 in
theorem in_r25 : GoodIn lw_tbl wsL_law_r25 := goodIn_p _ [731, 726, 722, 735, 751, 755, 739] rfl (by decide +kernel)
set_option maxRecDepth 20000 in
theorem in_r26 : GoodIn lw_tbl wsL_law_r26 := goodIn_p _ [743, 747, 760, 774] rfl (by decide +kernel)
set_option maxRecDepth 20000 in
theorem in_r27 : GoodIn lw_tbl wsL_law_r27 := goodIn_p _ [787, 1437, 1441] rfl (by decide +kernel)
set_option maxRecDepth 20000 in
theorem in_r28 : GoodIn lw_tbl wsL_law_r28 := goodIn_p _ [1445, 1448, 1451, 1461] rfl (by decide +kernel)
set_option maxRecDepth 20000 in
theorem in_r29 : GoodIn lw_tbl wsL_law_r29 := goodIn_p _ [1466, 1470, 1474, 1478, 1483, 1487] rfl (by decide +kernel)
set_option maxRecDepth 20000 in
theorem in_r30 : GoodIn lw_tbl wsL_law_r30 := goodIn_p _ [1491, 1495, 1499, 1504, 1508] rfl (by decide +kernel)
