set_option maxRecDepth 20000 in
theorem in_r1 : GoodIn lw_tbl wsL_law_r1 := goodIn_p _ [113, 116] rfl (by decide +kernel)
set_option maxRecDepth 20000 in
theorem in_r2 : GoodIn lw_tbl wsL_law_r2 := goodIn_p _ [121] rfl (by decide +kernel)
set_option maxRecDepth 20000 in
theorem in_r3 : GoodIn lw_tbl wsL_law_r3 := goodIn_p _ [127] rfl (by decide +kernel)
set_option maxRecDepth 20000 in
theorem in_r4 : GoodIn lw_tbl wsL_law_r4 := goodIn_p _ [159, 184, 270] rfl (by decide +kernel)
set_option maxRecDepth 20000 in
theorem in_r5 : GoodIn lw_tbl wsL_law_r5 := goodIn_p _ [298, 347] rfl (by decide +kernel)
set_option maxRecDepth 20000 in
theorem in_r6 : GoodIn lw_tbl wsL_law_r6 := goodIn_p _ [353, 1136] rfl (by decide +kernel)
set_option maxRecDepth 20000 in
theorem in_r7 : GoodIn lw_tbl wsL_law_r7 := goodIn_p _ [] rfl (by decide +kernel)
set_option maxRecDepth 20000 in
theorem in_r8 : GoodIn lw_tbl wsL_law_r8 := goodIn_p _ [446, 450, 453, 456, 460] rfl (by decide +kernel)
set_option maxRecDepth 20000 in
theorem in_r9 : GoodIn lw_tbl wsL_law_r9 := goodIn_p _ [463, 466, 469, 473, 477, 481, 486] rfl (by decide +kernel)
set_option maxRecDepth 20000 in
theorem in_r10 : GoodIn lw_tbl wsL_law_r10 := goodIn_p _ [489, 494, 498, 502, 1317, 1320] rfl (by decide +kernel)
