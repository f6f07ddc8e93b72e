set_option maxRecDepth 20000 in
theorem in_r41 : GoodIn lw_tbl wsL_law_r41 := goodIn_p _ [1603, 890, 895, 1648] rfl (by decide +kernel)
set_option maxRecDepth 20000 in
theorem in_r42 : GoodIn lw_tbl wsL_law_r42 := goodIn_p _ [900, 905, 912, 917] rfl (by decide +kernel)
set_option maxRecDepth 20000 in
theorem in_r43 : GoodIn lw_tbl wsL_law_r43 := goodIn_p _ [1653, 1657, 1660, 928, 1664, 1668] rfl (by decide +kernel)
set_option maxRecDepth 20000 in
theorem in_r44 : GoodIn lw_tbl wsL_law_r44 := goodIn_p _ [1672, 932, 936, 1676] rfl (by decide +kernel)
set_option maxRecDepth 20000 in
theorem in_r45 : GoodIn lw_tbl wsL_law_r45 := goodIn_p _ [942, 945, 948, 1681, 953, 1644] rfl (by decide +kernel)
set_option maxRecDepth 20000 in
theorem in_r46 : GoodIn lw_tbl wsL_law_r46 := goodIn_p _ [957, 961, 966, 1685, 970] rfl (by decide +kernel)
set_option maxRecDepth 20000 in
theorem in_r47 : GoodIn lw_tbl wsL_law_r47 := goodIn_p _ [974, 1689, 1693, 978, 982, 986] rfl (by decide +kernel)
set_option maxRecDepth 20000 in
theorem in_r48 : GoodIn lw_tbl wsL_law_r48 := goodIn_p _ [990, 994, 1002] rfl (by decide +kernel)
set_option maxRecDepth 20000 in
theorem in_r49 : GoodIn lw_tbl wsL_law_r49 := goodIn_p _ [1006, 1012, 1697, 1701, 1705] rfl (by decide +kernel)
set_option maxRecDepth 20000 in
theorem in_r50 : GoodIn lw_tbl wsL_law_r50 := goodIn_p _ [1709, 1016, 1020, 1713, 1026] rfl (by decide +kernel)
