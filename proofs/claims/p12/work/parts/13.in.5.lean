set_option maxRecDepth 20000 in
theorem in_r51 : GoodIn lw_tbl wsL_law_r51 := goodIn_p _ [1717, 1031, 1036, 1721, 1040] rfl (by decide +kernel)
set_option maxRecDepth 20000 in
theorem in_r52 : GoodIn lw_tbl wsL_law_r52 := goodIn_p _ [1044, 1048, 1051, 1056, 1725, 1729] rfl (by decide +kernel)
set_option maxRecDepth 20000 in
theorem in_r53 : GoodIn lw_tbl wsL_law_r53 := goodIn_p _ [1732, 1060, 1064, 1736, 1740, 1069] rfl (by decide +kernel)
set_option maxRecDepth 20000 in
theorem in_r54 : GoodIn lw_tbl wsL_law_r54 := goodIn_p _ [1072, 1744, 1747, 1076, 1082, 1086] rfl (by decide +kernel)
set_option maxRecDepth 20000 in
theorem in_r55 : GoodIn lw_tbl wsL_law_r55 := goodIn_p _ [1090, 1751, 1095, 1758] rfl (by decide +kernel)
set_option maxRecDepth 20000 in
theorem in_r56 : GoodIn lw_tbl wsL_law_r56 := goodIn_p _ [1099, 1103, 1108, 1113, 1302] rfl (by decide +kernel)
set_option maxRecDepth 20000 in
theorem in_r57 : GoodIn lw_tbl wsL_law_r57 := goodIn_p _ [1119, 1313, 1123, 1127, 1762, 1131] rfl (by decide +kernel)
set_option maxRecDepth 20000 in
theorem in_r58 : GoodIn lw_tbl wsL_law_r58 := goodIn_p _ [1766] rfl (by decide +kernel)
