set_option maxRecDepth 20000 in
theorem in_r31 : GoodIn lw_tbl wsL_law_r31 := goodIn_p _ [1512, 1515, 1519, 1523, 1527, 1534] rfl (by decide +kernel)
set_option maxRecDepth 20000 in
theorem in_r32 : GoodIn lw_tbl wsL_law_r32 := goodIn_p _ [791, 1433, 795, 1541, 799] rfl (by decide +kernel)
set_option maxRecDepth 20000 in
theorem in_r33 : GoodIn lw_tbl wsL_law_r33 := goodIn_p _ [803, 807, 816, 820, 823] rfl (by decide +kernel)
set_option maxRecDepth 20000 in
theorem in_r34 : GoodIn lw_tbl wsL_law_r34 := goodIn_p _ [827, 832, 836, 841] rfl (by decide +kernel)
set_option maxRecDepth 20000 in
theorem in_r35 : GoodIn lw_tbl wsL_law_r35 := goodIn_p _ [1545, 1550, 1554, 1557, 1561] rfl (by decide +kernel)
set_option maxRecDepth 20000 in
theorem in_r36 : GoodIn lw_tbl wsL_law_r36 := goodIn_p _ [1565, 1568, 1571, 1574, 1578, 1581] rfl (by decide +kernel)
set_option maxRecDepth 20000 in
theorem in_r37 : GoodIn lw_tbl wsL_law_r37 := goodIn_p _ [1585, 1589, 1593, 1597, 850] rfl (by decide +kernel)
set_option maxRecDepth 20000 in
theorem in_r38 : GoodIn lw_tbl wsL_law_r38 := goodIn_p _ [854, 858, 1608, 1612, 862, 866] rfl (by decide +kernel)
set_option maxRecDepth 20000 in
theorem in_r39 : GoodIn lw_tbl wsL_law_r39 := goodIn_p _ [1616, 1620, 1624, 1628, 873] rfl (by decide +kernel)
set_option maxRecDepth 20000 in
theorem in_r40 : GoodIn lw_tbl wsL_law_r40 := goodIn_p _ [878, 882, 1632, 1636, 1640, 886] rfl (by decide +kernel)
