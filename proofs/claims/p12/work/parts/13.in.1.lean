set_option maxRecDepth 20000 in
theorem in_r11 : GoodIn lw_tbl wsL_law_r11 := goodIn_p _ [1305, 1309, 1327, 1331, 1334] rfl (by decide +kernel)
set_option maxRecDepth 20000 in
theorem in_r12 : GoodIn lw_tbl wsL_law_r12 := goodIn_p _ [1339, 1343, 1347, 1351, 1355, 1359] rfl (by decide +kernel)
set_option maxRecDepth 20000 in
theorem in_r13 : GoodIn lw_tbl wsL_law_r13 := goodIn_p _ [506, 510, 514, 520, 1363] rfl (by decide +kernel)
set_option maxRecDepth 20000 in
theorem in_r14 : GoodIn lw_tbl wsL_law_r14 := goodIn_p _ [1367, 1371, 1375, 525, 530, 1379] rfl (by decide +kernel)
set_option maxRecDepth 20000 in
theorem in_r15 : GoodIn lw_tbl wsL_law_r15 := goodIn_p _ [534, 539, 1383, 544, 1389] rfl (by decide +kernel)
set_option maxRecDepth 20000 in
theorem in_r16 : GoodIn lw_tbl wsL_law_r16 := goodIn_p _ [548, 1393, 1396, 552, 555, 558] rfl (by decide +kernel)
set_option maxRecDepth 20000 in
theorem in_r17 : GoodIn lw_tbl wsL_law_r17 := goodIn_p _ [562, 1401, 1404, 568, 572, 1421] rfl (by decide +kernel)
set_option maxRecDepth 20000 in
theorem in_r18 : GoodIn lw_tbl wsL_law_r18 := goodIn_p _ [1425, 576, 1429, 580, 583, 587] rfl (by decide +kernel)
set_option maxRecDepth 20000 in
theorem in_r19 : GoodIn lw_tbl wsL_law_r19 := goodIn_p _ [1409, 1413, 591, 1417, 595] rfl (by decide +kernel)
set_option maxRecDepth 20000 in
theorem in_r20 : GoodIn lw_tbl wsL_law_r20 := goodIn_p _ [599, 603, 609, 612, 615] rfl (by decide +kernel)
