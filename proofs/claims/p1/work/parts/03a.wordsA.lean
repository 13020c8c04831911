set_option maxRecDepth 20000 in
theorem zl_wsL_law_r1 : GoodIn lw_tbl wsL_law_r1 := goodIn_p _ [86, 89] (by decide +kernel) (by decide +kernel)
set_option maxRecDepth 20000 in
theorem zl_wsL_law_r2 : GoodIn lw_tbl wsL_law_r2 := goodIn_p _ [96] (by decide +kernel) (by decide +kernel)
set_option maxRecDepth 20000 in
theorem zl_wsL_law_r3 : GoodIn lw_tbl wsL_law_r3 := goodIn_p _ [102, 179] (by decide +kernel) (by decide +kernel)
set_option maxRecDepth 20000 in
theorem zl_wsL_law_r4 : GoodIn lw_tbl wsL_law_r4 := goodIn_p _ [208, 240, 262] (by decide +kernel) (by decide +kernel)
set_option maxRecDepth 20000 in
theorem zl_wsL_law_r5 : GoodIn lw_tbl wsL_law_r5 := goodIn_p _ [954] (by decide +kernel) (by decide +kernel)
set_option maxRecDepth 20000 in
theorem zl_wsL_law_r6 : GoodIn lw_tbl wsL_law_r6 := goodIn_p _ [309, 313, 316] (by decide +kernel) (by decide +kernel)
set_option maxRecDepth 20000 in
theorem zl_wsL_law_r7 : GoodIn lw_tbl wsL_law_r7 := goodIn_p _ [320, 324, 327, 1074, 1078, 1082] (by decide +kernel) (by decide +kernel)
set_option maxRecDepth 20000 in
theorem zl_wsL_law_r8 : GoodIn lw_tbl wsL_law_r8 := goodIn_p _ [331, 335, 339, 343, 1086, 347] (by decide +kernel) (by decide +kernel)
set_option maxRecDepth 20000 in
theorem zl_wsL_law_r9 : GoodIn lw_tbl wsL_law_r9 := goodIn_p _ [1090, 354, 1094, 358, 362] (by decide +kernel) (by decide +kernel)
set_option maxRecDepth 20000 in
theorem zl_wsL_law_r10 : GoodIn lw_tbl wsL_law_r10 := goodIn_p _ [1098, 1102, 367, 1106, 371] (by decide +kernel) (by decide +kernel)
set_option maxRecDepth 20000 in
theorem zl_wsL_law_r11 : GoodIn lw_tbl wsL_law_r11 := goodIn_p _ [375, 382, 386, 393, 396, 390] (by decide +kernel) (by decide +kernel)
set_option maxRecDepth 20000 in
theorem zl_wsL_law_r12 : GoodIn lw_tbl wsL_law_r12 := goodIn_p _ [1110, 1114, 1118, 400, 404] (by decide +kernel) (by decide +kernel)
set_option maxRecDepth 20000 in
theorem zl_wsL_law_r13 : GoodIn lw_tbl wsL_law_r13 := goodIn_p _ [408, 1122, 1126, 432, 436] (by decide +kernel) (by decide +kernel)
set_option maxRecDepth 20000 in
theorem zl_wsL_law_r14 : GoodIn lw_tbl wsL_law_r14 := goodIn_p _ [440, 1130, 1134, 444, 448] (by decide +kernel) (by decide +kernel)
set_option maxRecDepth 20000 in
theorem zl_wsL_law_r15 : GoodIn lw_tbl wsL_law_r15 := goodIn_p _ [1138, 1142, 452, 456, 1146, 1150] (by decide +kernel) (by decide +kernel)
set_option maxRecDepth 20000 in
theorem zl_wsL_law_r16 : GoodIn lw_tbl wsL_law_r16 := goodIn_p _ [460, 1154, 464, 467, 471, 475] (by decide +kernel) (by decide +kernel)
set_option maxRecDepth 20000 in
theorem zl_wsL_law_r17 : GoodIn lw_tbl wsL_law_r17 := goodIn_p _ [479, 1158, 1162, 1166, 1170] (by decide +kernel) (by decide +kernel)
set_option maxRecDepth 20000 in
theorem zl_wsL_law_r18 : GoodIn lw_tbl wsL_law_r18 := goodIn_p _ [1174, 483, 487, 491, 496] (by decide +kernel) (by decide +kernel)
set_option maxRecDepth 20000 in
theorem zl_wsL_law_r19 : GoodIn lw_tbl wsL_law_r19 := goodIn_p _ [501, 505, 508, 522, 526, 530] (by decide +kernel) (by decide +kernel)
set_option maxRecDepth 20000 in
theorem zl_wsL_law_r20 : GoodIn lw_tbl wsL_law_r20 := goodIn_p _ [536, 540, 543, 546, 551] (by decide +kernel) (by decide +kernel)
set_option maxRecDepth 20000 in
theorem zl_wsL_law_r21 : GoodIn lw_tbl wsL_law_r21 := goodIn_p _ [554, 557, 560, 564, 574, 578] (by decide +kernel) (by decide +kernel)
set_option maxRecDepth 20000 in
theorem zl_wsL_law_r22 : GoodIn lw_tbl wsL_law_r22 := goodIn_p _ [582, 586, 589, 593, 597, 600, 605] (by decide +kernel) (by decide +kernel)
set_option maxRecDepth 20000 in
theorem zl_wsL_law_r23 : GoodIn lw_tbl wsL_law_r23 := goodIn_p _ [609, 1178, 1182] (by decide +kernel) (by decide +kernel)
set_option maxRecDepth 20000 in
theorem zl_wsL_law_r24 : GoodIn lw_tbl wsL_law_r24 := goodIn_p _ [1186, 1190, 1194, 1198, 1202] (by decide +kernel) (by decide +kernel)
set_option maxRecDepth 20000 in
theorem zl_wsL_law_r25 : GoodIn lw_tbl wsL_law_r25 := goodIn_p _ [1206, 1210, 1214, 1218, 617, 1222] (by decide +kernel) (by decide +kernel)
set_option maxRecDepth 20000 in
theorem zl_wsL_law_r26 : GoodIn lw_tbl wsL_law_r26 := goodIn_p _ [621, 625, 630, 1226, 1230, 634] (by decide +kernel) (by decide +kernel)
set_option maxRecDepth 20000 in
theorem zl_wsL_law_r27 : GoodIn lw_tbl wsL_law_r27 := goodIn_p _ [638, 642, 648, 652] (by decide +kernel) (by decide +kernel)
set_option maxRecDepth 20000 in
theorem zl_wsL_law_r28 : GoodIn lw_tbl wsL_law_r28 := goodIn_p _ [656, 662, 668, 1234, 1238] (by decide +kernel) (by decide +kernel)
set_option maxRecDepth 20000 in
theorem zl_wsL_law_r29 : GoodIn lw_tbl wsL_law_r29 := goodIn_p _ [1242, 1246, 1250, 1254, 1258, 676] (by decide +kernel) (by decide +kernel)
