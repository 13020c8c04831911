set_option maxRecDepth 20000 in
theorem zl_wsL_law_r30 : GoodIn lw_tbl wsL_law_r30 := goodIn_p _ [680, 684, 688, 692, 696] (by decide +kernel) (by decide +kernel)
set_option maxRecDepth 20000 in
theorem zl_wsL_law_r31 : GoodIn lw_tbl wsL_law_r31 := goodIn_p _ [1262, 1266, 1270, 1274, 702, 706] (by decide +kernel) (by decide +kernel)
set_option maxRecDepth 20000 in
theorem zl_wsL_law_r32 : GoodIn lw_tbl wsL_law_r32 := goodIn_p _ [1278, 1282, 710, 714, 719, 725] (by decide +kernel) (by decide +kernel)
set_option maxRecDepth 20000 in
theorem zl_wsL_law_r33 : GoodIn lw_tbl wsL_law_r33 := goodIn_p _ [1286, 1290, 1294, 1298, 730, 1302] (by decide +kernel) (by decide +kernel)
set_option maxRecDepth 20000 in
theorem zl_wsL_law_r34 : GoodIn lw_tbl wsL_law_r34 := goodIn_p _ [734, 1306, 738, 742, 746, 750] (by decide +kernel) (by decide +kernel)
set_option maxRecDepth 20000 in
theorem zl_wsL_law_r35 : GoodIn lw_tbl wsL_law_r35 := goodIn_p _ [755, 760, 764, 769, 1310] (by decide +kernel) (by decide +kernel)
set_option maxRecDepth 20000 in
theorem zl_wsL_law_r36 : GoodIn lw_tbl wsL_law_r36 := goodIn_p _ [1314, 1318, 1322, 1326, 1330, 1334] (by decide +kernel) (by decide +kernel)
set_option maxRecDepth 20000 in
theorem zl_wsL_law_r37 : GoodIn lw_tbl wsL_law_r37 := goodIn_p _ [773, 777, 781, 1338, 1342, 785] (by decide +kernel) (by decide +kernel)
set_option maxRecDepth 20000 in
theorem zl_wsL_law_r38 : GoodIn lw_tbl wsL_law_r38 := goodIn_p _ [789, 1346, 794, 798, 802] (by decide +kernel) (by decide +kernel)
set_option maxRecDepth 20000 in
theorem zl_wsL_law_r39 : GoodIn lw_tbl wsL_law_r39 := goodIn_p _ [1350, 807, 812, 817, 822] (by decide +kernel) (by decide +kernel)
set_option maxRecDepth 20000 in
theorem zl_wsL_law_r40 : GoodIn lw_tbl wsL_law_r40 := goodIn_p _ [830, 1354, 1358, 834, 838] (by decide +kernel) (by decide +kernel)
set_option maxRecDepth 20000 in
theorem zl_wsL_law_r41 : GoodIn lw_tbl wsL_law_r41 := goodIn_p _ [1363, 842, 846, 850, 1367] (by decide +kernel) (by decide +kernel)
set_option maxRecDepth 20000 in
theorem zl_wsL_law_r42 : GoodIn lw_tbl wsL_law_r42 := goodIn_p _ [1371, 1375, 858, 862, 1380] (by decide +kernel) (by decide +kernel)
set_option maxRecDepth 20000 in
theorem zl_wsL_law_r43 : GoodIn lw_tbl wsL_law_r43 := goodIn_p _ [1384, 868, 872, 877, 1388] (by decide +kernel) (by decide +kernel)
set_option maxRecDepth 20000 in
theorem zl_wsL_law_r44 : GoodIn lw_tbl wsL_law_r44 := goodIn_p _ [1392, 883, 887, 1396, 891, 1400] (by decide +kernel) (by decide +kernel)
set_option maxRecDepth 20000 in
theorem zl_wsL_law_r45 : GoodIn lw_tbl wsL_law_r45 := goodIn_p _ [895, 899, 903, 906, 910] (by decide +kernel) (by decide +kernel)
set_option maxRecDepth 20000 in
theorem zl_wsL_law_r46 : GoodIn lw_tbl wsL_law_r46 := goodIn_p _ [915, 1404, 1408, 1412, 1416, 1420] (by decide +kernel) (by decide +kernel)
set_option maxRecDepth 20000 in
theorem zl_wsL_law_r47 : GoodIn lw_tbl wsL_law_r47 := goodIn_p _ [919, 923, 1424, 928, 932, 936] (by decide +kernel) (by decide +kernel)
set_option maxRecDepth 20000 in
theorem zl_wsL_law_r48 : GoodIn lw_tbl wsL_law_r48 := goodIn_p _ [1428, 941, 945, 1432, 949] (by decide +kernel) (by decide +kernel)
set_option maxRecDepth 20000 in
theorem zl_wsL_law_r49 : GoodIn lw_tbl wsL_law_r49 := goodIn_p _ [1436] (by decide +kernel) (by decide +kernel)
set_option maxRecDepth 20000 in
theorem zl_wsX70 : GoodIn lw_tbl wsX70 := goodIn_p _ [] (by decide +kernel) (by decide +kernel)
set_option maxRecDepth 20000 in
theorem zl_wsX80 : GoodIn lw_tbl wsX80 := goodIn_p _ [] (by decide +kernel) (by decide +kernel)
set_option maxRecDepth 20000 in
theorem zl_wsX00 : GoodIn lw_tbl wsX00 := goodIn_p _ [] (by decide +kernel) (by decide +kernel)
set_option maxRecDepth 20000 in
theorem zl_wsX50 : GoodIn lw_tbl wsX50 := goodIn_p _ [] (by decide +kernel) (by decide +kernel)
set_option maxRecDepth 20000 in
theorem zl_wsX30 : GoodIn lw_tbl wsX30 := goodIn_p _ [] (by decide +kernel) (by decide +kernel)
set_option maxRecDepth 20000 in
theorem zl_wsX10 : GoodIn lw_tbl wsX10 := goodIn_p _ [] (by decide +kernel) (by decide +kernel)
set_option maxRecDepth 20000 in
theorem zl_wsX40 : GoodIn lw_tbl wsX40 := goodIn_p _ [] (by decide +kernel) (by decide +kernel)
set_option maxRecDepth 20000 in
theorem zl_wsX60 : GoodIn lw_tbl wsX60 := goodIn_p _ [] (by decide +kernel) (by decide +kernel)
set_option maxRecDepth 20000 in
theorem zl_wsX20 : GoodIn lw_tbl wsX20 := goodIn_p _ [] (by decide +kernel) (by decide +kernel)
theorem zl_law : GoodIn lw_tbl wsL_law := goodIn_app (goodIn_app (goodIn_app (goodIn_app (goodIn_app (goodIn_app (goodIn_app (goodIn_app (goodIn_app (goodIn_app (goodIn_app (zl_wsL_law_r1) (goodIn_app (zl_wsL_law_r2) (goodIn_app (zl_wsL_law_r3) (goodIn_app (zl_wsL_law_r4) (goodIn_app (zl_wsL_law_r5) (goodIn_app (zl_wsL_law_r6) (goodIn_app (zl_wsL_law_r7) (goodIn_app (zl_wsL_law_r8) (goodIn_app (zl_wsL_law_r9) (goodIn_app (zl_wsL_law_r10) (goodIn_app (zl_wsL_law_r11) (goodIn_app (zl_wsL_law_r12) (goodIn_app (zl_wsL_law_r13) (goodIn_app (zl_wsL_law_r14) (goodIn_app (zl_wsL_law_r15) (goodIn_app (zl_wsL_law_r16) (goodIn_app (zl_wsL_law_r17) (goodIn_app (zl_wsL_law_r18) (goodIn_app (zl_wsL_law_r19) (goodIn_app (zl_wsL_law_r20) (goodIn_app (zl_wsL_law_r21) (goodIn_app (zl_wsL_law_r22) (goodIn_app (zl_wsL_law_r23) (goodIn_app (zl_wsL_law_r24) (goodIn_app (zl_wsL_law_r25) (goodIn_app (zl_wsL_law_r26) (goodIn_app (zl_wsL_law_r27) (goodIn_app (zl_wsL_law_r28) (goodIn_app (zl_wsL_law_r29) (goodIn_app (zl_wsL_law_r30) (goodIn_app (zl_wsL_law_r31) (goodIn_app (zl_wsL_law_r32) (goodIn_app (zl_wsL_law_r33) (goodIn_app (zl_wsL_law_r34) (goodIn_app (zl_wsL_law_r35) (goodIn_app (zl_wsL_law_r36) (goodIn_app (zl_wsL_law_r37) (goodIn_app (zl_wsL_law_r38) (goodIn_app (zl_wsL_law_r39) (goodIn_app (zl_wsL_law_r40) (goodIn_app (zl_wsL_law_r41) (goodIn_app (zl_wsL_law_r42) (goodIn_app (zl_wsL_law_r43) (goodIn_app (zl_wsL_law_r44) (goodIn_app (zl_wsL_law_r45) (goodIn_app (zl_wsL_law_r46) (goodIn_app (zl_wsL_law_r47) (goodIn_app (zl_wsL_law_r48) (zl_wsL_law_r49))))))))))))))))))))))))))))))))))))))))))))))))) (zl_wsX70)) (zl_wsX80)) (zl_wsX00)) (zl_wsX50)) (zl_wsX30)) (zl_wsX10)) (zl_wsX40)) (zl_wsX60)) (zl_wsX20)) (fun w h => absurd h List.not_mem_nil)
theorem wsL_law_in : ∀ w ∈ wsL_law, w ∈ lw_tbl := fun w h => (zl_law w h).1
theorem inlX0 : ∀ w ∈ wsX00, w ∈ wsL_law := fun _ h => List.mem_append_left _ (List.mem_append_left _ (List.mem_append_left _ (List.mem_append_left _ (List.mem_append_left _ (List.mem_append_left _ (List.mem_append_left _ (List.mem_append_right _ h)))))))
theorem inX0 : ∀ w ∈ wsX00, w ∈ lw_tbl := fun w h => wsL_law_in w (inlX0 w h)
theorem inlX1 : ∀ w ∈ wsX10, w ∈ wsL_law := fun _ h => List.mem_append_left _ (List.mem_append_left _ (List.mem_append_left _ (List.mem_append_left _ (List.mem_append_right _ h))))
theorem inX1 : ∀ w ∈ wsX10, w ∈ lw_tbl := fun w h => wsL_law_in w (inlX1 w h)
theorem inlX2 : ∀ w ∈ wsX20, w ∈ wsL_law := fun _ h => List.mem_append_left _ (List.mem_append_right _ h)
theorem inX2 : ∀ w ∈ wsX20, w ∈ lw_tbl := fun w h => wsL_law_in w (inlX2 w h)
theorem inlX3 : ∀ w ∈ wsX30, w ∈ wsL_law := fun _ h => List.mem_append_left _ (List.mem_append_left _ (List.mem_append_left _ (List.mem_append_left _ (List.mem_append_left _ (List.mem_append_right _ h)))))
theorem inX3 : ∀ w ∈ wsX30, w ∈ lw_tbl := fun w h => wsL_law_in w (inlX3 w h)
theorem inlX4 : ∀ w ∈ wsX40, w ∈ wsL_law := fun _ h => List.mem_append_left _ (List.mem_append_left _ (List.mem_append_left _ (List.mem_append_right _ h)))
theorem inX4 : ∀ w ∈ wsX40, w ∈ lw_tbl := fun w h => wsL_law_in w (inlX4 w h)
theorem inlX5 : ∀ w ∈ wsX50, w ∈ wsL_law := fun _ h => List.mem_append_left _ (List.mem_append_left _ (List.mem_append_left _ (List.mem_append_left _ (List.mem_append_left _ (List.mem_append_left _ (List.mem_append_right _ h))))))
theorem inX5 : ∀ w ∈ wsX50, w ∈ lw_tbl := fun w h => wsL_law_in w (inlX5 w h)
theorem inlX6 : ∀ w ∈ wsX60, w ∈ wsL_law := fun _ h => List.mem_append_left _ (List.mem_append_left _ (List.mem_append_right _ h))
theorem inX6 : ∀ w ∈ wsX60, w ∈ lw_tbl := fun w h => wsL_law_in w (inlX6 w h)
theorem inlX7 : ∀ w ∈ wsX70, w ∈ wsL_law := fun _ h => List.mem_append_left _ (List.mem_append_left _ (List.mem_append_left _ (List.mem_append_left _ (List.mem_append_left _ (List.mem_append_left _ (List.mem_append_left _ (List.mem_append_left _ (List.mem_append_left _ (List.mem_append_right _ h)))))))))
theorem inX7 : ∀ w ∈ wsX70, w ∈ lw_tbl := fun w h => wsL_law_in w (inlX7 w h)
theorem inlX8 : ∀ w ∈ wsX80, w ∈ wsL_law := fun _ h => List.mem_append_left _ (List.mem_append_left _ (List.mem_append_left _ (List.mem_append_left _ (List.mem_append_left _ (List.mem_append_left _ (List.mem_append_left _ (List.mem_append_left _ (List.mem_append_right _ h))))))))
theorem inX8 : ∀ w ∈ wsX80, w ∈ lw_tbl := fun w h => wsL_law_in w (inlX8 w h)
theorem inJx145de : ∀ w ∈ wsJx145de0, w ∈ lw_tbl := by decide +kernel
theorem inJx9f9b0 : ∀ w ∈ wsJx9f9b00, w ∈ lw_tbl := by decide +kernel
theorem inJxb160c : ∀ w ∈ wsJxb160c0, w ∈ lw_tbl := by decide +kernel
theorem inJ9 : ∀ w ∈ wsJ90, w ∈ lw_tbl := by decide +kernel
theorem inJ0 : ∀ w ∈ wsJ00, w ∈ lw_tbl := by decide +kernel
theorem inJ1 : ∀ w ∈ wsJ10, w ∈ lw_tbl := by decide +kernel
theorem inJ2 : ∀ w ∈ wsJ20, w ∈ lw_tbl := by decide +kernel
theorem inJ10 : ∀ w ∈ wsJ100, w ∈ lw_tbl := by decide +kernel
theorem inJxfd54e : ∀ w ∈ wsJxfd54e0, w ∈ lw_tbl := by decide +kernel
theorem inJx3cf43 : ∀ w ∈ wsJx3cf430, w ∈ lw_tbl := by decide +kernel
theorem inJ7 : ∀ w ∈ wsJ70, w ∈ lw_tbl := by decide +kernel
theorem inJ3 : ∀ w ∈ wsJ30, w ∈ lw_tbl := by decide +kernel
