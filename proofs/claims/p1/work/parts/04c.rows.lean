theorem dX8_addsPull_10 : decode cX8_addsPull 10 = .ok (.aload_n 0, 1) := by decide +kernel
theorem dX8_addsPull_11 : decode cX8_addsPull 11 = .ok (.getfield 32, 3) := by decide +kernel
theorem dX8_addsPull_14 : decode cX8_addsPull 14 = .ok (.aload_n 0, 1) := by decide +kernel
theorem dX8_addsPull_15 : decode cX8_addsPull 15 = .ok (.getfield 90, 3) := by decide +kernel
theorem dX8_addsPull_18 : decode cX8_addsPull 18 = .ok (.iload_n 2, 1) := by decide +kernel
theorem dX8_addsPull_19 : decode cX8_addsPull 19 = .ok (.iastore, 1) := by decide +kernel
theorem dX8_addsPull_20 : decode cX8_addsPull 20 = .ok (.aload_n 0, 1) := by decide +kernel
theorem dX8_addsPull_21 : decode cX8_addsPull 21 = .ok (.getfield 35, 3) := by decide +kernel
theorem dX8_addsPull_24 : decode cX8_addsPull 24 = .ok (.aload_n 0, 1) := by decide +kernel
theorem dX8_addsPull_25 : decode cX8_addsPull 25 = .ok (.getfield 90, 3) := by decide +kernel
theorem dX8_addsPull_28 : decode cX8_addsPull 28 = .ok (.iload_n 3, 1) := by decide +kernel
theorem dX8_addsPull_29 : decode cX8_addsPull 29 = .ok (.iastore, 1) := by decide +kernel
theorem dX8_addsPull_30 : decode cX8_addsPull 30 = .ok (.aload_n 0, 1) := by decide +kernel
theorem dX8_addsPull_31 : decode cX8_addsPull 31 = .ok (.dup, 1) := by decide +kernel
theorem dX8_addsPull_32 : decode cX8_addsPull 32 = .ok (.getfield 90, 3) := by decide +kernel
theorem dX8_addsPull_35 : decode cX8_addsPull 35 = .ok (.dup_x1, 1) := by decide +kernel
theorem dX8_addsPull_36 : decode cX8_addsPull 36 = .ok (.iconst 1, 1) := by decide +kernel
theorem dX8_addsPull_37 : decode cX8_addsPull 37 = .ok (.iadd, 1) := by decide +kernel
theorem dX8_addsPull_38 : decode cX8_addsPull 38 = .ok (.putfield 90, 3) := by decide +kernel
theorem dX8_addsPull_41 : decode cX8_addsPull 41 = .ok (.ireturn, 1) := by decide +kernel
set_option maxRecDepth 20000 in
theorem ggX8_pull_X8_no : GoodIn wsX8_pull wsX8_no := goodIn_r _ [6, 7, 15, 16, 17, 18, 19, 20, 21, 22, 23, 24, 25, 26, 27, 28, 29, 30, 31, 32, 33, 34, 35, 36, 37, 38, 39, 40, 41, 42, 43, 44, 45, 46, 47, 48, 49, 50, 51, 52] (by decide +kernel) (by decide +kernel)
set_option maxRecDepth 20000 in
theorem gX8_pull_X8_no : GoodIn wsX8_pull (wsV RX8 97 RX8 yX8_no wsX8_no) := goodIn_app (goodIn_of _ (by decide +kernel)) ggX8_pull_X8_no
set_option maxRecDepth 20000 in
theorem ggX8_pull_X8_addsPull : GoodIn wsX8_pull wsX8_addsPull := goodIn_r _ [11, 12, 1, 13, 14, 15, 16, 17, 18, 19, 20, 21, 22, 23, 24, 25, 26, 27, 28, 29, 30, 31, 32, 33, 34, 35, 36, 37, 38, 39, 40, 41, 42, 43, 44, 45, 46, 47, 48, 49, 50, 51, 52] (by decide +kernel) (by decide +kernel)
set_option maxRecDepth 20000 in
theorem gX8_pull_X8_addsPull : GoodIn wsX8_pull (wsV RX8 111 RX8 yX8_addsPull wsX8_addsPull) := goodIn_app (goodIn_of _ (by decide +kernel)) ggX8_pull_X8_addsPull
theorem dX8_pull_0 : decode cX8_pull 0 = .ok (.iload_n 1, 1) := by decide +kernel
theorem dX8_pull_1 : decode cX8_pull 1 = .ok (.ifCond .lt 9, 3) := by decide +kernel
theorem dX8_pull_4 : decode cX8_pull 4 = .ok (.iload_n 1, 1) := by decide +kernel
theorem dX8_pull_5 : decode cX8_pull 5 = .ok (.bipush 6, 2) := by decide +kernel
theorem dX8_pull_7 : decode cX8_pull 7 = .ok (.if_icmp .le 9, 3) := by decide +kernel
theorem dX8_pull_10 : decode cX8_pull 10 = .ok (.aload_n 0, 1) := by decide +kernel
theorem dX8_pull_11 : decode cX8_pull 11 = .ok (.iconst (-1), 1) := by decide +kernel
theorem dX8_pull_12 : decode cX8_pull 12 = .ok (.invokevirtual 97, 3) := by decide +kernel
theorem dX8_pull_15 : decode cX8_pull 15 = .ok (.ireturn, 1) := by decide +kernel
theorem dX8_pull_16 : decode cX8_pull 16 = .ok (.iload_n 2, 1) := by decide +kernel
theorem dX8_pull_17 : decode cX8_pull 17 = .ok (.ifCond .lt 20, 3) := by decide +kernel
theorem dX8_pull_20 : decode cX8_pull 20 = .ok (.iload_n 2, 1) := by decide +kernel
theorem dX8_pull_21 : decode cX8_pull 21 = .ok (.bipush 9, 2) := by decide +kernel
theorem dX8_pull_23 : decode cX8_pull 23 = .ok (.if_icmp .gt 14, 3) := by decide +kernel
theorem dX8_pull_26 : decode cX8_pull 26 = .ok (.iload_n 3, 1) := by decide +kernel
theorem dX8_pull_27 : decode cX8_pull 27 = .ok (.iconst 1, 1) := by decide +kernel
theorem dX8_pull_28 : decode cX8_pull 28 = .ok (.if_icmp .lt 9, 3) := by decide +kernel
theorem dX8_pull_31 : decode cX8_pull 31 = .ok (.iload_n 3, 1) := by decide +kernel
theorem dX8_pull_32 : decode cX8_pull 32 = .ok (.bipush 60, 2) := by decide +kernel
theorem dX8_pull_34 : decode cX8_pull 34 = .ok (.if_icmp .le 10, 3) := by decide +kernel
theorem dX8_pull_37 : decode cX8_pull 37 = .ok (.aload_n 0, 1) := by decide +kernel
theorem dX8_pull_38 : decode cX8_pull 38 = .ok (.bipush (-6), 2) := by decide +kernel
theorem dX8_pull_40 : decode cX8_pull 40 = .ok (.invokevirtual 97, 3) := by decide +kernel
theorem dX8_pull_43 : decode cX8_pull 43 = .ok (.ireturn, 1) := by decide +kernel
theorem dX8_pull_44 : decode cX8_pull 44 = .ok (.aload_n 0, 1) := by decide +kernel
theorem dX8_pull_45 : decode cX8_pull 45 = .ok (.getfield 90, 3) := by decide +kernel
theorem dX8_pull_48 : decode cX8_pull 48 = .ok (.bipush 8, 2) := by decide +kernel
theorem dX8_pull_50 : decode cX8_pull 50 = .ok (.if_icmp .ne 12, 3) := by decide +kernel
theorem dX8_pull_62 : decode cX8_pull 62 = .ok (.aload_n 0, 1) := by decide +kernel
theorem dX8_pull_63 : decode cX8_pull 63 = .ok (.iload_n 1, 1) := by decide +kernel
theorem dX8_pull_64 : decode cX8_pull 64 = .ok (.iload_n 2, 1) := by decide +kernel
theorem dX8_pull_65 : decode cX8_pull 65 = .ok (.iload_n 3, 1) := by decide +kernel
theorem dX8_pull_66 : decode cX8_pull 66 = .ok (.invokevirtual 111, 3) := by decide +kernel
theorem dX8_pull_69 : decode cX8_pull 69 = .ok (.ireturn, 1) := by decide +kernel
set_option maxRecDepth 20000 in
theorem ggX8_pullOf_X8_isPull : GoodIn wsX8_pullOf wsX8_isPull := goodIn_r _ [10, 11, 25, 26, 27, 28, 29, 30, 31, 32, 33, 34, 35, 36, 37, 38, 39, 40, 41, 42, 43, 44, 45, 46, 47, 48, 49, 50, 51, 52, 53, 54, 55, 56, 57, 58, 59, 60, 61, 62] (by decide +kernel) (by decide +kernel)
set_option maxRecDepth 20000 in
theorem gX8_pullOf_X8_isPull : GoodIn wsX8_pullOf (wsV RX8 101 RX8 yX8_isPull wsX8_isPull) := goodIn_app (goodIn_of _ (by decide +kernel)) ggX8_pullOf_X8_isPull
set_option maxRecDepth 20000 in
theorem ggX8_pullOf_X8_no : GoodIn wsX8_pullOf wsX8_no := goodIn_r _ [15, 16, 25, 26, 27, 28, 29, 30, 31, 32, 33, 34, 35, 36, 37, 38, 39, 40, 41, 42, 43, 44, 45, 46, 47, 48, 49, 50, 51, 52, 53, 54, 55, 56, 57, 58, 59, 60, 61, 62] (by decide +kernel) (by decide +kernel)
set_option maxRecDepth 20000 in
theorem gX8_pullOf_X8_no : GoodIn wsX8_pullOf (wsV RX8 97 RX8 yX8_no wsX8_no) := goodIn_app (goodIn_of _ (by decide +kernel)) ggX8_pullOf_X8_no
theorem dX8_pullOf_0 : decode cX8_pullOf 0 = .ok (.aload_n 0, 1) := by decide +kernel
theorem dX8_pullOf_1 : decode cX8_pullOf 1 = .ok (.iload_n 1, 1) := by decide +kernel
theorem dX8_pullOf_2 : decode cX8_pullOf 2 = .ok (.invokevirtual 101, 3) := by decide +kernel
theorem dX8_pullOf_5 : decode cX8_pullOf 5 = .ok (.ifCond .ne 10, 3) := by decide +kernel
theorem dX8_pullOf_8 : decode cX8_pullOf 8 = .ok (.aload_n 0, 1) := by decide +kernel
theorem dX8_pullOf_9 : decode cX8_pullOf 9 = .ok (.bipush (-5), 2) := by decide +kernel
theorem dX8_pullOf_11 : decode cX8_pullOf 11 = .ok (.invokevirtual 97, 3) := by decide +kernel
theorem dX8_pullOf_14 : decode cX8_pullOf 14 = .ok (.ireturn, 1) := by decide +kernel
theorem dX8_sews_0 : decode cX8_sews 0 = .ok (.aload_n 0, 1) := by decide +kernel
theorem dX8_sews_1 : decode cX8_sews 1 = .ok (.iload_n 1, 1) := by decide +kernel
theorem dX8_sews_2 : decode cX8_sews 2 = .ok (.putfield 7, 3) := by decide +kernel
theorem dX8_sews_5 : decode cX8_sews 5 = .ok (.aload_n 0, 1) := by decide +kernel
theorem dX8_sews_6 : decode cX8_sews 6 = .ok (.iconst 0, 1) := by decide +kernel
theorem dX8_sews_7 : decode cX8_sews 7 = .ok (.putfield 122, 3) := by decide +kernel
theorem dX8_sews_10 : decode cX8_sews 10 = .ok (.iconst 0, 1) := by decide +kernel
theorem dX8_sews_11 : decode cX8_sews 11 = .ok (.istore_n 2, 1) := by decide +kernel
theorem dX8_sews_12 : decode cX8_sews 12 = .ok (.iload_n 2, 1) := by decide +kernel
theorem dX8_sews_13 : decode cX8_sews 13 = .ok (.bipush 40, 2) := by decide +kernel
theorem dX8_sews_15 : decode cX8_sews 15 = .ok (.if_icmp .ge 23, 3) := by decide +kernel
theorem dX8_sews_18 : decode cX8_sews 18 = .ok (.aload_n 0, 1) := by decide +kernel
theorem dX8_sews_19 : decode cX8_sews 19 = .ok (.getfield 38, 3) := by decide +kernel
theorem dX8_sews_22 : decode cX8_sews 22 = .ok (.iload_n 2, 1) := by decide +kernel
theorem dX8_sews_23 : decode cX8_sews 23 = .ok (.iconst 0, 1) := by decide +kernel
theorem dX8_sews_24 : decode cX8_sews 24 = .ok (.iastore, 1) := by decide +kernel
theorem dX8_sews_25 : decode cX8_sews 25 = .ok (.aload_n 0, 1) := by decide +kernel
theorem dX8_sews_26 : decode cX8_sews 26 = .ok (.getfield 41, 3) := by decide +kernel
theorem dX8_sews_29 : decode cX8_sews 29 = .ok (.iload_n 2, 1) := by decide +kernel
theorem dX8_sews_30 : decode cX8_sews 30 = .ok (.iconst 0, 1) := by decide +kernel
theorem dX8_sews_31 : decode cX8_sews 31 = .ok (.iastore, 1) := by decide +kernel
theorem dX8_sews_32 : decode cX8_sews 32 = .ok (.iinc 2 1, 3) := by decide +kernel
theorem dX8_sews_35 : decode cX8_sews 35 = .ok (.goto (-23), 3) := by decide +kernel
theorem dX8_sews_38 : decode cX8_sews 38 = .ok (.return_, 1) := by decide +kernel
set_option maxRecDepth 20000 in
theorem ggX8_teeth_X8_no : GoodIn wsX8_teeth wsX8_no := goodIn_r _ [6, 7, 15, 16, 17, 18, 19, 20, 21, 22, 23, 24, 25, 26, 27, 28, 29, 30, 31, 32, 33, 34, 35, 36, 37, 38, 39, 40, 41, 42, 43, 44, 45, 46, 47, 48, 49, 50, 51, 52] (by decide +kernel) (by decide +kernel)
set_option maxRecDepth 20000 in
theorem gX8_teeth_X8_no : GoodIn wsX8_teeth (wsV RX8 97 RX8 yX8_no wsX8_no) := goodIn_app (goodIn_of _ (by decide +kernel)) ggX8_teeth_X8_no
set_option maxRecDepth 20000 in
theorem ggX8_teeth_X8_sews : GoodIn wsX8_teeth wsX8_sews := goodIn_r _ [11, 1, 12, 13, 14, 15, 16, 17, 18, 19, 20, 21, 22, 23, 24, 25, 26, 27, 28, 29, 30, 31, 32, 33, 34, 35, 36, 37, 38, 39, 40, 41, 42, 43, 44, 45, 46, 47, 48, 49, 50, 51, 52] (by decide +kernel) (by decide +kernel)
set_option maxRecDepth 20000 in
theorem gX8_teeth_X8_sews : GoodIn wsX8_teeth (wsV RX8 125 RX8 yX8_sews wsX8_sews) := goodIn_app (goodIn_of _ (by decide +kernel)) ggX8_teeth_X8_sews
theorem dX8_teeth_0 : decode cX8_teeth 0 = .ok (.iload_n 1, 1) := by decide +kernel
theorem dX8_teeth_1 : decode cX8_teeth 1 = .ok (.iconst 4, 1) := by decide +kernel
theorem dX8_teeth_2 : decode cX8_teeth 2 = .ok (.if_icmp .lt 9, 3) := by decide +kernel
theorem dX8_teeth_5 : decode cX8_teeth 5 = .ok (.iload_n 1, 1) := by decide +kernel
theorem dX8_teeth_6 : decode cX8_teeth 6 = .ok (.bipush 40, 2) := by decide +kernel
theorem dX8_teeth_8 : decode cX8_teeth 8 = .ok (.if_icmp .le 10, 3) := by decide +kernel
theorem dX8_teeth_11 : decode cX8_teeth 11 = .ok (.aload_n 0, 1) := by decide +kernel
theorem dX8_teeth_12 : decode cX8_teeth 12 = .ok (.bipush (-6), 2) := by decide +kernel
theorem dX8_teeth_14 : decode cX8_teeth 14 = .ok (.invokevirtual 97, 3) := by decide +kernel
theorem dX8_teeth_17 : decode cX8_teeth 17 = .ok (.ireturn, 1) := by decide +kernel
theorem dX8_teeth_18 : decode cX8_teeth 18 = .ok (.aload_n 0, 1) := by decide +kernel
theorem dX8_teeth_19 : decode cX8_teeth 19 = .ok (.getfield 7, 3) := by decide +kernel
theorem dX8_teeth_22 : decode cX8_teeth 22 = .ok (.istore_n 2, 1) := by decide +kernel
theorem dX8_teeth_23 : decode cX8_teeth 23 = .ok (.aload_n 0, 1) := by decide +kernel
theorem dX8_teeth_24 : decode cX8_teeth 24 = .ok (.iload_n 1, 1) := by decide +kernel
theorem dX8_teeth_25 : decode cX8_teeth 25 = .ok (.invokevirtual 125, 3) := by decide +kernel
theorem dX8_teeth_28 : decode cX8_teeth 28 = .ok (.iload_n 2, 1) := by decide +kernel
theorem dX8_teeth_29 : decode cX8_teeth 29 = .ok (.ireturn, 1) := by decide +kernel
set_option maxRecDepth 20000 in
theorem ggX8_lack_X8_isTooth : GoodIn wsX8_lack wsX8_isTooth := goodIn_r _ [6, 7, 13, 14, 15, 16, 17, 18, 19, 20, 21, 22, 23, 24, 25, 26, 27, 28, 29, 30, 31, 32, 33, 34, 35, 36, 37, 38, 39, 40, 41, 42, 43, 44, 45, 46, 47, 48, 49, 50] (by decide +kernel) (by decide +kernel)
set_option maxRecDepth 20000 in
theorem gX8_lack_X8_isTooth : GoodIn wsX8_lack (wsV RX8 129 RX8 yX8_isTooth wsX8_isTooth) := goodIn_app (goodIn_of _ (by decide +kernel)) ggX8_lack_X8_isTooth
set_option maxRecDepth 20000 in
theorem ggX8_lack_X8_no : GoodIn wsX8_lack wsX8_no := goodIn_r _ [11, 12, 13, 14, 15, 16, 17, 18, 19, 20, 21, 22, 23, 24, 25, 26, 27, 28, 29, 30, 31, 32, 33, 34, 35, 36, 37, 38, 39, 40, 41, 42, 43, 44, 45, 46, 47, 48, 49, 50] (by decide +kernel) (by decide +kernel)
set_option maxRecDepth 20000 in
theorem gX8_lack_X8_no : GoodIn wsX8_lack (wsV RX8 97 RX8 yX8_no wsX8_no) := goodIn_app (goodIn_of _ (by decide +kernel)) ggX8_lack_X8_no
theorem dX8_lack_0 : decode cX8_lack 0 = .ok (.aload_n 0, 1) := by decide +kernel
theorem dX8_lack_1 : decode cX8_lack 1 = .ok (.iload_n 1, 1) := by decide +kernel
theorem dX8_lack_2 : decode cX8_lack 2 = .ok (.invokevirtual 129, 3) := by decide +kernel
theorem dX8_lack_5 : decode cX8_lack 5 = .ok (.ifCond .ne 9, 3) := by decide +kernel
theorem dX8_lack_8 : decode cX8_lack 8 = .ok (.aload_n 0, 1) := by decide +kernel
theorem dX8_lack_9 : decode cX8_lack 9 = .ok (.iconst (-1), 1) := by decide +kernel
theorem dX8_lack_10 : decode cX8_lack 10 = .ok (.invokevirtual 97, 3) := by decide +kernel
theorem dX8_lack_13 : decode cX8_lack 13 = .ok (.ireturn, 1) := by decide +kernel
theorem dX8_lack_14 : decode cX8_lack 14 = .ok (.aload_n 0, 1) := by decide +kernel
theorem dX8_lack_15 : decode cX8_lack 15 = .ok (.getfield 38, 3) := by decide +kernel
theorem dX8_lack_18 : decode cX8_lack 18 = .ok (.iload_n 1, 1) := by decide +kernel
theorem dX8_lack_19 : decode cX8_lack 19 = .ok (.iaload, 1) := by decide +kernel
theorem dX8_lack_20 : decode cX8_lack 20 = .ok (.istore_n 3, 1) := by decide +kernel
theorem dX8_lack_21 : decode cX8_lack 21 = .ok (.aload_n 0, 1) := by decide +kernel
theorem dX8_lack_22 : decode cX8_lack 22 = .ok (.getfield 38, 3) := by decide +kernel
theorem dX8_lack_25 : decode cX8_lack 25 = .ok (.iload_n 1, 1) := by decide +kernel
theorem dX8_lack_26 : decode cX8_lack 26 = .ok (.iload_n 2, 1) := by decide +kernel
theorem dX8_lack_27 : decode cX8_lack 27 = .ok (.ifCond .eq 7, 3) := by decide +kernel
theorem dX8_lack_30 : decode cX8_lack 30 = .ok (.iconst 1, 1) := by decide +kernel
theorem dX8_lack_31 : decode cX8_lack 31 = .ok (.goto 4, 3) := by decide +kernel
theorem dX8_lack_34 : decode cX8_lack 34 = .ok (.iconst 0, 1) := by decide +kernel
theorem dX8_lack_35 : decode cX8_lack 35 = .ok (.iastore, 1) := by decide +kernel
theorem dX8_lack_36 : decode cX8_lack 36 = .ok (.iload_n 3, 1) := by decide +kernel
theorem dX8_lack_37 : decode cX8_lack 37 = .ok (.ireturn, 1) := by decide +kernel
set_option maxRecDepth 20000 in
theorem ggX8_slack_X8_isTooth : GoodIn wsX8_slack wsX8_isTooth := goodIn_r _ [6, 7, 13, 14, 15, 16, 17, 18, 19, 20, 21, 22, 23, 24, 25, 26, 27, 28, 29, 30, 31, 32, 33, 34, 35, 36, 37, 38, 39, 40, 41, 42, 43, 44, 45, 46, 47, 48, 49, 50] (by decide +kernel) (by decide +kernel)
set_option maxRecDepth 20000 in
theorem gX8_slack_X8_isTooth : GoodIn wsX8_slack (wsV RX8 129 RX8 yX8_isTooth wsX8_isTooth) := goodIn_app (goodIn_of _ (by decide +kernel)) ggX8_slack_X8_isTooth
set_option maxRecDepth 20000 in
theorem ggX8_slack_X8_no : GoodIn wsX8_slack wsX8_no := goodIn_r _ [11, 12, 13, 14, 15, 16, 17, 18, 19, 20, 21, 22, 23, 24, 25, 26, 27, 28, 29, 30, 31, 32, 33, 34, 35, 36, 37, 38, 39, 40, 41, 42, 43, 44, 45, 46, 47, 48, 49, 50] (by decide +kernel) (by decide +kernel)
set_option maxRecDepth 20000 in
theorem gX8_slack_X8_no : GoodIn wsX8_slack (wsV RX8 97 RX8 yX8_no wsX8_no) := goodIn_app (goodIn_of _ (by decide +kernel)) ggX8_slack_X8_no
theorem dX8_slack_0 : decode cX8_slack 0 = .ok (.aload_n 0, 1) := by decide +kernel
theorem dX8_slack_1 : decode cX8_slack 1 = .ok (.iload_n 1, 1) := by decide +kernel
theorem dX8_slack_2 : decode cX8_slack 2 = .ok (.invokevirtual 129, 3) := by decide +kernel
theorem dX8_slack_5 : decode cX8_slack 5 = .ok (.ifCond .ne 9, 3) := by decide +kernel
theorem dX8_slack_8 : decode cX8_slack 8 = .ok (.aload_n 0, 1) := by decide +kernel
theorem dX8_slack_9 : decode cX8_slack 9 = .ok (.iconst (-1), 1) := by decide +kernel
theorem dX8_slack_10 : decode cX8_slack 10 = .ok (.invokevirtual 97, 3) := by decide +kernel
theorem dX8_slack_13 : decode cX8_slack 13 = .ok (.ireturn, 1) := by decide +kernel
theorem dX8_slack_14 : decode cX8_slack 14 = .ok (.iload_n 2, 1) := by decide +kernel
theorem dX8_slack_15 : decode cX8_slack 15 = .ok (.ifCond .lt 9, 3) := by decide +kernel
theorem dX8_slack_18 : decode cX8_slack 18 = .ok (.iload_n 2, 1) := by decide +kernel
theorem dX8_slack_19 : decode cX8_slack 19 = .ok (.bipush 9, 2) := by decide +kernel
theorem dX8_slack_21 : decode cX8_slack 21 = .ok (.if_icmp .le 10, 3) := by decide +kernel
theorem dX8_slack_24 : decode cX8_slack 24 = .ok (.aload_n 0, 1) := by decide +kernel
theorem dX8_slack_25 : decode cX8_slack 25 = .ok (.bipush (-6), 2) := by decide +kernel
theorem dX8_slack_27 : decode cX8_slack 27 = .ok (.invokevirtual 97, 3) := by decide +kernel
theorem dX8_slack_30 : decode cX8_slack 30 = .ok (.ireturn, 1) := by decide +kernel
theorem dX8_slack_31 : decode cX8_slack 31 = .ok (.aload_n 0, 1) := by decide +kernel
theorem dX8_slack_32 : decode cX8_slack 32 = .ok (.getfield 41, 3) := by decide +kernel
theorem dX8_slack_35 : decode cX8_slack 35 = .ok (.iload_n 1, 1) := by decide +kernel
theorem dX8_slack_36 : decode cX8_slack 36 = .ok (.iaload, 1) := by decide +kernel
theorem dX8_slack_37 : decode cX8_slack 37 = .ok (.istore_n 3, 1) := by decide +kernel
theorem dX8_slack_38 : decode cX8_slack 38 = .ok (.aload_n 0, 1) := by decide +kernel
theorem dX8_slack_39 : decode cX8_slack 39 = .ok (.getfield 41, 3) := by decide +kernel
theorem dX8_slack_42 : decode cX8_slack 42 = .ok (.iload_n 1, 1) := by decide +kernel
theorem dX8_slack_43 : decode cX8_slack 43 = .ok (.iload_n 2, 1) := by decide +kernel
theorem dX8_slack_44 : decode cX8_slack 44 = .ok (.iastore, 1) := by decide +kernel
theorem dX8_slack_45 : decode cX8_slack 45 = .ok (.iload_n 3, 1) := by decide +kernel
theorem dX8_slack_46 : decode cX8_slack 46 = .ok (.ireturn, 1) := by decide +kernel
theorem dX8_most_0 : decode cX8_most 0 = .ok (.iload_n 1, 1) := by decide +kernel
theorem dX8_most_1 : decode cX8_most 1 = .ok (.ifCond .ne 8, 3) := by decide +kernel
theorem dX8_most_4 : decode cX8_most 4 = .ok (.bipush 24, 2) := by decide +kernel
theorem dX8_most_6 : decode cX8_most 6 = .ok (.goto 44, 3) := by decide +kernel
theorem dX8_most_9 : decode cX8_most 9 = .ok (.iload_n 1, 1) := by decide +kernel
theorem dX8_most_10 : decode cX8_most 10 = .ok (.iconst 1, 1) := by decide +kernel
theorem dX8_most_11 : decode cX8_most 11 = .ok (.if_icmp .ne 9, 3) := by decide +kernel
theorem dX8_most_14 : decode cX8_most 14 = .ok (.sipush 300, 3) := by decide +kernel
theorem dX8_most_17 : decode cX8_most 17 = .ok (.goto 33, 3) := by decide +kernel
theorem dX8_most_20 : decode cX8_most 20 = .ok (.iload_n 1, 1) := by decide +kernel
theorem dX8_most_21 : decode cX8_most 21 = .ok (.iconst 2, 1) := by decide +kernel
theorem dX8_most_22 : decode cX8_most 22 = .ok (.if_icmp .eq 8, 3) := by decide +kernel
theorem dX8_most_25 : decode cX8_most 25 = .ok (.iload_n 1, 1) := by decide +kernel
theorem dX8_most_26 : decode cX8_most 26 = .ok (.iconst 3, 1) := by decide +kernel
theorem dX8_most_27 : decode cX8_most 27 = .ok (.if_icmp .ne 8, 3) := by decide +kernel
theorem dX8_most_30 : decode cX8_most 30 = .ok (.bipush 9, 2) := by decide +kernel
theorem dX8_most_32 : decode cX8_most 32 = .ok (.goto 18, 3) := by decide +kernel
theorem dX8_most_35 : decode cX8_most 35 = .ok (.iload_n 1, 1) := by decide +kernel
theorem dX8_most_36 : decode cX8_most 36 = .ok (.bipush 7, 2) := by decide +kernel
theorem dX8_most_38 : decode cX8_most 38 = .ok (.if_icmp .ne 10, 3) := by decide +kernel
theorem dX8_most_41 : decode cX8_most 41 = .ok (.aload_n 0, 1) := by decide +kernel
theorem dX8_most_42 : decode cX8_most 42 = .ok (.getfield 7, 3) := by decide +kernel
theorem dX8_most_45 : decode cX8_most 45 = .ok (.goto 5, 3) := by decide +kernel
theorem dX8_most_48 : decode cX8_most 48 = .ok (.bipush 99, 2) := by decide +kernel
theorem dX8_most_50 : decode cX8_most 50 = .ok (.ireturn, 1) := by decide +kernel
set_option maxRecDepth 20000 in
theorem ggX8_isAsked_X8_most : GoodIn wsX8_isAsked wsX8_most := goodIn_r _ [5, 6, 7, 8, 9, 10, 11, 12, 13, 14, 15, 16, 17, 18, 19, 20, 21, 22, 23, 24, 25, 26, 27, 28, 29, 30, 31, 32, 33, 34, 35, 36, 37, 38, 39, 40, 41, 42, 43, 44] (by decide +kernel) (by decide +kernel)
set_option maxRecDepth 20000 in
theorem gX8_isAsked_X8_most : GoodIn wsX8_isAsked (wsV RX8 132 RX8 yX8_most wsX8_most) := goodIn_app (goodIn_of _ (by decide +kernel)) ggX8_isAsked_X8_most
theorem dX8_isAsked_0 : decode cX8_isAsked 0 = .ok (.iload_n 2, 1) := by decide +kernel
theorem dX8_isAsked_1 : decode cX8_isAsked 1 = .ok (.iload_n 1, 1) := by decide +kernel
theorem dX8_isAsked_2 : decode cX8_isAsked 2 = .ok (.iconst 3, 1) := by decide +kernel
theorem dX8_isAsked_3 : decode cX8_isAsked 3 = .ok (.if_icmp .ne 7, 3) := by decide +kernel
theorem dX8_isAsked_6 : decode cX8_isAsked 6 = .ok (.iconst 1, 1) := by decide +kernel
theorem dX8_isAsked_7 : decode cX8_isAsked 7 = .ok (.goto 4, 3) := by decide +kernel
theorem dX8_isAsked_10 : decode cX8_isAsked 10 = .ok (.iconst 0, 1) := by decide +kernel
theorem dX8_isAsked_11 : decode cX8_isAsked 11 = .ok (.if_icmp .lt 16, 3) := by decide +kernel
theorem dX8_isAsked_14 : decode cX8_isAsked 14 = .ok (.iload_n 2, 1) := by decide +kernel
theorem dX8_isAsked_15 : decode cX8_isAsked 15 = .ok (.aload_n 0, 1) := by decide +kernel
theorem dX8_isAsked_16 : decode cX8_isAsked 16 = .ok (.iload_n 1, 1) := by decide +kernel
theorem dX8_isAsked_17 : decode cX8_isAsked 17 = .ok (.invokevirtual 132, 3) := by decide +kernel
theorem dX8_isAsked_20 : decode cX8_isAsked 20 = .ok (.if_icmp .gt 7, 3) := by decide +kernel
theorem dX8_isAsked_23 : decode cX8_isAsked 23 = .ok (.iconst 1, 1) := by decide +kernel
theorem dX8_isAsked_24 : decode cX8_isAsked 24 = .ok (.goto 4, 3) := by decide +kernel
theorem dX8_isAsked_27 : decode cX8_isAsked 27 = .ok (.iconst 0, 1) := by decide +kernel
theorem dX8_isAsked_28 : decode cX8_isAsked 28 = .ok (.ireturn, 1) := by decide +kernel
theorem dX8_told_0 : decode cX8_told 0 = .ok (.iload_n 1, 1) := by decide +kernel
theorem dX8_told_1 : decode cX8_told 1 = .ok (.tableswitch 72 0 7 #[47, 52, 57, 62, 72, 72, 72, 67], 47) := by decide +kernel
theorem dX8_told_48 : decode cX8_told 48 = .ok (.aload_n 0, 1) := by decide +kernel
theorem dX8_told_49 : decode cX8_told 49 = .ok (.getfield 115, 3) := by decide +kernel
theorem dX8_told_52 : decode cX8_told 52 = .ok (.ireturn, 1) := by decide +kernel
theorem dX8_told_53 : decode cX8_told 53 = .ok (.aload_n 0, 1) := by decide +kernel
theorem dX8_told_54 : decode cX8_told 54 = .ok (.getfield 13, 3) := by decide +kernel
theorem dX8_told_57 : decode cX8_told 57 = .ok (.ireturn, 1) := by decide +kernel
theorem dX8_told_58 : decode cX8_told 58 = .ok (.aload_n 0, 1) := by decide +kernel
theorem dX8_told_59 : decode cX8_told 59 = .ok (.getfield 135, 3) := by decide +kernel
theorem dX8_told_62 : decode cX8_told 62 = .ok (.ireturn, 1) := by decide +kernel
theorem dX8_told_63 : decode cX8_told 63 = .ok (.aload_n 0, 1) := by decide +kernel
theorem dX8_told_64 : decode cX8_told 64 = .ok (.getfield 16, 3) := by decide +kernel
theorem dX8_told_67 : decode cX8_told 67 = .ok (.ireturn, 1) := by decide +kernel
theorem dX8_told_68 : decode cX8_told 68 = .ok (.aload_n 0, 1) := by decide +kernel
theorem dX8_told_69 : decode cX8_told 69 = .ok (.getfield 122, 3) := by decide +kernel
theorem dX8_told_72 : decode cX8_told 72 = .ok (.ireturn, 1) := by decide +kernel
theorem dX8_told_73 : decode cX8_told 73 = .ok (.aload_n 0, 1) := by decide +kernel
theorem dX8_told_74 : decode cX8_told 74 = .ok (.getfield 44, 3) := by decide +kernel
theorem dX8_told_77 : decode cX8_told 77 = .ok (.iload_n 1, 1) := by decide +kernel
theorem dX8_told_78 : decode cX8_told 78 = .ok (.iconst 4, 1) := by decide +kernel
theorem dX8_told_79 : decode cX8_told 79 = .ok (.isub, 1) := by decide +kernel
theorem dX8_told_80 : decode cX8_told 80 = .ok (.iaload, 1) := by decide +kernel
theorem dX8_told_81 : decode cX8_told 81 = .ok (.ireturn, 1) := by decide +kernel
theorem dX8_tells_0 : decode cX8_tells 0 = .ok (.iload_n 1, 1) := by decide +kernel
theorem dX8_tells_1 : decode cX8_tells 1 = .ok (.tableswitch 87 0 7 #[47, 55, 63, 71, 87, 87, 87, 79], 47) := by decide +kernel
theorem dX8_tells_48 : decode cX8_tells 48 = .ok (.aload_n 0, 1) := by decide +kernel
theorem dX8_tells_49 : decode cX8_tells 49 = .ok (.iload_n 2, 1) := by decide +kernel
theorem dX8_tells_50 : decode cX8_tells 50 = .ok (.putfield 115, 3) := by decide +kernel
theorem dX8_tells_53 : decode cX8_tells 53 = .ok (.goto 44, 3) := by decide +kernel
theorem dX8_tells_56 : decode cX8_tells 56 = .ok (.aload_n 0, 1) := by decide +kernel
theorem dX8_tells_57 : decode cX8_tells 57 = .ok (.iload_n 2, 1) := by decide +kernel
theorem dX8_tells_58 : decode cX8_tells 58 = .ok (.putfield 13, 3) := by decide +kernel
theorem dX8_tells_61 : decode cX8_tells 61 = .ok (.goto 36, 3) := by decide +kernel
theorem dX8_tells_64 : decode cX8_tells 64 = .ok (.aload_n 0, 1) := by decide +kernel
theorem dX8_tells_65 : decode cX8_tells 65 = .ok (.iload_n 2, 1) := by decide +kernel
theorem dX8_tells_66 : decode cX8_tells 66 = .ok (.putfield 135, 3) := by decide +kernel
theorem dX8_tells_69 : decode cX8_tells 69 = .ok (.goto 28, 3) := by decide +kernel
theorem dX8_tells_72 : decode cX8_tells 72 = .ok (.aload_n 0, 1) := by decide +kernel
theorem dX8_tells_73 : decode cX8_tells 73 = .ok (.iload_n 2, 1) := by decide +kernel
theorem dX8_tells_74 : decode cX8_tells 74 = .ok (.putfield 16, 3) := by decide +kernel
theorem dX8_tells_77 : decode cX8_tells 77 = .ok (.goto 20, 3) := by decide +kernel
theorem dX8_tells_80 : decode cX8_tells 80 = .ok (.aload_n 0, 1) := by decide +kernel
theorem dX8_tells_81 : decode cX8_tells 81 = .ok (.iload_n 2, 1) := by decide +kernel
theorem dX8_tells_82 : decode cX8_tells 82 = .ok (.putfield 122, 3) := by decide +kernel
theorem dX8_tells_85 : decode cX8_tells 85 = .ok (.goto 12, 3) := by decide +kernel
theorem dX8_tells_88 : decode cX8_tells 88 = .ok (.aload_n 0, 1) := by decide +kernel
theorem dX8_tells_89 : decode cX8_tells 89 = .ok (.getfield 44, 3) := by decide +kernel
theorem dX8_tells_92 : decode cX8_tells 92 = .ok (.iload_n 1, 1) := by decide +kernel
theorem dX8_tells_93 : decode cX8_tells 93 = .ok (.iconst 4, 1) := by decide +kernel
theorem dX8_tells_94 : decode cX8_tells 94 = .ok (.isub, 1) := by decide +kernel
theorem dX8_tells_95 : decode cX8_tells 95 = .ok (.iload_n 2, 1) := by decide +kernel
theorem dX8_tells_96 : decode cX8_tells 96 = .ok (.iastore, 1) := by decide +kernel
theorem dX8_tells_97 : decode cX8_tells 97 = .ok (.return_, 1) := by decide +kernel
set_option maxRecDepth 20000 in
theorem ggX8_ask_X8_isAsked : GoodIn wsX8_ask wsX8_isAsked := goodIn_r _ [5, 6, 7, 8, 4, 9, 10, 30, 31, 32, 33, 34, 35, 36, 37, 38, 39, 40, 41, 42, 43, 44, 45, 46, 47, 48, 49, 50, 51, 52, 53, 54, 55, 56, 57, 58, 59, 60, 61, 62, 63, 64, 65, 66, 67] (by decide +kernel) (by decide +kernel)
set_option maxRecDepth 20000 in
theorem gX8_ask_X8_isAsked : GoodIn wsX8_ask (wsV RX8 138 RX8 yX8_isAsked wsX8_isAsked) := goodIn_app (goodIn_of _ (by decide +kernel)) ggX8_ask_X8_isAsked
set_option maxRecDepth 20000 in
theorem ggX8_ask_X8_no : GoodIn wsX8_ask wsX8_no := goodIn_r _ [14, 15, 30, 31, 32, 33, 34, 35, 36, 37, 38, 39, 40, 41, 42, 43, 44, 45, 46, 47, 48, 49, 50, 51, 52, 53, 54, 55, 56, 57, 58, 59, 60, 61, 62, 63, 64, 65, 66, 67] (by decide +kernel) (by decide +kernel)
set_option maxRecDepth 20000 in
theorem gX8_ask_X8_no : GoodIn wsX8_ask (wsV RX8 97 RX8 yX8_no wsX8_no) := goodIn_app (goodIn_of _ (by decide +kernel)) ggX8_ask_X8_no
set_option maxRecDepth 20000 in
theorem ggX8_ask_X8_told : GoodIn wsX8_ask wsX8_told := goodIn_r _ [19, 20, 21, 22, 23, 24, 25, 30, 31, 32, 33, 34, 35, 36, 37, 38, 39, 40, 41, 42, 43, 44, 45, 46, 47, 48, 49, 50, 51, 52, 53, 54, 55, 56, 57, 58, 59, 60, 61, 62, 63, 64, 65, 66, 67] (by decide +kernel) (by decide +kernel)
set_option maxRecDepth 20000 in
theorem gX8_ask_X8_told : GoodIn wsX8_ask (wsV RX8 142 RX8 yX8_told wsX8_told) := goodIn_app (goodIn_of _ (by decide +kernel)) ggX8_ask_X8_told
set_option maxRecDepth 20000 in
theorem ggX8_ask_X8_tells : GoodIn wsX8_ask wsX8_tells := goodIn_r _ [29, 20, 21, 22, 23, 24, 25, 30, 31, 32, 33, 34, 35, 36, 37, 38, 39, 40, 41, 42, 43, 44, 45, 46, 47, 48, 49, 50, 51, 52, 53, 54, 55, 56, 57, 58, 59, 60, 61, 62, 63, 64, 65, 66, 67] (by decide +kernel) (by decide +kernel)
set_option maxRecDepth 20000 in
theorem gX8_ask_X8_tells : GoodIn wsX8_ask (wsV RX8 145 RX8 yX8_tells wsX8_tells) := goodIn_app (goodIn_of _ (by decide +kernel)) ggX8_ask_X8_tells
theorem dX8_ask_0 : decode cX8_ask 0 = .ok (.iload_n 1, 1) := by decide +kernel
theorem dX8_ask_1 : decode cX8_ask 1 = .ok (.ifCond .lt 18, 3) := by decide +kernel
theorem dX8_ask_4 : decode cX8_ask 4 = .ok (.iload_n 1, 1) := by decide +kernel
theorem dX8_ask_5 : decode cX8_ask 5 = .ok (.bipush 7, 2) := by decide +kernel
theorem dX8_ask_7 : decode cX8_ask 7 = .ok (.if_icmp .gt 12, 3) := by decide +kernel
theorem dX8_ask_10 : decode cX8_ask 10 = .ok (.aload_n 0, 1) := by decide +kernel
theorem dX8_ask_11 : decode cX8_ask 11 = .ok (.iload_n 1, 1) := by decide +kernel
theorem dX8_ask_12 : decode cX8_ask 12 = .ok (.iload_n 2, 1) := by decide +kernel
theorem dX8_ask_13 : decode cX8_ask 13 = .ok (.invokevirtual 138, 3) := by decide +kernel
theorem dX8_ask_16 : decode cX8_ask 16 = .ok (.ifCond .ne 10, 3) := by decide +kernel
theorem dX8_ask_19 : decode cX8_ask 19 = .ok (.aload_n 0, 1) := by decide +kernel
theorem dX8_ask_20 : decode cX8_ask 20 = .ok (.bipush (-6), 2) := by decide +kernel
theorem dX8_ask_22 : decode cX8_ask 22 = .ok (.invokevirtual 97, 3) := by decide +kernel
theorem dX8_ask_25 : decode cX8_ask 25 = .ok (.ireturn, 1) := by decide +kernel
theorem dX8_ask_26 : decode cX8_ask 26 = .ok (.aload_n 0, 1) := by decide +kernel
theorem dX8_ask_27 : decode cX8_ask 27 = .ok (.iload_n 1, 1) := by decide +kernel
theorem dX8_ask_28 : decode cX8_ask 28 = .ok (.invokevirtual 142, 3) := by decide +kernel
theorem dX8_ask_31 : decode cX8_ask 31 = .ok (.istore_n 3, 1) := by decide +kernel
theorem dX8_ask_32 : decode cX8_ask 32 = .ok (.aload_n 0, 1) := by decide +kernel
theorem dX8_ask_33 : decode cX8_ask 33 = .ok (.iload_n 1, 1) := by decide +kernel
theorem dX8_ask_34 : decode cX8_ask 34 = .ok (.iload_n 2, 1) := by decide +kernel
theorem dX8_ask_35 : decode cX8_ask 35 = .ok (.invokevirtual 145, 3) := by decide +kernel
theorem dX8_ask_38 : decode cX8_ask 38 = .ok (.iload_n 3, 1) := by decide +kernel
theorem dX8_ask_39 : decode cX8_ask 39 = .ok (.ireturn, 1) := by decide +kernel
set_option maxRecDepth 20000 in
theorem ggX8_jacket_X8_wanted : GoodIn wsX8_jacket wsX8_wanted := goodIn_r _ [13, 14, 15, 16, 17, 12, 18, 99, 100, 101, 102, 103, 104, 105, 106, 107, 108, 109, 110, 111, 112, 113, 114, 115, 116, 117, 118, 119, 120, 121, 122, 123, 124, 125, 126, 127, 128, 129, 130, 131, 132, 133, 134, 135, 136] (by decide +kernel) (by decide +kernel)
set_option maxRecDepth 20000 in
theorem gX8_jacket_X8_wanted : GoodIn wsX8_jacket (wsV RX8 191 RX8 yX8_wanted wsX8_wanted) := goodIn_app (goodIn_of _ (by decide +kernel)) ggX8_jacket_X8_wanted
set_option maxRecDepth 20000 in
theorem ggX8_jacket_X8_no : GoodIn wsX8_jacket wsX8_no := goodIn_r _ [22, 23, 99, 100, 101, 102, 103, 104, 105, 106, 107, 108, 109, 110, 111, 112, 113, 114, 115, 116, 117, 118, 119, 120, 121, 122, 123, 124, 125, 126, 127, 128, 129, 130, 131, 132, 133, 134, 135, 136] (by decide +kernel) (by decide +kernel)
set_option maxRecDepth 20000 in
theorem gX8_jacket_X8_no : GoodIn wsX8_jacket (wsV RX8 97 RX8 yX8_no wsX8_no) := goodIn_app (goodIn_of _ (by decide +kernel)) ggX8_jacket_X8_no
theorem dX8_jacket_0 : decode cX8_jacket 0 = .ok (.aload_n 0, 1) := by decide +kernel
theorem dX8_jacket_1 : decode cX8_jacket 1 = .ok (.iload_n 1, 1) := by decide +kernel
theorem dX8_jacket_2 : decode cX8_jacket 2 = .ok (.invokevirtual 191, 3) := by decide +kernel
theorem dX8_jacket_5 : decode cX8_jacket 5 = .ok (.istore_n 2, 1) := by decide +kernel
theorem dX8_jacket_6 : decode cX8_jacket 6 = .ok (.iload_n 2, 1) := by decide +kernel
theorem dX8_jacket_7 : decode cX8_jacket 7 = .ok (.ifCond .eq 9, 3) := by decide +kernel
theorem dX8_jacket_10 : decode cX8_jacket 10 = .ok (.aload_n 0, 1) := by decide +kernel
theorem dX8_jacket_11 : decode cX8_jacket 11 = .ok (.iload_n 2, 1) := by decide +kernel
theorem dX8_jacket_12 : decode cX8_jacket 12 = .ok (.invokevirtual 97, 3) := by decide +kernel
theorem dX8_jacket_15 : decode cX8_jacket 15 = .ok (.ireturn, 1) := by decide +kernel
theorem dX8_fault_0 : decode cX8_fault 0 = .ok (.aload_n 0, 1) := by decide +kernel
theorem dX8_fault_1 : decode cX8_fault 1 = .ok (.getfield 22, 3) := by decide +kernel
theorem dX8_fault_4 : decode cX8_fault 4 = .ok (.ireturn, 1) := by decide +kernel
set_option maxRecDepth 20000 in
theorem ggX8_frees_X8_isPull : GoodIn wsX8_frees wsX8_isPull := goodIn_r _ [5, 6, 27, 28, 29, 30, 31, 32, 33, 34, 35, 36, 37, 38, 39, 40, 41, 42, 43, 44, 45, 46, 47, 48, 49, 50, 51, 52, 53, 54, 55, 56, 57, 58, 59, 60, 61, 62, 63, 64] (by decide +kernel) (by decide +kernel)
set_option maxRecDepth 20000 in
theorem gX8_frees_X8_isPull : GoodIn wsX8_frees (wsV RX8 101 RX8 yX8_isPull wsX8_isPull) := goodIn_app (goodIn_of _ (by decide +kernel)) ggX8_frees_X8_isPull
set_option maxRecDepth 20000 in
theorem ggX8_frees_X8_no : GoodIn wsX8_frees wsX8_no := goodIn_r _ [10, 11, 27, 28, 29, 30, 31, 32, 33, 34, 35, 36, 37, 38, 39, 40, 41, 42, 43, 44, 45, 46, 47, 48, 49, 50, 51, 52, 53, 54, 55, 56, 57, 58, 59, 60, 61, 62, 63, 64] (by decide +kernel) (by decide +kernel)
set_option maxRecDepth 20000 in
theorem gX8_frees_X8_no : GoodIn wsX8_frees (wsV RX8 97 RX8 yX8_no wsX8_no) := goodIn_app (goodIn_of _ (by decide +kernel)) ggX8_frees_X8_no
theorem dX8_frees_0 : decode cX8_frees 0 = .ok (.aload_n 0, 1) := by decide +kernel
theorem dX8_frees_1 : decode cX8_frees 1 = .ok (.iload_n 1, 1) := by decide +kernel
theorem dX8_frees_2 : decode cX8_frees 2 = .ok (.invokevirtual 101, 3) := by decide +kernel
theorem dX8_frees_5 : decode cX8_frees 5 = .ok (.ifCond .ne 9, 3) := by decide +kernel
theorem dX8_frees_8 : decode cX8_frees 8 = .ok (.aload_n 0, 1) := by decide +kernel
theorem dX8_frees_9 : decode cX8_frees 9 = .ok (.iconst (-1), 1) := by decide +kernel
theorem dX8_frees_10 : decode cX8_frees 10 = .ok (.invokevirtual 97, 3) := by decide +kernel
theorem dX8_frees_13 : decode cX8_frees 13 = .ok (.ireturn, 1) := by decide +kernel
set_option maxRecDepth 20000 in
theorem ggX8_power_X8_power : GoodIn wsX8_power wsX8_power := goodIn_r _ [0, 1, 2, 3, 4] (by decide +kernel) (by decide +kernel)
set_option maxRecDepth 20000 in
theorem gX8_power_X8_power : GoodIn wsX8_power (wsV RX8 205 RX8 yX8_power wsX8_power) := goodIn_app (goodIn_of _ (by decide +kernel)) ggX8_power_X8_power
theorem dX8_power_0 : decode cX8_power 0 = .ok (.iload_n 1, 1) := by decide +kernel
theorem dX8_power_1 : decode cX8_power 1 = .ok (.ifCond .ne 7, 3) := by decide +kernel
theorem dX8_power_4 : decode cX8_power 4 = .ok (.iconst 1, 1) := by decide +kernel
theorem dX8_power_5 : decode cX8_power 5 = .ok (.goto 13, 3) := by decide +kernel
theorem dX8_power_8 : decode cX8_power 8 = .ok (.bipush 12, 2) := by decide +kernel
theorem dX8_power_10 : decode cX8_power 10 = .ok (.aload_n 0, 1) := by decide +kernel
theorem dX8_power_11 : decode cX8_power 11 = .ok (.iload_n 1, 1) := by decide +kernel
theorem dX8_power_12 : decode cX8_power 12 = .ok (.iconst 1, 1) := by decide +kernel
theorem dX8_power_13 : decode cX8_power 13 = .ok (.isub, 1) := by decide +kernel
theorem dX8_power_14 : decode cX8_power 14 = .ok (.invokevirtual 205, 3) := by decide +kernel
theorem dX8_power_17 : decode cX8_power 17 = .ok (.imul, 1) := by decide +kernel
theorem dX8_power_18 : decode cX8_power 18 = .ok (.ireturn, 1) := by decide +kernel
set_option maxRecDepth 20000 in
theorem ggX8_mostCases_X8_power : GoodIn wsX8_mostCases wsX8_power := goodIn_r _ [7, 3, 4, 5, 6] (by decide +kernel) (by decide +kernel)
set_option maxRecDepth 20000 in
theorem gX8_mostCases_X8_power : GoodIn wsX8_mostCases (wsV RX8 205 RX8 yX8_power wsX8_power) := goodIn_app (goodIn_of _ (by decide +kernel)) ggX8_mostCases_X8_power
theorem dX8_mostCases_0 : decode cX8_mostCases 0 = .ok (.iload_n 2, 1) := by decide +kernel
theorem dX8_mostCases_1 : decode cX8_mostCases 1 = .ok (.ifCond .ne 9, 3) := by decide +kernel
theorem dX8_mostCases_4 : decode cX8_mostCases 4 = .ok (.aload_n 0, 1) := by decide +kernel
theorem dX8_mostCases_5 : decode cX8_mostCases 5 = .ok (.iload_n 1, 1) := by decide +kernel
theorem dX8_mostCases_6 : decode cX8_mostCases 6 = .ok (.invokevirtual 205, 3) := by decide +kernel
theorem dX8_mostCases_9 : decode cX8_mostCases 9 = .ok (.ireturn, 1) := by decide +kernel
theorem dX8_nextOf_0 : decode cX8_nextOf 0 = .ok (.iconst (-1), 1) := by decide +kernel
theorem dX8_nextOf_1 : decode cX8_nextOf 1 = .ok (.istore_n 2, 1) := by decide +kernel
theorem dX8_nextOf_2 : decode cX8_nextOf 2 = .ok (.iconst 0, 1) := by decide +kernel
theorem dX8_nextOf_3 : decode cX8_nextOf 3 = .ok (.istore_n 3, 1) := by decide +kernel
theorem dX8_nextOf_4 : decode cX8_nextOf 4 = .ok (.iconst 0, 1) := by decide +kernel
theorem dX8_nextOf_5 : decode cX8_nextOf 5 = .ok (.istore 4, 2) := by decide +kernel
theorem dX8_nextOf_7 : decode cX8_nextOf 7 = .ok (.iload 4, 2) := by decide +kernel
theorem dX8_nextOf_9 : decode cX8_nextOf 9 = .ok (.aload_n 0, 1) := by decide +kernel
theorem dX8_nextOf_10 : decode cX8_nextOf 10 = .ok (.getfield 90, 3) := by decide +kernel
theorem dX8_nextOf_13 : decode cX8_nextOf 13 = .ok (.if_icmp .ge 71, 3) := by decide +kernel
theorem dX8_nextOf_84 : decode cX8_nextOf 84 = .ok (.iload_n 2, 1) := by decide +kernel
theorem dX8_nextOf_85 : decode cX8_nextOf 85 = .ok (.ireturn, 1) := by decide +kernel
theorem dX8_isFew_0 : decode cX8_isFew 0 = .ok (.iload_n 1, 1) := by decide +kernel
theorem dX8_isFew_1 : decode cX8_isFew 1 = .ok (.ifCond .lt 12, 3) := by decide +kernel
theorem dX8_isFew_4 : decode cX8_isFew 4 = .ok (.iload_n 1, 1) := by decide +kernel
theorem dX8_isFew_5 : decode cX8_isFew 5 = .ok (.iconst 4, 1) := by decide +kernel
theorem dX8_isFew_6 : decode cX8_isFew 6 = .ok (.if_icmp .gt 7, 3) := by decide +kernel
theorem dX8_isFew_9 : decode cX8_isFew 9 = .ok (.iconst 1, 1) := by decide +kernel
theorem dX8_isFew_10 : decode cX8_isFew 10 = .ok (.goto 4, 3) := by decide +kernel
theorem dX8_isFew_13 : decode cX8_isFew 13 = .ok (.iconst 0, 1) := by decide +kernel
theorem dX8_isFew_14 : decode cX8_isFew 14 = .ok (.ireturn, 1) := by decide +kernel
set_option maxRecDepth 20000 in
theorem ggX8_cases_X8_noTen : GoodIn wsX8_cases wsX8_noTen := goodIn_r _ [7, 8, 50, 51, 52, 53, 54, 55, 56, 57, 58, 59, 60, 61, 62, 63, 64, 65, 66, 67, 68, 69, 70, 71, 72, 73, 74, 75, 76, 77, 78, 79, 80, 81, 82, 83, 84, 85, 86, 87] (by decide +kernel) (by decide +kernel)
set_option maxRecDepth 20000 in
theorem gX8_cases_X8_noTen : GoodIn wsX8_cases (wsV RX8 216 RX8 yX8_noTen wsX8_noTen) := goodIn_app (goodIn_of _ (by decide +kernel)) ggX8_cases_X8_noTen
set_option maxRecDepth 20000 in
theorem ggX8_cases_X8_isFew : GoodIn wsX8_cases wsX8_isFew := goodIn_r _ [12] (by decide +kernel) (by decide +kernel)
set_option maxRecDepth 20000 in
theorem gX8_cases_X8_isFew : GoodIn wsX8_cases (wsV RX8 219 RX8 yX8_isFew wsX8_isFew) := goodIn_app (goodIn_of _ (by decide +kernel)) ggX8_cases_X8_isFew
set_option maxRecDepth 20000 in
theorem ggX8_cases_X8_nextOf : GoodIn wsX8_cases wsX8_nextOf := goodIn_r _ [16, 17, 1, 2, 18, 19, 20, 6, 21, 22, 23, 24, 25, 26, 27, 28, 29, 30, 31, 32, 33, 34, 35, 36, 37, 38, 39, 40, 41, 42, 43, 44, 45, 46, 47, 48, 49, 50, 51, 52, 53, 54, 55, 56, 57, 58, 59, 60, 61, 62, 63, 64, 65, 66, 67, 68, 69, 70, 71, 72, 73, 74, 75, 76, 77, 78, 79, 80, 81, 82, 83, 84, 85, 86, 87] (by decide +kernel) (by decide +kernel)
set_option maxRecDepth 20000 in
theorem gX8_cases_X8_nextOf : GoodIn wsX8_cases (wsV RX8 222 RX8 yX8_nextOf wsX8_nextOf) := goodIn_app (goodIn_of _ (by decide +kernel)) ggX8_cases_X8_nextOf
set_option maxRecDepth 20000 in
theorem ggX8_cases_X8_mostCases : GoodIn wsX8_cases wsX8_mostCases := goodIn_r _ [45, 17, 31, 46, 47, 48, 6, 49, 42, 43, 44, 18, 19, 20, 21, 22, 23, 24, 25, 26, 27, 28, 29, 30, 32, 33, 34, 35, 36, 37, 38, 39, 40, 41, 50, 51, 52, 53, 54, 55, 56, 57, 58, 59, 60, 61, 62, 63, 64, 65, 66, 67, 68, 69, 70, 71, 72, 73, 74, 75, 76, 77, 78, 79, 80, 81, 82, 83, 84, 85, 86, 87] (by decide +kernel) (by decide +kernel)
set_option maxRecDepth 20000 in
theorem gX8_cases_X8_mostCases : GoodIn wsX8_cases (wsV RX8 208 RX8 yX8_mostCases wsX8_mostCases) := goodIn_app (goodIn_of _ (by decide +kernel)) ggX8_cases_X8_mostCases
theorem dX8_cases_0 : decode cX8_cases 0 = .ok (.iload_n 2, 1) := by decide +kernel
theorem dX8_cases_1 : decode cX8_cases 1 = .ok (.ifCond .lt 8, 3) := by decide +kernel
theorem dX8_cases_4 : decode cX8_cases 4 = .ok (.iload_n 2, 1) := by decide +kernel
theorem dX8_cases_5 : decode cX8_cases 5 = .ok (.iconst 2, 1) := by decide +kernel
theorem dX8_cases_6 : decode cX8_cases 6 = .ok (.if_icmp .le 10, 3) := by decide +kernel
theorem dX8_cases_9 : decode cX8_cases 9 = .ok (.aload_n 0, 1) := by decide +kernel
theorem dX8_cases_10 : decode cX8_cases 10 = .ok (.bipush (-5), 2) := by decide +kernel
theorem dX8_cases_12 : decode cX8_cases 12 = .ok (.invokevirtual 216, 3) := by decide +kernel
theorem dX8_cases_15 : decode cX8_cases 15 = .ok (.ireturn, 1) := by decide +kernel
theorem dX8_cases_16 : decode cX8_cases 16 = .ok (.aload_n 0, 1) := by decide +kernel
theorem dX8_cases_17 : decode cX8_cases 17 = .ok (.iload_n 1, 1) := by decide +kernel
theorem dX8_cases_18 : decode cX8_cases 18 = .ok (.invokevirtual 219, 3) := by decide +kernel
theorem dX8_cases_21 : decode cX8_cases 21 = .ok (.ifCond .ne 10, 3) := by decide +kernel
theorem dX8_cases_24 : decode cX8_cases 24 = .ok (.aload_n 0, 1) := by decide +kernel
theorem dX8_cases_25 : decode cX8_cases 25 = .ok (.bipush (-6), 2) := by decide +kernel
theorem dX8_cases_27 : decode cX8_cases 27 = .ok (.invokevirtual 216, 3) := by decide +kernel
theorem dX8_cases_30 : decode cX8_cases 30 = .ok (.ireturn, 1) := by decide +kernel
theorem dX8_cases_31 : decode cX8_cases 31 = .ok (.iload_n 2, 1) := by decide +kernel
theorem dX8_cases_32 : decode cX8_cases 32 = .ok (.iconst 1, 1) := by decide +kernel
theorem dX8_cases_33 : decode cX8_cases 33 = .ok (.if_icmp .ne 11, 3) := by decide +kernel
theorem dX8_cases_36 : decode cX8_cases 36 = .ok (.aload_n 0, 1) := by decide +kernel
theorem dX8_cases_37 : decode cX8_cases 37 = .ok (.iload_n 1, 1) := by decide +kernel
theorem dX8_cases_38 : decode cX8_cases 38 = .ok (.invokevirtual 222, 3) := by decide +kernel
theorem dX8_cases_41 : decode cX8_cases 41 = .ok (.goto 26, 3) := by decide +kernel
theorem dX8_cases_44 : decode cX8_cases 44 = .ok (.aload_n 0, 1) := by decide +kernel
theorem dX8_cases_45 : decode cX8_cases 45 = .ok (.iload_n 1, 1) := by decide +kernel
theorem dX8_cases_46 : decode cX8_cases 46 = .ok (.aload_n 0, 1) := by decide +kernel
theorem dX8_cases_47 : decode cX8_cases 47 = .ok (.getfield 115, 3) := by decide +kernel
theorem dX8_cases_50 : decode cX8_cases 50 = .ok (.aload_n 0, 1) := by decide +kernel
theorem dX8_cases_51 : decode cX8_cases 51 = .ok (.getfield 13, 3) := by decide +kernel
theorem dX8_cases_54 : decode cX8_cases 54 = .ok (.iload_n 2, 1) := by decide +kernel
theorem dX8_cases_55 : decode cX8_cases 55 = .ok (.iconst 2, 1) := by decide +kernel
theorem dX8_cases_56 : decode cX8_cases 56 = .ok (.if_icmp .ne 7, 3) := by decide +kernel
theorem dX8_cases_59 : decode cX8_cases 59 = .ok (.iconst 1, 1) := by decide +kernel
theorem dX8_cases_60 : decode cX8_cases 60 = .ok (.goto 4, 3) := by decide +kernel
theorem dX8_cases_63 : decode cX8_cases 63 = .ok (.iconst 0, 1) := by decide +kernel
theorem dX8_cases_64 : decode cX8_cases 64 = .ok (.invokevirtual 208, 3) := by decide +kernel
theorem dX8_cases_67 : decode cX8_cases 67 = .ok (.ireturn, 1) := by decide +kernel
theorem dX8_leastCost_0 : decode cX8_leastCost 0 = .ok (.iload_n 2, 1) := by decide +kernel
theorem dX8_leastCost_1 : decode cX8_leastCost 1 = .ok (.ifCond .ne 5, 3) := by decide +kernel
theorem dX8_leastCost_4 : decode cX8_leastCost 4 = .ok (.iconst 0, 1) := by decide +kernel
theorem dX8_leastCost_5 : decode cX8_leastCost 5 = .ok (.ireturn, 1) := by decide +kernel
theorem dX8_firstOf_0 : decode cX8_firstOf 0 = .ok (.aload_n 0, 1) := by decide +kernel
theorem dX8_firstOf_1 : decode cX8_firstOf 1 = .ok (.getfield 115, 3) := by decide +kernel
theorem dX8_firstOf_4 : decode cX8_firstOf 4 = .ok (.ifCond .ne 5, 3) := by decide +kernel
theorem dX8_firstOf_7 : decode cX8_firstOf 7 = .ok (.iconst (-1), 1) := by decide +kernel
theorem dX8_firstOf_8 : decode cX8_firstOf 8 = .ok (.ireturn, 1) := by decide +kernel
set_option maxRecDepth 20000 in
theorem ggX8_line_X8_noTen : GoodIn wsX8_line wsX8_noTen := goodIn_r _ [7, 8, 51, 52, 53, 54, 55, 56, 57, 58, 59, 60, 61, 62, 63, 64, 65, 66, 67, 68, 69, 70, 71, 72, 73, 74, 75, 76, 77, 78, 79, 80, 81, 82, 83, 84, 85, 86, 87, 88] (by decide +kernel) (by decide +kernel)
set_option maxRecDepth 20000 in
theorem gX8_line_X8_noTen : GoodIn wsX8_line (wsV RX8 216 RX8 yX8_noTen wsX8_noTen) := goodIn_app (goodIn_of _ (by decide +kernel)) ggX8_line_X8_noTen
set_option maxRecDepth 20000 in
theorem ggX8_line_X8_isFew : GoodIn wsX8_line wsX8_isFew := goodIn_r _ [12] (by decide +kernel) (by decide +kernel)
set_option maxRecDepth 20000 in
theorem gX8_line_X8_isFew : GoodIn wsX8_line (wsV RX8 219 RX8 yX8_isFew wsX8_isFew) := goodIn_app (goodIn_of _ (by decide +kernel)) ggX8_line_X8_isFew
set_option maxRecDepth 20000 in
theorem ggX8_line_X8_leastCost : GoodIn wsX8_line wsX8_leastCost := goodIn_r _ [16, 17, 18, 19, 20, 21, 6, 22, 23, 24, 25, 26, 27, 28, 29, 30, 31, 32, 33, 34, 35, 36, 37, 38, 39, 40, 41, 42, 43, 44, 45, 46, 13, 14, 15, 51, 52, 53, 54, 55, 56, 57, 58, 59, 60, 61, 62, 63, 64, 65, 66, 67, 68, 69, 70, 71, 72, 73, 74, 75, 76, 77, 78, 79, 80, 81, 82, 83, 84, 85, 86, 87, 88] (by decide +kernel) (by decide +kernel)
set_option maxRecDepth 20000 in
theorem gX8_line_X8_leastCost : GoodIn wsX8_line (wsV RX8 229 RX8 yX8_leastCost wsX8_leastCost) := goodIn_app (goodIn_of _ (by decide +kernel)) ggX8_line_X8_leastCost
set_option maxRecDepth 20000 in
theorem ggX8_line_X8_firstOf : GoodIn wsX8_line wsX8_firstOf := goodIn_r _ [50, 1, 2, 18, 17, 13, 14, 15, 6, 16, 19, 20, 21, 22, 23, 24, 25, 26, 27, 28, 29, 30, 31, 32, 33, 34, 35, 36, 37, 38, 39, 40, 41, 42, 43, 44, 45, 46, 51, 52, 53, 54, 55, 56, 57, 58, 59, 60, 61, 62, 63, 64, 65, 66, 67, 68, 69, 70, 71, 72, 73, 74, 75, 76, 77, 78, 79, 80, 81, 82, 83, 84, 85, 86, 87, 88] (by decide +kernel) (by decide +kernel)
set_option maxRecDepth 20000 in
theorem gX8_line_X8_firstOf : GoodIn wsX8_line (wsV RX8 232 RX8 yX8_firstOf wsX8_firstOf) := goodIn_app (goodIn_of _ (by decide +kernel)) ggX8_line_X8_firstOf
theorem dX8_line_0 : decode cX8_line 0 = .ok (.iload_n 2, 1) := by decide +kernel
theorem dX8_line_1 : decode cX8_line 1 = .ok (.ifCond .lt 8, 3) := by decide +kernel
theorem dX8_line_4 : decode cX8_line 4 = .ok (.iload_n 2, 1) := by decide +kernel
theorem dX8_line_5 : decode cX8_line 5 = .ok (.iconst 1, 1) := by decide +kernel
theorem dX8_line_6 : decode cX8_line 6 = .ok (.if_icmp .le 10, 3) := by decide +kernel
theorem dX8_line_9 : decode cX8_line 9 = .ok (.aload_n 0, 1) := by decide +kernel
theorem dX8_line_10 : decode cX8_line 10 = .ok (.bipush (-5), 2) := by decide +kernel
theorem dX8_line_12 : decode cX8_line 12 = .ok (.invokevirtual 216, 3) := by decide +kernel
theorem dX8_line_15 : decode cX8_line 15 = .ok (.ireturn, 1) := by decide +kernel
theorem dX8_line_16 : decode cX8_line 16 = .ok (.aload_n 0, 1) := by decide +kernel
theorem dX8_line_17 : decode cX8_line 17 = .ok (.iload_n 1, 1) := by decide +kernel
theorem dX8_line_18 : decode cX8_line 18 = .ok (.invokevirtual 219, 3) := by decide +kernel
theorem dX8_line_21 : decode cX8_line 21 = .ok (.ifCond .ne 10, 3) := by decide +kernel
theorem dX8_line_24 : decode cX8_line 24 = .ok (.aload_n 0, 1) := by decide +kernel
theorem dX8_line_25 : decode cX8_line 25 = .ok (.bipush (-6), 2) := by decide +kernel
theorem dX8_line_27 : decode cX8_line 27 = .ok (.invokevirtual 216, 3) := by decide +kernel
theorem dX8_line_30 : decode cX8_line 30 = .ok (.ireturn, 1) := by decide +kernel
theorem dX8_line_31 : decode cX8_line 31 = .ok (.iload_n 2, 1) := by decide +kernel
theorem dX8_line_32 : decode cX8_line 32 = .ok (.ifCond .ne 19, 3) := by decide +kernel
theorem dX8_line_35 : decode cX8_line 35 = .ok (.aload_n 0, 1) := by decide +kernel
theorem dX8_line_36 : decode cX8_line 36 = .ok (.iload_n 1, 1) := by decide +kernel
theorem dX8_line_37 : decode cX8_line 37 = .ok (.aload_n 0, 1) := by decide +kernel
theorem dX8_line_38 : decode cX8_line 38 = .ok (.getfield 115, 3) := by decide +kernel
theorem dX8_line_41 : decode cX8_line 41 = .ok (.aload_n 0, 1) := by decide +kernel
theorem dX8_line_42 : decode cX8_line 42 = .ok (.getfield 13, 3) := by decide +kernel
theorem dX8_line_45 : decode cX8_line 45 = .ok (.invokevirtual 229, 3) := by decide +kernel
theorem dX8_line_48 : decode cX8_line 48 = .ok (.goto 8, 3) := by decide +kernel
theorem dX8_line_51 : decode cX8_line 51 = .ok (.aload_n 0, 1) := by decide +kernel
theorem dX8_line_52 : decode cX8_line 52 = .ok (.iload_n 1, 1) := by decide +kernel
theorem dX8_line_53 : decode cX8_line 53 = .ok (.invokevirtual 232, 3) := by decide +kernel
theorem dX8_line_56 : decode cX8_line 56 = .ok (.ireturn, 1) := by decide +kernel
set_option maxRecDepth 20000 in
theorem ggX8_casesIn_X8_mostCases : GoodIn wsX8_casesIn wsX8_mostCases := goodIn_r _ [8, 9, 10, 11, 12, 13, 7, 14, 4, 5, 6, 15, 16, 17, 18, 19, 20, 21, 22, 23, 24, 25, 26, 27, 28, 1, 29, 30, 31, 32, 33, 34, 35, 36, 37, 38, 39, 40, 41, 42, 43, 44, 45, 46, 47, 48, 49, 50, 51, 52, 53, 54, 55, 56, 57, 58, 59, 60, 61, 62, 63, 64, 65, 66, 67, 68, 69, 70, 71, 72, 73, 74] (by decide +kernel) (by decide +kernel)
set_option maxRecDepth 20000 in
theorem gX8_casesIn_X8_mostCases : GoodIn wsX8_casesIn (wsV RX8 208 RX8 yX8_mostCases wsX8_mostCases) := goodIn_app (goodIn_of _ (by decide +kernel)) ggX8_casesIn_X8_mostCases
theorem dX8_casesIn_0 : decode cX8_casesIn 0 = .ok (.aload_n 0, 1) := by decide +kernel
theorem dX8_casesIn_1 : decode cX8_casesIn 1 = .ok (.getfield 135, 3) := by decide +kernel
theorem dX8_casesIn_4 : decode cX8_casesIn 4 = .ok (.istore_n 3, 1) := by decide +kernel
theorem dX8_casesIn_5 : decode cX8_casesIn 5 = .ok (.aload_n 0, 1) := by decide +kernel
theorem dX8_casesIn_6 : decode cX8_casesIn 6 = .ok (.iload_n 2, 1) := by decide +kernel
theorem dX8_casesIn_7 : decode cX8_casesIn 7 = .ok (.putfield 135, 3) := by decide +kernel
theorem dX8_casesIn_10 : decode cX8_casesIn 10 = .ok (.aload_n 0, 1) := by decide +kernel
theorem dX8_casesIn_11 : decode cX8_casesIn 11 = .ok (.iload_n 1, 1) := by decide +kernel
theorem dX8_casesIn_12 : decode cX8_casesIn 12 = .ok (.aload_n 0, 1) := by decide +kernel
theorem dX8_casesIn_13 : decode cX8_casesIn 13 = .ok (.getfield 115, 3) := by decide +kernel
theorem dX8_casesIn_16 : decode cX8_casesIn 16 = .ok (.aload_n 0, 1) := by decide +kernel
theorem dX8_casesIn_17 : decode cX8_casesIn 17 = .ok (.getfield 13, 3) := by decide +kernel
theorem dX8_casesIn_20 : decode cX8_casesIn 20 = .ok (.iconst 0, 1) := by decide +kernel
theorem dX8_casesIn_21 : decode cX8_casesIn 21 = .ok (.invokevirtual 208, 3) := by decide +kernel
theorem dX8_casesIn_24 : decode cX8_casesIn 24 = .ok (.istore 4, 2) := by decide +kernel
theorem dX8_casesIn_26 : decode cX8_casesIn 26 = .ok (.aload_n 0, 1) := by decide +kernel
theorem dX8_casesIn_27 : decode cX8_casesIn 27 = .ok (.iload_n 3, 1) := by decide +kernel
theorem dX8_casesIn_28 : decode cX8_casesIn 28 = .ok (.putfield 135, 3) := by decide +kernel
theorem dX8_casesIn_31 : decode cX8_casesIn 31 = .ok (.iload 4, 2) := by decide +kernel
theorem dX8_casesIn_33 : decode cX8_casesIn 33 = .ok (.ireturn, 1) := by decide +kernel
set_option maxRecDepth 20000 in
theorem ggX8_haste_X8_no : GoodIn wsX8_haste wsX8_no := goodIn_r _ [5, 6, 50, 51, 52, 53, 54, 55, 56, 57, 58, 59, 60, 61, 62, 63, 64, 65, 66, 67, 68, 69, 70, 71, 72, 73, 74, 75, 76, 77, 78, 79, 80, 81, 82, 83, 84, 85, 86, 87] (by decide +kernel) (by decide +kernel)
set_option maxRecDepth 20000 in
theorem gX8_haste_X8_no : GoodIn wsX8_haste (wsV RX8 97 RX8 yX8_no wsX8_no) := goodIn_app (goodIn_of _ (by decide +kernel)) ggX8_haste_X8_no
set_option maxRecDepth 20000 in
theorem ggX8_haste_X8_isFew : GoodIn wsX8_haste wsX8_isFew := goodIn_r _ [10] (by decide +kernel) (by decide +kernel)
set_option maxRecDepth 20000 in
theorem gX8_haste_X8_isFew : GoodIn wsX8_haste (wsV RX8 219 RX8 yX8_isFew wsX8_isFew) := goodIn_app (goodIn_of _ (by decide +kernel)) ggX8_haste_X8_isFew
set_option maxRecDepth 20000 in
theorem ggX8_haste_X8_casesIn : GoodIn wsX8_haste wsX8_casesIn := goodIn_r _ [14, 15, 16, 17, 18, 19, 20, 4, 21, 22, 23, 24, 25, 26, 27, 28, 29, 30, 31, 32, 33, 34, 35, 36, 37, 38, 39, 40, 41, 42, 43, 44, 45, 46, 47, 48, 49, 50, 51, 52, 53, 54, 55, 56, 57, 58, 59, 60, 61, 62, 63, 64, 65, 66, 67, 68, 69, 70, 71, 72, 73, 74, 75, 76, 77, 78, 79, 80, 81, 82, 83, 84, 85, 86, 87] (by decide +kernel) (by decide +kernel)
set_option maxRecDepth 20000 in
theorem gX8_haste_X8_casesIn : GoodIn wsX8_haste (wsV RX8 235 RX8 yX8_casesIn wsX8_casesIn) := goodIn_app (goodIn_of _ (by decide +kernel)) ggX8_haste_X8_casesIn
theorem dX8_haste_0 : decode cX8_haste 0 = .ok (.iload_n 2, 1) := by decide +kernel
theorem dX8_haste_1 : decode cX8_haste 1 = .ok (.ifCond .lt 8, 3) := by decide +kernel
theorem dX8_haste_4 : decode cX8_haste 4 = .ok (.iload_n 2, 1) := by decide +kernel
theorem dX8_haste_5 : decode cX8_haste 5 = .ok (.iconst 1, 1) := by decide +kernel
theorem dX8_haste_6 : decode cX8_haste 6 = .ok (.if_icmp .le 10, 3) := by decide +kernel
theorem dX8_haste_9 : decode cX8_haste 9 = .ok (.aload_n 0, 1) := by decide +kernel
theorem dX8_haste_10 : decode cX8_haste 10 = .ok (.bipush (-5), 2) := by decide +kernel
theorem dX8_haste_12 : decode cX8_haste 12 = .ok (.invokevirtual 97, 3) := by decide +kernel
theorem dX8_haste_15 : decode cX8_haste 15 = .ok (.ireturn, 1) := by decide +kernel
theorem dX8_haste_16 : decode cX8_haste 16 = .ok (.aload_n 0, 1) := by decide +kernel
theorem dX8_haste_17 : decode cX8_haste 17 = .ok (.iload_n 1, 1) := by decide +kernel
theorem dX8_haste_18 : decode cX8_haste 18 = .ok (.invokevirtual 219, 3) := by decide +kernel
theorem dX8_haste_21 : decode cX8_haste 21 = .ok (.ifCond .ne 10, 3) := by decide +kernel
theorem dX8_haste_24 : decode cX8_haste 24 = .ok (.aload_n 0, 1) := by decide +kernel
theorem dX8_haste_25 : decode cX8_haste 25 = .ok (.bipush (-6), 2) := by decide +kernel
theorem dX8_haste_27 : decode cX8_haste 27 = .ok (.invokevirtual 97, 3) := by decide +kernel
theorem dX8_haste_30 : decode cX8_haste 30 = .ok (.ireturn, 1) := by decide +kernel
theorem dX8_haste_31 : decode cX8_haste 31 = .ok (.iload_n 2, 1) := by decide +kernel
theorem dX8_haste_32 : decode cX8_haste 32 = .ok (.iconst 1, 1) := by decide +kernel
theorem dX8_haste_33 : decode cX8_haste 33 = .ok (.if_icmp .ne 25, 3) := by decide +kernel
theorem dX8_haste_36 : decode cX8_haste 36 = .ok (.aload_n 0, 1) := by decide +kernel
theorem dX8_haste_37 : decode cX8_haste 37 = .ok (.iload_n 1, 1) := by decide +kernel
theorem dX8_haste_38 : decode cX8_haste 38 = .ok (.bipush 9, 2) := by decide +kernel
theorem dX8_haste_40 : decode cX8_haste 40 = .ok (.invokevirtual 235, 3) := by decide +kernel
theorem dX8_haste_43 : decode cX8_haste 43 = .ok (.aload_n 0, 1) := by decide +kernel
theorem dX8_haste_44 : decode cX8_haste 44 = .ok (.iload_n 1, 1) := by decide +kernel
theorem dX8_haste_45 : decode cX8_haste 45 = .ok (.iconst 0, 1) := by decide +kernel
theorem dX8_haste_46 : decode cX8_haste 46 = .ok (.invokevirtual 235, 3) := by decide +kernel
theorem dX8_haste_49 : decode cX8_haste 49 = .ok (.if_icmp .ge 7, 3) := by decide +kernel
theorem dX8_haste_56 : decode cX8_haste 56 = .ok (.iconst 0, 1) := by decide +kernel
theorem dX8_haste_57 : decode cX8_haste 57 = .ok (.ireturn, 1) := by decide +kernel
theorem dX8_haste_58 : decode cX8_haste 58 = .ok (.iconst 0, 1) := by decide +kernel
theorem dX8_haste_59 : decode cX8_haste 59 = .ok (.istore_n 3, 1) := by decide +kernel
theorem dX8_haste_60 : decode cX8_haste 60 = .ok (.iconst (-1), 1) := by decide +kernel
theorem dX8_haste_61 : decode cX8_haste 61 = .ok (.istore 4, 2) := by decide +kernel
theorem dX8_haste_63 : decode cX8_haste 63 = .ok (.iconst 0, 1) := by decide +kernel
theorem dX8_haste_64 : decode cX8_haste 64 = .ok (.istore 5, 2) := by decide +kernel
theorem dX8_haste_66 : decode cX8_haste 66 = .ok (.iload 5, 2) := by decide +kernel
theorem dX8_haste_68 : decode cX8_haste 68 = .ok (.bipush 10, 2) := by decide +kernel
theorem dX8_haste_70 : decode cX8_haste 70 = .ok (.if_icmp .ge 35, 3) := by decide +kernel
theorem dX8_haste_73 : decode cX8_haste 73 = .ok (.aload_n 0, 1) := by decide +kernel
theorem dX8_haste_74 : decode cX8_haste 74 = .ok (.iload_n 1, 1) := by decide +kernel
theorem dX8_haste_75 : decode cX8_haste 75 = .ok (.iload 5, 2) := by decide +kernel
theorem dX8_haste_77 : decode cX8_haste 77 = .ok (.invokevirtual 235, 3) := by decide +kernel
theorem dX8_haste_80 : decode cX8_haste 80 = .ok (.istore 6, 2) := by decide +kernel
theorem dX8_haste_82 : decode cX8_haste 82 = .ok (.iload 6, 2) := by decide +kernel
theorem dX8_haste_84 : decode cX8_haste 84 = .ok (.iload 4, 2) := by decide +kernel
theorem dX8_haste_86 : decode cX8_haste 86 = .ok (.if_icmp .gt 6, 3) := by decide +kernel
theorem dX8_haste_89 : decode cX8_haste 89 = .ok (.goto 10, 3) := by decide +kernel
theorem dX8_haste_92 : decode cX8_haste 92 = .ok (.iload 5, 2) := by decide +kernel
theorem dX8_haste_94 : decode cX8_haste 94 = .ok (.istore_n 3, 1) := by decide +kernel
theorem dX8_haste_95 : decode cX8_haste 95 = .ok (.iload 6, 2) := by decide +kernel
theorem dX8_haste_97 : decode cX8_haste 97 = .ok (.istore 4, 2) := by decide +kernel
theorem dX8_haste_99 : decode cX8_haste 99 = .ok (.iinc 5 1, 3) := by decide +kernel
theorem dX8_haste_102 : decode cX8_haste 102 = .ok (.goto (-36), 3) := by decide +kernel
theorem dX8_haste_105 : decode cX8_haste 105 = .ok (.iload_n 3, 1) := by decide +kernel
theorem dX8_haste_106 : decode cX8_haste 106 = .ok (.ireturn, 1) := by decide +kernel
set_option maxRecDepth 20000 in
theorem ggX8_barsOf_X8_wanted : GoodIn wsX8_barsOf wsX8_wanted := goodIn_r _ [6, 7, 8, 9, 10, 5, 11, 17, 18, 19, 20, 21, 22, 23, 24, 25, 26, 27, 28, 29, 30, 31, 32, 33, 34, 35, 36, 37, 38, 39, 40, 41, 42, 43, 44, 45, 46, 47, 48, 49, 50, 51, 52, 53, 54] (by decide +kernel) (by decide +kernel)
set_option maxRecDepth 20000 in
theorem gX8_barsOf_X8_wanted : GoodIn wsX8_barsOf (wsV RX8 191 RX8 yX8_wanted wsX8_wanted) := goodIn_app (goodIn_of _ (by decide +kernel)) ggX8_barsOf_X8_wanted
theorem dX8_barsOf_0 : decode cX8_barsOf 0 = .ok (.aload_n 0, 1) := by decide +kernel
theorem dX8_barsOf_1 : decode cX8_barsOf 1 = .ok (.iload_n 1, 1) := by decide +kernel
theorem dX8_barsOf_2 : decode cX8_barsOf 2 = .ok (.invokevirtual 191, 3) := by decide +kernel
theorem dX8_barsOf_5 : decode cX8_barsOf 5 = .ok (.istore_n 2, 1) := by decide +kernel
theorem dX8_barsOf_6 : decode cX8_barsOf 6 = .ok (.iload_n 2, 1) := by decide +kernel
theorem dX8_barsOf_7 : decode cX8_barsOf 7 = .ok (.ifCond .eq 5, 3) := by decide +kernel
theorem dX8_barsOf_10 : decode cX8_barsOf 10 = .ok (.iload_n 2, 1) := by decide +kernel
theorem dX8_barsOf_11 : decode cX8_barsOf 11 = .ok (.ireturn, 1) := by decide +kernel
set_option maxRecDepth 20000 in
theorem ggX8_freed_X8_isShelf : GoodIn wsX8_freed wsX8_isShelf := goodIn_r _ [5] (by decide +kernel) (by decide +kernel)
set_option maxRecDepth 20000 in
theorem gX8_freed_X8_isShelf : GoodIn wsX8_freed (wsV RX8 93 RX8 yX8_isShelf wsX8_isShelf) := goodIn_app (goodIn_of _ (by decide +kernel)) ggX8_freed_X8_isShelf
set_option maxRecDepth 20000 in
theorem ggX8_freed_X8_isPull : GoodIn wsX8_freed wsX8_isPull := goodIn_r _ [9, 10, 42, 43, 44, 45, 46, 47, 48, 49, 50, 51, 52, 53, 54, 55, 56, 57, 58, 59, 60, 61, 62, 63, 64, 65, 66, 67, 68, 69, 70, 71, 72, 73, 74, 75, 76, 77, 78, 79] (by decide +kernel) (by decide +kernel)
set_option maxRecDepth 20000 in
theorem gX8_freed_X8_isPull : GoodIn wsX8_freed (wsV RX8 101 RX8 yX8_isPull wsX8_isPull) := goodIn_app (goodIn_of _ (by decide +kernel)) ggX8_freed_X8_isPull
set_option maxRecDepth 20000 in
theorem ggX8_freed_X8_barsOf : GoodIn wsX8_freed wsX8_barsOf := goodIn_r _ [14, 15, 16, 17, 18, 4, 19, 20, 1, 2, 3, 5, 21, 22, 23, 24, 25, 42, 43, 44, 45, 46, 47, 48, 49, 50, 51, 52, 53, 54, 55, 56, 57, 58, 59, 60, 61, 62, 63, 64, 65, 66, 67, 68, 69, 70, 71, 72, 73, 74, 75, 76, 77, 78, 79] (by decide +kernel) (by decide +kernel)
set_option maxRecDepth 20000 in
theorem gX8_freed_X8_barsOf : GoodIn wsX8_freed (wsV RX8 241 RX8 yX8_barsOf wsX8_barsOf) := goodIn_app (goodIn_of _ (by decide +kernel)) ggX8_freed_X8_barsOf
set_option maxRecDepth 20000 in
theorem ggX8_freed_X8_no : GoodIn wsX8_freed wsX8_no := goodIn_r _ [29, 30, 42, 43, 44, 45, 46, 47, 48, 49, 50, 51, 52, 53, 54, 55, 56, 57, 58, 59, 60, 61, 62, 63, 64, 65, 66, 67, 68, 69, 70, 71, 72, 73, 74, 75, 76, 77, 78, 79] (by decide +kernel) (by decide +kernel)
set_option maxRecDepth 20000 in
theorem gX8_freed_X8_no : GoodIn wsX8_freed (wsV RX8 97 RX8 yX8_no wsX8_no) := goodIn_app (goodIn_of _ (by decide +kernel)) ggX8_freed_X8_no
theorem dX8_freed_0 : decode cX8_freed 0 = .ok (.aload_n 0, 1) := by decide +kernel
theorem dX8_freed_1 : decode cX8_freed 1 = .ok (.iload_n 1, 1) := by decide +kernel
theorem dX8_freed_2 : decode cX8_freed 2 = .ok (.invokevirtual 93, 3) := by decide +kernel
theorem dX8_freed_5 : decode cX8_freed 5 = .ok (.ifCond .eq 15, 3) := by decide +kernel
theorem dX8_freed_8 : decode cX8_freed 8 = .ok (.aload_n 0, 1) := by decide +kernel
theorem dX8_freed_9 : decode cX8_freed 9 = .ok (.iload_n 2, 1) := by decide +kernel
theorem dX8_freed_10 : decode cX8_freed 10 = .ok (.invokevirtual 101, 3) := by decide +kernel
theorem dX8_freed_13 : decode cX8_freed 13 = .ok (.ifCond .ne 7, 3) := by decide +kernel
theorem dX8_freed_16 : decode cX8_freed 16 = .ok (.iconst (-1), 1) := by decide +kernel
theorem dX8_freed_17 : decode cX8_freed 17 = .ok (.goto 8, 3) := by decide +kernel
theorem dX8_freed_20 : decode cX8_freed 20 = .ok (.aload_n 0, 1) := by decide +kernel
theorem dX8_freed_21 : decode cX8_freed 21 = .ok (.iload_n 1, 1) := by decide +kernel
theorem dX8_freed_22 : decode cX8_freed 22 = .ok (.invokevirtual 241, 3) := by decide +kernel
theorem dX8_freed_25 : decode cX8_freed 25 = .ok (.istore_n 3, 1) := by decide +kernel
theorem dX8_freed_26 : decode cX8_freed 26 = .ok (.iload_n 3, 1) := by decide +kernel
theorem dX8_freed_27 : decode cX8_freed 27 = .ok (.ifCond .eq 11, 3) := by decide +kernel
theorem dX8_freed_30 : decode cX8_freed 30 = .ok (.aload_n 0, 1) := by decide +kernel
theorem dX8_freed_31 : decode cX8_freed 31 = .ok (.iload_n 3, 1) := by decide +kernel
theorem dX8_freed_32 : decode cX8_freed 32 = .ok (.invokevirtual 97, 3) := by decide +kernel
theorem dX8_freed_35 : decode cX8_freed 35 = .ok (.goto 9, 3) := by decide +kernel
theorem dX8_freed_44 : decode cX8_freed 44 = .ok (.ireturn, 1) := by decide +kernel
set_option maxRecDepth 20000 in
theorem ggX8_best_X8_barsOf : GoodIn wsX8_best wsX8_barsOf := goodIn_r _ [6, 7, 8, 9, 10, 5, 11, 12, 13, 14, 15, 16, 17, 18, 19, 20, 21, 38, 39, 40, 41, 42, 43, 44, 45, 46, 47, 48, 49, 50, 51, 52, 53, 54, 55, 56, 57, 58, 59, 60, 61, 62, 63, 64, 65, 66, 67, 68, 69, 70, 71, 72, 73, 74, 75] (by decide +kernel) (by decide +kernel)
set_option maxRecDepth 20000 in
theorem gX8_best_X8_barsOf : GoodIn wsX8_best (wsV RX8 241 RX8 yX8_barsOf wsX8_barsOf) := goodIn_app (goodIn_of _ (by decide +kernel)) ggX8_best_X8_barsOf
set_option maxRecDepth 20000 in
theorem ggX8_best_X8_noTen : GoodIn wsX8_best wsX8_noTen := goodIn_r _ [25, 26, 38, 39, 40, 41, 42, 43, 44, 45, 46, 47, 48, 49, 50, 51, 52, 53, 54, 55, 56, 57, 58, 59, 60, 61, 62, 63, 64, 65, 66, 67, 68, 69, 70, 71, 72, 73, 74, 75] (by decide +kernel) (by decide +kernel)
set_option maxRecDepth 20000 in
theorem gX8_best_X8_noTen : GoodIn wsX8_best (wsV RX8 216 RX8 yX8_noTen wsX8_noTen) := goodIn_app (goodIn_of _ (by decide +kernel)) ggX8_best_X8_noTen
theorem dX8_best_0 : decode cX8_best 0 = .ok (.aload_n 0, 1) := by decide +kernel
theorem dX8_best_1 : decode cX8_best 1 = .ok (.iload_n 1, 1) := by decide +kernel
theorem dX8_best_2 : decode cX8_best 2 = .ok (.invokevirtual 241, 3) := by decide +kernel
theorem dX8_best_5 : decode cX8_best 5 = .ok (.istore_n 2, 1) := by decide +kernel
theorem dX8_best_6 : decode cX8_best 6 = .ok (.iload_n 2, 1) := by decide +kernel
theorem dX8_best_7 : decode cX8_best 7 = .ok (.ifCond .eq 9, 3) := by decide +kernel
theorem dX8_best_10 : decode cX8_best 10 = .ok (.aload_n 0, 1) := by decide +kernel
theorem dX8_best_11 : decode cX8_best 11 = .ok (.iload_n 2, 1) := by decide +kernel
theorem dX8_best_12 : decode cX8_best 12 = .ok (.invokevirtual 216, 3) := by decide +kernel
theorem dX8_best_15 : decode cX8_best 15 = .ok (.ireturn, 1) := by decide +kernel
set_option maxRecDepth 20000 in
theorem ggX8_behind_X8_isShelf : GoodIn wsX8_behind wsX8_isShelf := goodIn_r _ [5] (by decide +kernel) (by decide +kernel)
set_option maxRecDepth 20000 in
theorem gX8_behind_X8_isShelf : GoodIn wsX8_behind (wsV RX8 93 RX8 yX8_isShelf wsX8_isShelf) := goodIn_app (goodIn_of _ (by decide +kernel)) ggX8_behind_X8_isShelf
set_option maxRecDepth 20000 in
theorem ggX8_behind_X8_isPull : GoodIn wsX8_behind wsX8_isPull := goodIn_r _ [9, 10, 46, 47, 48, 49, 50, 51, 52, 53, 54, 55, 56, 57, 58, 59, 60, 61, 62, 63, 64, 65, 66, 67, 68, 69, 70, 71, 72, 73, 74, 75, 76, 77, 78, 79, 80, 81, 82, 83] (by decide +kernel) (by decide +kernel)
set_option maxRecDepth 20000 in
theorem gX8_behind_X8_isPull : GoodIn wsX8_behind (wsV RX8 101 RX8 yX8_isPull wsX8_isPull) := goodIn_app (goodIn_of _ (by decide +kernel)) ggX8_behind_X8_isPull
set_option maxRecDepth 20000 in
theorem ggX8_behind_X8_barsOf : GoodIn wsX8_behind wsX8_barsOf := goodIn_r _ [14, 15, 16, 17, 18, 4, 19, 20, 1, 2, 3, 5, 21, 22, 23, 24, 25, 46, 47, 48, 49, 50, 51, 52, 53, 54, 55, 56, 57, 58, 59, 60, 61, 62, 63, 64, 65, 66, 67, 68, 69, 70, 71, 72, 73, 74, 75, 76, 77, 78, 79, 80, 81, 82, 83] (by decide +kernel) (by decide +kernel)
set_option maxRecDepth 20000 in
theorem gX8_behind_X8_barsOf : GoodIn wsX8_behind (wsV RX8 241 RX8 yX8_barsOf wsX8_barsOf) := goodIn_app (goodIn_of _ (by decide +kernel)) ggX8_behind_X8_barsOf
set_option maxRecDepth 20000 in
theorem ggX8_behind_X8_no : GoodIn wsX8_behind wsX8_no := goodIn_r _ [29, 30, 46, 47, 48, 49, 50, 51, 52, 53, 54, 55, 56, 57, 58, 59, 60, 61, 62, 63, 64, 65, 66, 67, 68, 69, 70, 71, 72, 73, 74, 75, 76, 77, 78, 79, 80, 81, 82, 83] (by decide +kernel) (by decide +kernel)
set_option maxRecDepth 20000 in
theorem gX8_behind_X8_no : GoodIn wsX8_behind (wsV RX8 97 RX8 yX8_no wsX8_no) := goodIn_app (goodIn_of _ (by decide +kernel)) ggX8_behind_X8_no
theorem dX8_behind_0 : decode cX8_behind 0 = .ok (.aload_n 0, 1) := by decide +kernel
theorem dX8_behind_1 : decode cX8_behind 1 = .ok (.iload_n 1, 1) := by decide +kernel
theorem dX8_behind_2 : decode cX8_behind 2 = .ok (.invokevirtual 93, 3) := by decide +kernel
theorem dX8_behind_5 : decode cX8_behind 5 = .ok (.ifCond .eq 15, 3) := by decide +kernel
theorem dX8_behind_8 : decode cX8_behind 8 = .ok (.aload_n 0, 1) := by decide +kernel
theorem dX8_behind_9 : decode cX8_behind 9 = .ok (.iload_n 2, 1) := by decide +kernel
theorem dX8_behind_10 : decode cX8_behind 10 = .ok (.invokevirtual 101, 3) := by decide +kernel
theorem dX8_behind_13 : decode cX8_behind 13 = .ok (.ifCond .ne 7, 3) := by decide +kernel
theorem dX8_behind_16 : decode cX8_behind 16 = .ok (.iconst (-1), 1) := by decide +kernel
theorem dX8_behind_17 : decode cX8_behind 17 = .ok (.goto 8, 3) := by decide +kernel
theorem dX8_behind_20 : decode cX8_behind 20 = .ok (.aload_n 0, 1) := by decide +kernel
theorem dX8_behind_21 : decode cX8_behind 21 = .ok (.iload_n 1, 1) := by decide +kernel
theorem dX8_behind_22 : decode cX8_behind 22 = .ok (.invokevirtual 241, 3) := by decide +kernel
theorem dX8_behind_25 : decode cX8_behind 25 = .ok (.istore 4, 2) := by decide +kernel
theorem dX8_behind_27 : decode cX8_behind 27 = .ok (.iload 4, 2) := by decide +kernel
theorem dX8_behind_29 : decode cX8_behind 29 = .ok (.ifCond .ne 17, 3) := by decide +kernel
theorem dX8_behind_46 : decode cX8_behind 46 = .ok (.iload 4, 2) := by decide +kernel
theorem dX8_behind_48 : decode cX8_behind 48 = .ok (.ifCond .eq 10, 3) := by decide +kernel
theorem dX8_behind_51 : decode cX8_behind 51 = .ok (.aload_n 0, 1) := by decide +kernel
theorem dX8_behind_52 : decode cX8_behind 52 = .ok (.iload 4, 2) := by decide +kernel
theorem dX8_behind_54 : decode cX8_behind 54 = .ok (.invokevirtual 97, 3) := by decide +kernel
theorem dX8_behind_57 : decode cX8_behind 57 = .ok (.ireturn, 1) := by decide +kernel
theorem dX8_isOpen_0 : decode cX8_isOpen 0 = .ok (.iload_n 1, 1) := by decide +kernel
theorem dX8_isOpen_1 : decode cX8_isOpen 1 = .ok (.iconst 2, 1) := by decide +kernel
theorem dX8_isOpen_2 : decode cX8_isOpen 2 = .ok (.iadd, 1) := by decide +kernel
theorem dX8_isOpen_3 : decode cX8_isOpen 3 = .ok (.aload_n 0, 1) := by decide +kernel
theorem dX8_isOpen_4 : decode cX8_isOpen 4 = .ok (.getfield 7, 3) := by decide +kernel
theorem dX8_isOpen_7 : decode cX8_isOpen 7 = .ok (.if_icmp .ge 41, 3) := by decide +kernel
theorem dX8_isOpen_10 : decode cX8_isOpen 10 = .ok (.aload_n 0, 1) := by decide +kernel
theorem dX8_isOpen_11 : decode cX8_isOpen 11 = .ok (.getfield 38, 3) := by decide +kernel
theorem dX8_isOpen_14 : decode cX8_isOpen 14 = .ok (.iload_n 1, 1) := by decide +kernel
theorem dX8_isOpen_15 : decode cX8_isOpen 15 = .ok (.iaload, 1) := by decide +kernel
theorem dX8_isOpen_16 : decode cX8_isOpen 16 = .ok (.iconst 1, 1) := by decide +kernel
theorem dX8_isOpen_17 : decode cX8_isOpen 17 = .ok (.if_icmp .ne 31, 3) := by decide +kernel
theorem dX8_isOpen_48 : decode cX8_isOpen 48 = .ok (.iconst 0, 1) := by decide +kernel
theorem dX8_isOpen_49 : decode cX8_isOpen 49 = .ok (.ireturn, 1) := by decide +kernel
set_option maxRecDepth 20000 in
theorem ggX8_doesHold_X8_isOpen : GoodIn wsX8_doesHold wsX8_isOpen := goodIn_r _ [6, 1, 7, 8, 9, 10, 11, 12, 13, 14, 15, 16, 17, 18, 19, 20, 21, 22, 23, 24, 25, 26, 27, 28, 29, 30, 31, 32, 33, 34, 35, 36, 37, 38, 39, 40, 41, 42, 43, 44, 45] (by decide +kernel) (by decide +kernel)
set_option maxRecDepth 20000 in
theorem gX8_doesHold_X8_isOpen : GoodIn wsX8_doesHold (wsV RX8 247 RX8 yX8_isOpen wsX8_isOpen) := goodIn_app (goodIn_of _ (by decide +kernel)) ggX8_doesHold_X8_isOpen
theorem dX8_doesHold_0 : decode cX8_doesHold 0 = .ok (.iconst 0, 1) := by decide +kernel
theorem dX8_doesHold_1 : decode cX8_doesHold 1 = .ok (.istore_n 1, 1) := by decide +kernel
theorem dX8_doesHold_2 : decode cX8_doesHold 2 = .ok (.iload_n 1, 1) := by decide +kernel
theorem dX8_doesHold_3 : decode cX8_doesHold 3 = .ok (.aload_n 0, 1) := by decide +kernel
theorem dX8_doesHold_4 : decode cX8_doesHold 4 = .ok (.getfield 7, 3) := by decide +kernel
theorem dX8_doesHold_7 : decode cX8_doesHold 7 = .ok (.if_icmp .ge 19, 3) := by decide +kernel
theorem dX8_doesHold_10 : decode cX8_doesHold 10 = .ok (.aload_n 0, 1) := by decide +kernel
theorem dX8_doesHold_11 : decode cX8_doesHold 11 = .ok (.iload_n 1, 1) := by decide +kernel
theorem dX8_doesHold_12 : decode cX8_doesHold 12 = .ok (.invokevirtual 247, 3) := by decide +kernel
theorem dX8_doesHold_15 : decode cX8_doesHold 15 = .ok (.ifCond .eq 5, 3) := by decide +kernel
theorem dX8_doesHold_20 : decode cX8_doesHold 20 = .ok (.iinc 1 1, 3) := by decide +kernel
theorem dX8_doesHold_23 : decode cX8_doesHold 23 = .ok (.goto (-21), 3) := by decide +kernel
theorem dX8_doesHold_26 : decode cX8_doesHold 26 = .ok (.iconst 1, 1) := by decide +kernel
theorem dX8_doesHold_27 : decode cX8_doesHold 27 = .ok (.ireturn, 1) := by decide +kernel
theorem dX8_lacking_0 : decode cX8_lacking 0 = .ok (.iconst 0, 1) := by decide +kernel
theorem dX8_lacking_1 : decode cX8_lacking 1 = .ok (.istore_n 1, 1) := by decide +kernel
theorem dX8_lacking_2 : decode cX8_lacking 2 = .ok (.iconst 0, 1) := by decide +kernel
theorem dX8_lacking_3 : decode cX8_lacking 3 = .ok (.istore_n 2, 1) := by decide +kernel
theorem dX8_lacking_4 : decode cX8_lacking 4 = .ok (.iload_n 2, 1) := by decide +kernel
theorem dX8_lacking_5 : decode cX8_lacking 5 = .ok (.aload_n 0, 1) := by decide +kernel
theorem dX8_lacking_6 : decode cX8_lacking 6 = .ok (.getfield 7, 3) := by decide +kernel
theorem dX8_lacking_9 : decode cX8_lacking 9 = .ok (.if_icmp .ge 18, 3) := by decide +kernel
theorem dX8_lacking_12 : decode cX8_lacking 12 = .ok (.iload_n 1, 1) := by decide +kernel
theorem dX8_lacking_13 : decode cX8_lacking 13 = .ok (.aload_n 0, 1) := by decide +kernel
theorem dX8_lacking_14 : decode cX8_lacking 14 = .ok (.getfield 38, 3) := by decide +kernel
theorem dX8_lacking_17 : decode cX8_lacking 17 = .ok (.iload_n 2, 1) := by decide +kernel
theorem dX8_lacking_18 : decode cX8_lacking 18 = .ok (.iaload, 1) := by decide +kernel
theorem dX8_lacking_19 : decode cX8_lacking 19 = .ok (.iadd, 1) := by decide +kernel
theorem dX8_lacking_20 : decode cX8_lacking 20 = .ok (.istore_n 1, 1) := by decide +kernel
theorem dX8_lacking_21 : decode cX8_lacking 21 = .ok (.iinc 2 1, 3) := by decide +kernel
theorem dX8_lacking_24 : decode cX8_lacking 24 = .ok (.goto (-20), 3) := by decide +kernel
theorem dX8_lacking_27 : decode cX8_lacking 27 = .ok (.iload_n 1, 1) := by decide +kernel
theorem dX8_lacking_28 : decode cX8_lacking 28 = .ok (.ireturn, 1) := by decide +kernel
theorem dX8_doesCatch_0 : decode cX8_doesCatch 0 = .ok (.aload_n 0, 1) := by decide +kernel
theorem dX8_doesCatch_1 : decode cX8_doesCatch 1 = .ok (.getfield 38, 3) := by decide +kernel
theorem dX8_doesCatch_4 : decode cX8_doesCatch 4 = .ok (.iload_n 1, 1) := by decide +kernel
theorem dX8_doesCatch_5 : decode cX8_doesCatch 5 = .ok (.iaload, 1) := by decide +kernel
theorem dX8_doesCatch_6 : decode cX8_doesCatch 6 = .ok (.ifCond .ne 20, 3) := by decide +kernel
theorem dX8_doesCatch_9 : decode cX8_doesCatch 9 = .ok (.aload_n 0, 1) := by decide +kernel
theorem dX8_doesCatch_10 : decode cX8_doesCatch 10 = .ok (.getfield 41, 3) := by decide +kernel
theorem dX8_doesCatch_13 : decode cX8_doesCatch 13 = .ok (.iload_n 1, 1) := by decide +kernel
theorem dX8_doesCatch_14 : decode cX8_doesCatch 14 = .ok (.iaload, 1) := by decide +kernel
theorem dX8_doesCatch_15 : decode cX8_doesCatch 15 = .ok (.aload_n 0, 1) := by decide +kernel
theorem dX8_doesCatch_16 : decode cX8_doesCatch 16 = .ok (.getfield 16, 3) := by decide +kernel
theorem dX8_doesCatch_19 : decode cX8_doesCatch 19 = .ok (.if_icmp .lt 7, 3) := by decide +kernel
theorem dX8_doesCatch_26 : decode cX8_doesCatch 26 = .ok (.iconst 0, 1) := by decide +kernel
theorem dX8_doesCatch_27 : decode cX8_doesCatch 27 = .ok (.ireturn, 1) := by decide +kernel
set_option maxRecDepth 20000 in
theorem ggX8_catches_X8_no : GoodIn wsX8_catches wsX8_no := goodIn_r _ [6, 7, 15, 16, 17, 18, 19, 20, 21, 22, 23, 24, 25, 26, 27, 28, 29, 30, 31, 32, 33, 34, 35, 36, 37, 38, 39, 40, 41, 42, 43, 44, 45, 46, 47, 48, 49, 50, 51, 52] (by decide +kernel) (by decide +kernel)
set_option maxRecDepth 20000 in
theorem gX8_catches_X8_no : GoodIn wsX8_catches (wsV RX8 97 RX8 yX8_no wsX8_no) := goodIn_app (goodIn_of _ (by decide +kernel)) ggX8_catches_X8_no
set_option maxRecDepth 20000 in
theorem ggX8_catches_X8_doesCatch : GoodIn wsX8_catches wsX8_doesCatch := goodIn_r _ [11, 12, 13, 14, 15, 16, 17, 18, 19, 20, 21, 22, 23, 24, 25, 26, 27, 28, 29, 30, 31, 32, 33, 34, 35, 36, 37, 38, 39, 40, 41, 42, 43, 44, 45, 46, 47, 48, 49, 50, 51, 52] (by decide +kernel) (by decide +kernel)
set_option maxRecDepth 20000 in
theorem gX8_catches_X8_doesCatch : GoodIn wsX8_catches (wsV RX8 265 RX8 yX8_doesCatch wsX8_doesCatch) := goodIn_app (goodIn_of _ (by decide +kernel)) ggX8_catches_X8_doesCatch
theorem dX8_catches_0 : decode cX8_catches 0 = .ok (.iload_n 1, 1) := by decide +kernel
theorem dX8_catches_1 : decode cX8_catches 1 = .ok (.iconst (-1), 1) := by decide +kernel
theorem dX8_catches_2 : decode cX8_catches 2 = .ok (.if_icmp .ge 10, 3) := by decide +kernel
theorem dX8_catches_5 : decode cX8_catches 5 = .ok (.aload_n 0, 1) := by decide +kernel
theorem dX8_catches_6 : decode cX8_catches 6 = .ok (.bipush (-5), 2) := by decide +kernel
theorem dX8_catches_8 : decode cX8_catches 8 = .ok (.invokevirtual 97, 3) := by decide +kernel
theorem dX8_catches_11 : decode cX8_catches 11 = .ok (.ireturn, 1) := by decide +kernel
theorem dX8_catches_12 : decode cX8_catches 12 = .ok (.iconst 0, 1) := by decide +kernel
theorem dX8_catches_13 : decode cX8_catches 13 = .ok (.istore_n 2, 1) := by decide +kernel
theorem dX8_catches_14 : decode cX8_catches 14 = .ok (.iconst 0, 1) := by decide +kernel
theorem dX8_catches_15 : decode cX8_catches 15 = .ok (.istore_n 3, 1) := by decide +kernel
theorem dX8_catches_16 : decode cX8_catches 16 = .ok (.iload_n 3, 1) := by decide +kernel
theorem dX8_catches_17 : decode cX8_catches 17 = .ok (.aload_n 0, 1) := by decide +kernel
theorem dX8_catches_18 : decode cX8_catches 18 = .ok (.getfield 7, 3) := by decide +kernel
theorem dX8_catches_21 : decode cX8_catches 21 = .ok (.if_icmp .ge 30, 3) := by decide +kernel
theorem dX8_catches_24 : decode cX8_catches 24 = .ok (.aload_n 0, 1) := by decide +kernel
theorem dX8_catches_25 : decode cX8_catches 25 = .ok (.iload_n 3, 1) := by decide +kernel
theorem dX8_catches_26 : decode cX8_catches 26 = .ok (.invokevirtual 265, 3) := by decide +kernel
theorem dX8_catches_29 : decode cX8_catches 29 = .ok (.ifCond .ne 6, 3) := by decide +kernel
theorem dX8_catches_32 : decode cX8_catches 32 = .ok (.goto 13, 3) := by decide +kernel
theorem dX8_catches_45 : decode cX8_catches 45 = .ok (.iinc 3 1, 3) := by decide +kernel
theorem dX8_catches_48 : decode cX8_catches 48 = .ok (.goto (-32), 3) := by decide +kernel
theorem dX8_catches_51 : decode cX8_catches 51 = .ok (.iload_n 1, 1) := by decide +kernel
theorem dX8_catches_52 : decode cX8_catches 52 = .ok (.iconst (-1), 1) := by decide +kernel
theorem dX8_catches_53 : decode cX8_catches 53 = .ok (.if_icmp .ne 7, 3) := by decide +kernel
theorem dX8_catches_56 : decode cX8_catches 56 = .ok (.iload_n 2, 1) := by decide +kernel
theorem dX8_catches_57 : decode cX8_catches 57 = .ok (.goto 9, 3) := by decide +kernel
theorem dX8_catches_60 : decode cX8_catches 60 = .ok (.aload_n 0, 1) := by decide +kernel
theorem dX8_catches_61 : decode cX8_catches 61 = .ok (.bipush (-5), 2) := by decide +kernel
theorem dX8_catches_63 : decode cX8_catches 63 = .ok (.invokevirtual 97, 3) := by decide +kernel
theorem dX8_catches_66 : decode cX8_catches 66 = .ok (.ireturn, 1) := by decide +kernel
set_option maxRecDepth 20000 in
theorem ggX8_stitches_X8_no : GoodIn wsX8_stitches wsX8_no := goodIn_r _ [6, 7, 15, 16, 17, 18, 19, 20, 21, 22, 23, 24, 25, 26, 27, 28, 29, 30, 31, 32, 33, 34, 35, 36, 37, 38, 39, 40, 41, 42, 43, 44, 45, 46, 47, 48, 49, 50, 51, 52] (by decide +kernel) (by decide +kernel)
set_option maxRecDepth 20000 in
theorem gX8_stitches_X8_no : GoodIn wsX8_stitches (wsV RX8 97 RX8 yX8_no wsX8_no) := goodIn_app (goodIn_of _ (by decide +kernel)) ggX8_stitches_X8_no
set_option maxRecDepth 20000 in
theorem ggX8_stitches_X8_doesCatch : GoodIn wsX8_stitches wsX8_doesCatch := goodIn_r _ [11, 12, 13, 14, 15, 16, 17, 18, 19, 20, 21, 22, 23, 24, 25, 26, 27, 28, 29, 30, 31, 32, 33, 34, 35, 36, 37, 38, 39, 40, 41, 42, 43, 44, 45, 46, 47, 48, 49, 50, 51, 52] (by decide +kernel) (by decide +kernel)
set_option maxRecDepth 20000 in
theorem gX8_stitches_X8_doesCatch : GoodIn wsX8_stitches (wsV RX8 265 RX8 yX8_doesCatch wsX8_doesCatch) := goodIn_app (goodIn_of _ (by decide +kernel)) ggX8_stitches_X8_doesCatch
theorem dX8_stitches_0 : decode cX8_stitches 0 = .ok (.iload_n 1, 1) := by decide +kernel
theorem dX8_stitches_1 : decode cX8_stitches 1 = .ok (.iconst (-1), 1) := by decide +kernel
theorem dX8_stitches_2 : decode cX8_stitches 2 = .ok (.if_icmp .ge 10, 3) := by decide +kernel
theorem dX8_stitches_5 : decode cX8_stitches 5 = .ok (.aload_n 0, 1) := by decide +kernel
theorem dX8_stitches_6 : decode cX8_stitches 6 = .ok (.bipush (-5), 2) := by decide +kernel
theorem dX8_stitches_8 : decode cX8_stitches 8 = .ok (.invokevirtual 97, 3) := by decide +kernel
theorem dX8_stitches_11 : decode cX8_stitches 11 = .ok (.ireturn, 1) := by decide +kernel
theorem dX8_stitches_12 : decode cX8_stitches 12 = .ok (.iconst 0, 1) := by decide +kernel
theorem dX8_stitches_13 : decode cX8_stitches 13 = .ok (.istore_n 2, 1) := by decide +kernel
theorem dX8_stitches_14 : decode cX8_stitches 14 = .ok (.iconst 0, 1) := by decide +kernel
theorem dX8_stitches_15 : decode cX8_stitches 15 = .ok (.istore_n 3, 1) := by decide +kernel
theorem dX8_stitches_16 : decode cX8_stitches 16 = .ok (.iload_n 3, 1) := by decide +kernel
theorem dX8_stitches_17 : decode cX8_stitches 17 = .ok (.aload_n 0, 1) := by decide +kernel
theorem dX8_stitches_18 : decode cX8_stitches 18 = .ok (.getfield 7, 3) := by decide +kernel
theorem dX8_stitches_21 : decode cX8_stitches 21 = .ok (.if_icmp .ge 54, 3) := by decide +kernel
theorem dX8_stitches_24 : decode cX8_stitches 24 = .ok (.aload_n 0, 1) := by decide +kernel
theorem dX8_stitches_25 : decode cX8_stitches 25 = .ok (.iload_n 3, 1) := by decide +kernel
theorem dX8_stitches_26 : decode cX8_stitches 26 = .ok (.invokevirtual 265, 3) := by decide +kernel
theorem dX8_stitches_29 : decode cX8_stitches 29 = .ok (.ifCond .ne 6, 3) := by decide +kernel
theorem dX8_stitches_32 : decode cX8_stitches 32 = .ok (.goto 37, 3) := by decide +kernel
theorem dX8_stitches_69 : decode cX8_stitches 69 = .ok (.iinc 3 1, 3) := by decide +kernel
theorem dX8_stitches_72 : decode cX8_stitches 72 = .ok (.goto (-56), 3) := by decide +kernel
theorem dX8_stitches_75 : decode cX8_stitches 75 = .ok (.iload_n 1, 1) := by decide +kernel
theorem dX8_stitches_76 : decode cX8_stitches 76 = .ok (.iconst (-1), 1) := by decide +kernel
theorem dX8_stitches_77 : decode cX8_stitches 77 = .ok (.if_icmp .ne 7, 3) := by decide +kernel
theorem dX8_stitches_80 : decode cX8_stitches 80 = .ok (.iload_n 2, 1) := by decide +kernel
theorem dX8_stitches_81 : decode cX8_stitches 81 = .ok (.goto 9, 3) := by decide +kernel
theorem dX8_stitches_84 : decode cX8_stitches 84 = .ok (.aload_n 0, 1) := by decide +kernel
theorem dX8_stitches_85 : decode cX8_stitches 85 = .ok (.bipush (-5), 2) := by decide +kernel
theorem dX8_stitches_87 : decode cX8_stitches 87 = .ok (.invokevirtual 97, 3) := by decide +kernel
theorem dX8_stitches_90 : decode cX8_stitches 90 = .ok (.ireturn, 1) := by decide +kernel
set_option maxRecDepth 20000 in
theorem ggX8_judge_X8_wanted : GoodIn wsX8_judge wsX8_wanted := goodIn_r _ [9, 10, 11, 12, 13, 8, 14, 49, 50, 51, 52, 53, 54, 55, 56, 57, 58, 59, 60, 61, 62, 63, 64, 65, 66, 67, 68, 69, 70, 71, 72, 73, 74, 75, 76, 77, 78, 79, 80, 81, 82, 83, 84, 85, 86] (by decide +kernel) (by decide +kernel)
set_option maxRecDepth 20000 in
theorem gX8_judge_X8_wanted : GoodIn wsX8_judge (wsV RX8 191 RX8 yX8_wanted wsX8_wanted) := goodIn_app (goodIn_of _ (by decide +kernel)) ggX8_judge_X8_wanted
set_option maxRecDepth 20000 in
theorem ggX8_judge_X8_noTen : GoodIn wsX8_judge wsX8_noTen := goodIn_r _ [18, 19, 49, 50, 51, 52, 53, 54, 55, 56, 57, 58, 59, 60, 61, 62, 63, 64, 65, 66, 67, 68, 69, 70, 71, 72, 73, 74, 75, 76, 77, 78, 79, 80, 81, 82, 83, 84, 85, 86] (by decide +kernel) (by decide +kernel)
set_option maxRecDepth 20000 in
theorem gX8_judge_X8_noTen : GoodIn wsX8_judge (wsV RX8 216 RX8 yX8_noTen wsX8_noTen) := goodIn_app (goodIn_of _ (by decide +kernel)) ggX8_judge_X8_noTen
theorem dX8_judge_0 : decode cX8_judge 0 = .ok (.aload_n 0, 1) := by decide +kernel
theorem dX8_judge_1 : decode cX8_judge 1 = .ok (.iload_n 1, 1) := by decide +kernel
theorem dX8_judge_2 : decode cX8_judge 2 = .ok (.invokevirtual 191, 3) := by decide +kernel
theorem dX8_judge_5 : decode cX8_judge 5 = .ok (.istore_n 3, 1) := by decide +kernel
theorem dX8_judge_6 : decode cX8_judge 6 = .ok (.iload_n 3, 1) := by decide +kernel
theorem dX8_judge_7 : decode cX8_judge 7 = .ok (.ifCond .ne 40, 3) := by decide +kernel
theorem dX8_judge_47 : decode cX8_judge 47 = .ok (.iload_n 3, 1) := by decide +kernel
theorem dX8_judge_48 : decode cX8_judge 48 = .ok (.ifCond .eq 9, 3) := by decide +kernel
theorem dX8_judge_51 : decode cX8_judge 51 = .ok (.aload_n 0, 1) := by decide +kernel
theorem dX8_judge_52 : decode cX8_judge 52 = .ok (.iload_n 3, 1) := by decide +kernel
theorem dX8_judge_53 : decode cX8_judge 53 = .ok (.invokevirtual 216, 3) := by decide +kernel
theorem dX8_judge_56 : decode cX8_judge 56 = .ok (.ireturn, 1) := by decide +kernel
set_option maxRecDepth 20000 in
theorem ggX8_meant_X8_wanted : GoodIn wsX8_meant wsX8_wanted := goodIn_r _ [9, 10, 11, 12, 13, 8, 14, 44, 45, 46, 47, 48, 49, 50, 51, 52, 53, 54, 55, 56, 57, 58, 59, 60, 61, 62, 63, 64, 65, 66, 67, 68, 69, 70, 71, 72, 73, 74, 75, 76, 77, 78, 79, 80, 81] (by decide +kernel) (by decide +kernel)
set_option maxRecDepth 20000 in
theorem gX8_meant_X8_wanted : GoodIn wsX8_meant (wsV RX8 191 RX8 yX8_wanted wsX8_wanted) := goodIn_app (goodIn_of _ (by decide +kernel)) ggX8_meant_X8_wanted
set_option maxRecDepth 20000 in
theorem ggX8_meant_X8_no : GoodIn wsX8_meant wsX8_no := goodIn_r _ [23, 24, 44, 45, 46, 47, 48, 49, 50, 51, 52, 53, 54, 55, 56, 57, 58, 59, 60, 61, 62, 63, 64, 65, 66, 67, 68, 69, 70, 71, 72, 73, 74, 75, 76, 77, 78, 79, 80, 81] (by decide +kernel) (by decide +kernel)
set_option maxRecDepth 20000 in
theorem gX8_meant_X8_no : GoodIn wsX8_meant (wsV RX8 97 RX8 yX8_no wsX8_no) := goodIn_app (goodIn_of _ (by decide +kernel)) ggX8_meant_X8_no
theorem dX8_meant_0 : decode cX8_meant 0 = .ok (.aload_n 0, 1) := by decide +kernel
theorem dX8_meant_1 : decode cX8_meant 1 = .ok (.iload_n 1, 1) := by decide +kernel
theorem dX8_meant_2 : decode cX8_meant 2 = .ok (.invokevirtual 191, 3) := by decide +kernel
theorem dX8_meant_5 : decode cX8_meant 5 = .ok (.istore 4, 2) := by decide +kernel
theorem dX8_meant_7 : decode cX8_meant 7 = .ok (.iload 4, 2) := by decide +kernel
theorem dX8_meant_9 : decode cX8_meant 9 = .ok (.ifCond .ne 46, 3) := by decide +kernel
theorem dX8_meant_55 : decode cX8_meant 55 = .ok (.iconst 0, 1) := by decide +kernel
theorem dX8_meant_56 : decode cX8_meant 56 = .ok (.istore 5, 2) := by decide +kernel
theorem dX8_meant_58 : decode cX8_meant 58 = .ok (.iload 5, 2) := by decide +kernel
theorem dX8_meant_60 : decode cX8_meant 60 = .ok (.iload_n 2, 1) := by decide +kernel
theorem dX8_meant_61 : decode cX8_meant 61 = .ok (.if_icmp .ge 40, 3) := by decide +kernel
theorem dX8_meant_64 : decode cX8_meant 64 = .ok (.iload 4, 2) := by decide +kernel
theorem dX8_meant_66 : decode cX8_meant 66 = .ok (.ifCond .ne 35, 3) := by decide +kernel
theorem dX8_meant_101 : decode cX8_meant 101 = .ok (.iload 4, 2) := by decide +kernel
theorem dX8_meant_103 : decode cX8_meant 103 = .ok (.ifCond .ne 17, 3) := by decide +kernel
theorem dX8_meant_120 : decode cX8_meant 120 = .ok (.iload 4, 2) := by decide +kernel
theorem dX8_meant_122 : decode cX8_meant 122 = .ok (.ifCond .eq 10, 3) := by decide +kernel
theorem dX8_meant_125 : decode cX8_meant 125 = .ok (.aload_n 0, 1) := by decide +kernel
theorem dX8_meant_126 : decode cX8_meant 126 = .ok (.iload 4, 2) := by decide +kernel
theorem dX8_meant_128 : decode cX8_meant 128 = .ok (.invokevirtual 97, 3) := by decide +kernel
theorem dX8_meant_131 : decode cX8_meant 131 = .ok (.ireturn, 1) := by decide +kernel
set_option maxRecDepth 20000 in
theorem ggX8_closed_X8_doesCatch : GoodIn wsX8_closed wsX8_doesCatch := goodIn_r _ [7, 8, 9, 10, 15, 16, 17, 18, 19, 20, 21, 22, 23, 24, 25, 26, 27, 28, 29, 30, 31, 32, 33, 34, 35, 36, 37, 38, 39, 40, 41, 42, 43, 44, 45, 46, 47, 48, 49, 50, 51, 52] (by decide +kernel) (by decide +kernel)
set_option maxRecDepth 20000 in
theorem gX8_closed_X8_doesCatch : GoodIn wsX8_closed (wsV RX8 265 RX8 yX8_doesCatch wsX8_doesCatch) := goodIn_app (goodIn_of _ (by decide +kernel)) ggX8_closed_X8_doesCatch
set_option maxRecDepth 20000 in
theorem ggX8_closed_X8_isOpen : GoodIn wsX8_closed wsX8_isOpen := goodIn_r _ [14, 2, 8, 15, 16, 17, 18, 19, 20, 21, 22, 23, 24, 25, 26, 27, 28, 29, 30, 31, 32, 33, 34, 35, 36, 37, 38, 39, 40, 41, 42, 43, 44, 45, 46, 47, 48, 49, 50, 51, 52] (by decide +kernel) (by decide +kernel)
set_option maxRecDepth 20000 in
theorem gX8_closed_X8_isOpen : GoodIn wsX8_closed (wsV RX8 247 RX8 yX8_isOpen wsX8_isOpen) := goodIn_app (goodIn_of _ (by decide +kernel)) ggX8_closed_X8_isOpen
theorem dX8_closed_0 : decode cX8_closed 0 = .ok (.aload_n 0, 1) := by decide +kernel
theorem dX8_closed_1 : decode cX8_closed 1 = .ok (.getfield 122, 3) := by decide +kernel
theorem dX8_closed_4 : decode cX8_closed 4 = .ok (.istore_n 1, 1) := by decide +kernel
theorem dX8_closed_5 : decode cX8_closed 5 = .ok (.iload_n 1, 1) := by decide +kernel
theorem dX8_closed_6 : decode cX8_closed 6 = .ok (.aload_n 0, 1) := by decide +kernel
theorem dX8_closed_7 : decode cX8_closed 7 = .ok (.getfield 7, 3) := by decide +kernel
theorem dX8_closed_10 : decode cX8_closed 10 = .ok (.if_icmp .ge 25, 3) := by decide +kernel
theorem dX8_closed_13 : decode cX8_closed 13 = .ok (.aload_n 0, 1) := by decide +kernel
theorem dX8_closed_14 : decode cX8_closed 14 = .ok (.iload_n 1, 1) := by decide +kernel
theorem dX8_closed_15 : decode cX8_closed 15 = .ok (.invokevirtual 265, 3) := by decide +kernel
theorem dX8_closed_18 : decode cX8_closed 18 = .ok (.ifCond .ne 17, 3) := by decide +kernel
theorem dX8_closed_21 : decode cX8_closed 21 = .ok (.aload_n 0, 1) := by decide +kernel
theorem dX8_closed_22 : decode cX8_closed 22 = .ok (.iload_n 1, 1) := by decide +kernel
theorem dX8_closed_23 : decode cX8_closed 23 = .ok (.invokevirtual 247, 3) := by decide +kernel
theorem dX8_closed_26 : decode cX8_closed 26 = .ok (.ifCond .ne 9, 3) := by decide +kernel
theorem dX8_closed_29 : decode cX8_closed 29 = .ok (.iinc 1 1, 3) := by decide +kernel
theorem dX8_closed_32 : decode cX8_closed 32 = .ok (.goto (-27), 3) := by decide +kernel
theorem dX8_closed_35 : decode cX8_closed 35 = .ok (.iload_n 1, 1) := by decide +kernel
theorem dX8_closed_36 : decode cX8_closed 36 = .ok (.ireturn, 1) := by decide +kernel
set_option maxRecDepth 20000 in
theorem ggX8_pulls_X8_isPull : GoodIn wsX8_pulls wsX8_isPull := goodIn_r _ [7, 8, 45, 46, 47, 48, 49, 50, 51, 52, 53, 54, 55, 56, 57, 58, 59, 60, 61, 62, 63, 64, 65, 66, 67, 68, 69, 70, 71, 72, 73, 74, 75, 76, 77, 78, 79, 80, 81, 82] (by decide +kernel) (by decide +kernel)
set_option maxRecDepth 20000 in
theorem gX8_pulls_X8_isPull : GoodIn wsX8_pulls (wsV RX8 101 RX8 yX8_isPull wsX8_isPull) := goodIn_app (goodIn_of _ (by decide +kernel)) ggX8_pulls_X8_isPull
set_option maxRecDepth 20000 in
theorem ggX8_pulls_X8_no : GoodIn wsX8_pulls wsX8_no := goodIn_r _ [12, 13, 45, 46, 47, 48, 49, 50, 51, 52, 53, 54, 55, 56, 57, 58, 59, 60, 61, 62, 63, 64, 65, 66, 67, 68, 69, 70, 71, 72, 73, 74, 75, 76, 77, 78, 79, 80, 81, 82] (by decide +kernel) (by decide +kernel)
set_option maxRecDepth 20000 in
theorem gX8_pulls_X8_no : GoodIn wsX8_pulls (wsV RX8 97 RX8 yX8_no wsX8_no) := goodIn_app (goodIn_of _ (by decide +kernel)) ggX8_pulls_X8_no
theorem dX8_pulls_0 : decode cX8_pulls 0 = .ok (.aload_n 0, 1) := by decide +kernel
theorem dX8_pulls_1 : decode cX8_pulls 1 = .ok (.iload_n 1, 1) := by decide +kernel
theorem dX8_pulls_2 : decode cX8_pulls 2 = .ok (.invokevirtual 101, 3) := by decide +kernel
theorem dX8_pulls_5 : decode cX8_pulls 5 = .ok (.ifCond .ne 9, 3) := by decide +kernel
theorem dX8_pulls_8 : decode cX8_pulls 8 = .ok (.aload_n 0, 1) := by decide +kernel
theorem dX8_pulls_9 : decode cX8_pulls 9 = .ok (.iconst (-1), 1) := by decide +kernel
theorem dX8_pulls_10 : decode cX8_pulls 10 = .ok (.invokevirtual 97, 3) := by decide +kernel
theorem dX8_pulls_13 : decode cX8_pulls 13 = .ok (.ireturn, 1) := by decide +kernel
set_option maxRecDepth 20000 in
theorem ggX8_closes_X8_isOpen : GoodIn wsX8_closes wsX8_isOpen := goodIn_r _ [10, 2, 11, 22, 23, 24, 25, 26, 27, 28, 29, 30, 31, 32, 33, 34, 35, 36, 37, 38, 39, 40, 41, 42, 43, 44, 45, 46, 47, 48, 49, 50, 51, 52, 53, 54, 55, 56, 57, 58, 59] (by decide +kernel) (by decide +kernel)
set_option maxRecDepth 20000 in
theorem gX8_closes_X8_isOpen : GoodIn wsX8_closes (wsV RX8 247 RX8 yX8_isOpen wsX8_isOpen) := goodIn_app (goodIn_of _ (by decide +kernel)) ggX8_closes_X8_isOpen
set_option maxRecDepth 20000 in
theorem ggX8_closes_X8_doesCatch : GoodIn wsX8_closes wsX8_doesCatch := goodIn_r _ [15, 11, 3, 4, 22, 23, 24, 25, 26, 27, 28, 29, 30, 31, 32, 33, 34, 35, 36, 37, 38, 39, 40, 41, 42, 43, 44, 45, 46, 47, 48, 49, 50, 51, 52, 53, 54, 55, 56, 57, 58, 59] (by decide +kernel) (by decide +kernel)
set_option maxRecDepth 20000 in
theorem gX8_closes_X8_doesCatch : GoodIn wsX8_closes (wsV RX8 265 RX8 yX8_doesCatch wsX8_doesCatch) := goodIn_app (goodIn_of _ (by decide +kernel)) ggX8_closes_X8_doesCatch
theorem dX8_closes_0 : decode cX8_closes 0 = .ok (.aload_n 0, 1) := by decide +kernel
theorem dX8_closes_1 : decode cX8_closes 1 = .ok (.getfield 122, 3) := by decide +kernel
theorem dX8_closes_4 : decode cX8_closes 4 = .ok (.aload_n 0, 1) := by decide +kernel
theorem dX8_closes_5 : decode cX8_closes 5 = .ok (.getfield 7, 3) := by decide +kernel
theorem dX8_closes_8 : decode cX8_closes 8 = .ok (.if_icmp .ge 76, 3) := by decide +kernel
theorem dX8_closes_11 : decode cX8_closes 11 = .ok (.aload_n 0, 1) := by decide +kernel
theorem dX8_closes_12 : decode cX8_closes 12 = .ok (.aload_n 0, 1) := by decide +kernel
theorem dX8_closes_13 : decode cX8_closes 13 = .ok (.getfield 122, 3) := by decide +kernel
theorem dX8_closes_16 : decode cX8_closes 16 = .ok (.invokevirtual 247, 3) := by decide +kernel
theorem dX8_closes_19 : decode cX8_closes 19 = .ok (.ifCond .ne 65, 3) := by decide +kernel
theorem dX8_closes_22 : decode cX8_closes 22 = .ok (.aload_n 0, 1) := by decide +kernel
theorem dX8_closes_23 : decode cX8_closes 23 = .ok (.aload_n 0, 1) := by decide +kernel
theorem dX8_closes_24 : decode cX8_closes 24 = .ok (.getfield 122, 3) := by decide +kernel
theorem dX8_closes_27 : decode cX8_closes 27 = .ok (.invokevirtual 265, 3) := by decide +kernel
theorem dX8_closes_30 : decode cX8_closes 30 = .ok (.ifCond .eq 41, 3) := by decide +kernel
theorem dX8_closes_71 : decode cX8_closes 71 = .ok (.aload_n 0, 1) := by decide +kernel
theorem dX8_closes_72 : decode cX8_closes 72 = .ok (.dup, 1) := by decide +kernel
theorem dX8_closes_73 : decode cX8_closes 73 = .ok (.getfield 122, 3) := by decide +kernel
theorem dX8_closes_76 : decode cX8_closes 76 = .ok (.iconst 1, 1) := by decide +kernel
theorem dX8_closes_77 : decode cX8_closes 77 = .ok (.iadd, 1) := by decide +kernel
theorem dX8_closes_78 : decode cX8_closes 78 = .ok (.putfield 122, 3) := by decide +kernel
theorem dX8_closes_81 : decode cX8_closes 81 = .ok (.goto (-81), 3) := by decide +kernel
theorem dX8_closes_84 : decode cX8_closes 84 = .ok (.return_, 1) := by decide +kernel
set_option maxRecDepth 20000 in
theorem ggX8_close_X8_closes : GoodIn wsX8_close wsX8_closes := goodIn_r _ [12, 2, 13, 14, 15, 1, 16, 17, 18, 6, 19, 20, 21, 22, 23, 24, 25, 26, 27, 28, 29, 30, 31, 32, 33, 34, 35, 36, 37, 38, 39, 40, 41, 42, 43, 44, 45, 46, 47, 48, 49, 50, 51, 52, 53, 54, 55, 56, 57, 58, 59, 60, 61, 62, 63, 64, 65, 66, 67, 68] (by decide +kernel) (by decide +kernel)
set_option maxRecDepth 20000 in
theorem gX8_close_X8_closes : GoodIn wsX8_close (wsV RX8 279 RX8 yX8_closes wsX8_closes) := goodIn_app (goodIn_of _ (by decide +kernel)) ggX8_close_X8_closes
theorem dX8_close_0 : decode cX8_close 0 = .ok (.aload_n 0, 1) := by decide +kernel
theorem dX8_close_1 : decode cX8_close 1 = .ok (.getfield 115, 3) := by decide +kernel
theorem dX8_close_4 : decode cX8_close 4 = .ok (.ifCond .eq 10, 3) := by decide +kernel
theorem dX8_close_14 : decode cX8_close 14 = .ok (.aload_n 0, 1) := by decide +kernel
theorem dX8_close_15 : decode cX8_close 15 = .ok (.invokevirtual 279, 3) := by decide +kernel
theorem dX8_close_18 : decode cX8_close 18 = .ok (.aload_n 0, 1) := by decide +kernel
theorem dX8_close_19 : decode cX8_close 19 = .ok (.getfield 122, 3) := by decide +kernel
theorem dX8_close_22 : decode cX8_close 22 = .ok (.ireturn, 1) := by decide +kernel
set_option maxRecDepth 20000 in
theorem ggX8_dayIn_X8_closes : GoodIn wsX8_dayIn wsX8_closes := goodIn_r _ [9, 1, 4, 10, 11, 2, 12, 13, 14, 8, 15, 16, 17, 18, 19, 20, 21, 22, 23, 24, 25, 26, 69, 70, 71, 72, 73, 74, 75, 76, 77, 78, 79, 80, 81, 82, 83, 84, 85, 86, 87, 88, 89, 90, 91, 92, 93, 94, 95, 96, 97, 98, 99, 100, 101, 102, 103, 104, 105, 106] (by decide +kernel) (by decide +kernel)
set_option maxRecDepth 20000 in
theorem gX8_dayIn_X8_closes : GoodIn wsX8_dayIn (wsV RX8 279 RX8 yX8_closes wsX8_closes) := goodIn_app (goodIn_of _ (by decide +kernel)) ggX8_dayIn_X8_closes
theorem dX8_dayIn_0 : decode cX8_dayIn 0 = .ok (.aload_n 0, 1) := by decide +kernel
theorem dX8_dayIn_1 : decode cX8_dayIn 1 = .ok (.iconst 0, 1) := by decide +kernel
theorem dX8_dayIn_2 : decode cX8_dayIn 2 = .ok (.putfield 122, 3) := by decide +kernel
theorem dX8_dayIn_5 : decode cX8_dayIn 5 = .ok (.aload_n 0, 1) := by decide +kernel
theorem dX8_dayIn_6 : decode cX8_dayIn 6 = .ok (.iconst 0, 1) := by decide +kernel
theorem dX8_dayIn_7 : decode cX8_dayIn 7 = .ok (.putfield 115, 3) := by decide +kernel
theorem dX8_dayIn_10 : decode cX8_dayIn 10 = .ok (.aload_n 0, 1) := by decide +kernel
theorem dX8_dayIn_11 : decode cX8_dayIn 11 = .ok (.bipush 60, 2) := by decide +kernel
theorem dX8_dayIn_13 : decode cX8_dayIn 13 = .ok (.putfield 13, 3) := by decide +kernel
theorem dX8_dayIn_16 : decode cX8_dayIn 16 = .ok (.iconst 0, 1) := by decide +kernel
theorem dX8_dayIn_17 : decode cX8_dayIn 17 = .ok (.istore_n 1, 1) := by decide +kernel
theorem dX8_dayIn_18 : decode cX8_dayIn 18 = .ok (.iload_n 1, 1) := by decide +kernel
theorem dX8_dayIn_19 : decode cX8_dayIn 19 = .ok (.iconst 3, 1) := by decide +kernel
theorem dX8_dayIn_20 : decode cX8_dayIn 20 = .ok (.if_icmp .ge 72, 3) := by decide +kernel
theorem dX8_dayIn_23 : decode cX8_dayIn 23 = .ok (.aload_n 0, 1) := by decide +kernel
theorem dX8_dayIn_24 : decode cX8_dayIn 24 = .ok (.getfield 115, 3) := by decide +kernel
theorem dX8_dayIn_27 : decode cX8_dayIn 27 = .ok (.ifCond .ne 65, 3) := by decide +kernel
theorem dX8_dayIn_30 : decode cX8_dayIn 30 = .ok (.aload_n 0, 1) := by decide +kernel
theorem dX8_dayIn_31 : decode cX8_dayIn 31 = .ok (.invokevirtual 279, 3) := by decide +kernel
theorem dX8_dayIn_34 : decode cX8_dayIn 34 = .ok (.aload_n 0, 1) := by decide +kernel
theorem dX8_dayIn_35 : decode cX8_dayIn 35 = .ok (.getfield 122, 3) := by decide +kernel
theorem dX8_dayIn_38 : decode cX8_dayIn 38 = .ok (.aload_n 0, 1) := by decide +kernel
theorem dX8_dayIn_39 : decode cX8_dayIn 39 = .ok (.getfield 7, 3) := by decide +kernel
theorem dX8_dayIn_42 : decode cX8_dayIn 42 = .ok (.if_icmp .ne 5, 3) := by decide +kernel
theorem dX8_dayIn_45 : decode cX8_dayIn 45 = .ok (.iconst 1, 1) := by decide +kernel
theorem dX8_dayIn_46 : decode cX8_dayIn 46 = .ok (.ireturn, 1) := by decide +kernel
set_option maxRecDepth 20000 in
theorem ggX8_winter_X8_no : GoodIn wsX8_winter wsX8_no := goodIn_r _ [5, 6, 78, 79, 80, 81, 82, 83, 84, 85, 86, 87, 88, 89, 90, 91, 92, 93, 94, 95, 96, 97, 98, 99, 100, 101, 102, 103, 104, 105, 106, 107, 108, 109, 110, 111, 112, 113, 114, 115] (by decide +kernel) (by decide +kernel)
set_option maxRecDepth 20000 in
theorem gX8_winter_X8_no : GoodIn wsX8_winter (wsV RX8 97 RX8 yX8_no wsX8_no) := goodIn_app (goodIn_of _ (by decide +kernel)) ggX8_winter_X8_no
set_option maxRecDepth 20000 in
theorem ggX8_winter_X8_dayIn : GoodIn wsX8_winter wsX8_dayIn := goodIn_r _ [10, 11, 12, 13, 14, 15, 16, 17, 4, 18, 19, 20, 21, 22, 23, 24, 25, 26, 27, 28, 29, 30, 31, 32, 33, 34, 35, 36, 37, 38, 39, 40, 41, 42, 43, 44, 45, 46, 47, 48, 49, 50, 51, 52, 53, 54, 55, 56, 57, 58, 59, 60, 61, 62, 63, 64, 65, 66, 67, 68, 69, 70, 71, 72, 73, 74, 75, 76, 77, 78, 79, 80, 81, 82, 83, 84, 85, 86, 87, 88, 89, 90, 91, 92, 93, 94, 95, 96, 97, 98, 99, 100, 101, 102, 103, 104, 105, 106, 107, 108, 109, 110, 111, 112, 113, 114, 115] (by decide +kernel) (by decide +kernel)
set_option maxRecDepth 20000 in
theorem gX8_winter_X8_dayIn : GoodIn wsX8_winter (wsV RX8 282 RX8 yX8_dayIn wsX8_dayIn) := goodIn_app (goodIn_of _ (by decide +kernel)) ggX8_winter_X8_dayIn
theorem dX8_winter_0 : decode cX8_winter 0 = .ok (.iload_n 1, 1) := by decide +kernel
theorem dX8_winter_1 : decode cX8_winter 1 = .ok (.iconst 1, 1) := by decide +kernel
theorem dX8_winter_2 : decode cX8_winter 2 = .ok (.if_icmp .lt 9, 3) := by decide +kernel
theorem dX8_winter_5 : decode cX8_winter 5 = .ok (.iload_n 1, 1) := by decide +kernel
theorem dX8_winter_6 : decode cX8_winter 6 = .ok (.bipush 60, 2) := by decide +kernel
theorem dX8_winter_8 : decode cX8_winter 8 = .ok (.if_icmp .le 10, 3) := by decide +kernel
theorem dX8_winter_11 : decode cX8_winter 11 = .ok (.aload_n 0, 1) := by decide +kernel
theorem dX8_winter_12 : decode cX8_winter 12 = .ok (.bipush (-6), 2) := by decide +kernel
theorem dX8_winter_14 : decode cX8_winter 14 = .ok (.invokevirtual 97, 3) := by decide +kernel
theorem dX8_winter_17 : decode cX8_winter 17 = .ok (.ireturn, 1) := by decide +kernel
theorem dX8_winter_18 : decode cX8_winter 18 = .ok (.iconst 0, 1) := by decide +kernel
theorem dX8_winter_19 : decode cX8_winter 19 = .ok (.istore_n 2, 1) := by decide +kernel
theorem dX8_winter_20 : decode cX8_winter 20 = .ok (.iconst 0, 1) := by decide +kernel
theorem dX8_winter_21 : decode cX8_winter 21 = .ok (.istore_n 3, 1) := by decide +kernel
theorem dX8_winter_22 : decode cX8_winter 22 = .ok (.iload_n 3, 1) := by decide +kernel
theorem dX8_winter_23 : decode cX8_winter 23 = .ok (.iload_n 1, 1) := by decide +kernel
theorem dX8_winter_24 : decode cX8_winter 24 = .ok (.if_icmp .ge 19, 3) := by decide +kernel
theorem dX8_winter_27 : decode cX8_winter 27 = .ok (.aload_n 0, 1) := by decide +kernel
theorem dX8_winter_28 : decode cX8_winter 28 = .ok (.invokevirtual 282, 3) := by decide +kernel
theorem dX8_winter_31 : decode cX8_winter 31 = .ok (.ifCond .eq 6, 3) := by decide +kernel
theorem dX8_winter_34 : decode cX8_winter 34 = .ok (.iinc 2 1, 3) := by decide +kernel
theorem dX8_winter_37 : decode cX8_winter 37 = .ok (.iinc 3 1, 3) := by decide +kernel
theorem dX8_winter_40 : decode cX8_winter 40 = .ok (.goto (-18), 3) := by decide +kernel
theorem dX8_winter_43 : decode cX8_winter 43 = .ok (.iload_n 2, 1) := by decide +kernel
theorem dX8_winter_44 : decode cX8_winter 44 = .ok (.ireturn, 1) := by decide +kernel
set_option maxRecDepth 20000 in
theorem ggX8_stitch_X8_isTooth : GoodIn wsX8_stitch wsX8_isTooth := goodIn_r _ [6, 7, 13, 14, 15, 16, 17, 18, 19, 20, 21, 22, 23, 24, 25, 26, 27, 28, 29, 30, 31, 32, 33, 34, 35, 36, 37, 38, 39, 40, 41, 42, 43, 44, 45, 46, 47, 48, 49, 50] (by decide +kernel) (by decide +kernel)
set_option maxRecDepth 20000 in
theorem gX8_stitch_X8_isTooth : GoodIn wsX8_stitch (wsV RX8 129 RX8 yX8_isTooth wsX8_isTooth) := goodIn_app (goodIn_of _ (by decide +kernel)) ggX8_stitch_X8_isTooth
set_option maxRecDepth 20000 in
theorem ggX8_stitch_X8_no : GoodIn wsX8_stitch wsX8_no := goodIn_r _ [11, 12, 13, 14, 15, 16, 17, 18, 19, 20, 21, 22, 23, 24, 25, 26, 27, 28, 29, 30, 31, 32, 33, 34, 35, 36, 37, 38, 39, 40, 41, 42, 43, 44, 45, 46, 47, 48, 49, 50] (by decide +kernel) (by decide +kernel)
set_option maxRecDepth 20000 in
theorem gX8_stitch_X8_no : GoodIn wsX8_stitch (wsV RX8 97 RX8 yX8_no wsX8_no) := goodIn_app (goodIn_of _ (by decide +kernel)) ggX8_stitch_X8_no
theorem dX8_stitch_0 : decode cX8_stitch 0 = .ok (.aload_n 0, 1) := by decide +kernel
theorem dX8_stitch_1 : decode cX8_stitch 1 = .ok (.iload_n 1, 1) := by decide +kernel
theorem dX8_stitch_2 : decode cX8_stitch 2 = .ok (.invokevirtual 129, 3) := by decide +kernel
theorem dX8_stitch_5 : decode cX8_stitch 5 = .ok (.ifCond .ne 9, 3) := by decide +kernel
theorem dX8_stitch_8 : decode cX8_stitch 8 = .ok (.aload_n 0, 1) := by decide +kernel
theorem dX8_stitch_9 : decode cX8_stitch 9 = .ok (.iconst (-1), 1) := by decide +kernel
theorem dX8_stitch_10 : decode cX8_stitch 10 = .ok (.invokevirtual 97, 3) := by decide +kernel
theorem dX8_stitch_13 : decode cX8_stitch 13 = .ok (.ireturn, 1) := by decide +kernel
theorem dX8_stitch_14 : decode cX8_stitch 14 = .ok (.iconst 0, 1) := by decide +kernel
theorem dX8_stitch_15 : decode cX8_stitch 15 = .ok (.istore_n 2, 1) := by decide +kernel
theorem dX8_stitch_16 : decode cX8_stitch 16 = .ok (.iload_n 1, 1) := by decide +kernel
theorem dX8_stitch_17 : decode cX8_stitch 17 = .ok (.iconst 2, 1) := by decide +kernel
theorem dX8_stitch_18 : decode cX8_stitch 18 = .ok (.isub, 1) := by decide +kernel
theorem dX8_stitch_19 : decode cX8_stitch 19 = .ok (.istore_n 3, 1) := by decide +kernel
theorem dX8_stitch_20 : decode cX8_stitch 20 = .ok (.iload_n 3, 1) := by decide +kernel
theorem dX8_stitch_21 : decode cX8_stitch 21 = .ok (.iload_n 1, 1) := by decide +kernel
theorem dX8_stitch_22 : decode cX8_stitch 22 = .ok (.iconst 2, 1) := by decide +kernel
theorem dX8_stitch_23 : decode cX8_stitch 23 = .ok (.iadd, 1) := by decide +kernel
theorem dX8_stitch_24 : decode cX8_stitch 24 = .ok (.if_icmp .gt 36, 3) := by decide +kernel
theorem dX8_stitch_27 : decode cX8_stitch 27 = .ok (.aload_n 0, 1) := by decide +kernel
theorem dX8_stitch_28 : decode cX8_stitch 28 = .ok (.iload_n 3, 1) := by decide +kernel
theorem dX8_stitch_29 : decode cX8_stitch 29 = .ok (.invokevirtual 129, 3) := by decide +kernel
theorem dX8_stitch_32 : decode cX8_stitch 32 = .ok (.ifCond .ne 6, 3) := by decide +kernel
theorem dX8_stitch_35 : decode cX8_stitch 35 = .ok (.goto 19, 3) := by decide +kernel
theorem dX8_stitch_38 : decode cX8_stitch 38 = .ok (.iload_n 2, 1) := by decide +kernel
theorem dX8_stitch_39 : decode cX8_stitch 39 = .ok (.aload_n 0, 1) := by decide +kernel
theorem dX8_stitch_40 : decode cX8_stitch 40 = .ok (.getfield 41, 3) := by decide +kernel
theorem dX8_stitch_43 : decode cX8_stitch 43 = .ok (.iload_n 3, 1) := by decide +kernel
theorem dX8_stitch_44 : decode cX8_stitch 44 = .ok (.iaload, 1) := by decide +kernel
theorem dX8_stitch_45 : decode cX8_stitch 45 = .ok (.iadd, 1) := by decide +kernel
theorem dX8_stitch_46 : decode cX8_stitch 46 = .ok (.istore_n 2, 1) := by decide +kernel
theorem dX8_stitch_47 : decode cX8_stitch 47 = .ok (.aload_n 0, 1) := by decide +kernel
theorem dX8_stitch_48 : decode cX8_stitch 48 = .ok (.getfield 41, 3) := by decide +kernel
theorem dX8_stitch_51 : decode cX8_stitch 51 = .ok (.iload_n 3, 1) := by decide +kernel
theorem dX8_stitch_52 : decode cX8_stitch 52 = .ok (.iconst 0, 1) := by decide +kernel
theorem dX8_stitch_53 : decode cX8_stitch 53 = .ok (.iastore, 1) := by decide +kernel
theorem dX8_stitch_54 : decode cX8_stitch 54 = .ok (.iinc 3 1, 3) := by decide +kernel
theorem dX8_stitch_57 : decode cX8_stitch 57 = .ok (.goto (-37), 3) := by decide +kernel
theorem dX8_stitch_60 : decode cX8_stitch 60 = .ok (.iload_n 2, 1) := by decide +kernel
theorem dX8_stitch_61 : decode cX8_stitch 61 = .ok (.ireturn, 1) := by decide +kernel
theorem dX8_seed_0 : decode cX8_seed 0 = .ok (.aload_n 0, 1) := by decide +kernel
theorem dX8_seed_1 : decode cX8_seed 1 = .ok (.getfield 19, 3) := by decide +kernel
theorem dX8_seed_4 : decode cX8_seed 4 = .ok (.istore_n 2, 1) := by decide +kernel
theorem dX8_seed_5 : decode cX8_seed 5 = .ok (.aload_n 0, 1) := by decide +kernel
theorem dX8_seed_6 : decode cX8_seed 6 = .ok (.iload_n 1, 1) := by decide +kernel
theorem dX8_seed_7 : decode cX8_seed 7 = .ok (.putfield 19, 3) := by decide +kernel
theorem dX8_seed_10 : decode cX8_seed 10 = .ok (.iload_n 2, 1) := by decide +kernel
theorem dX8_seed_11 : decode cX8_seed 11 = .ok (.ireturn, 1) := by decide +kernel
set_option maxRecDepth 20000 in
theorem ggX8_act_X8_isPull : GoodIn wsX8_act wsX8_isPull := goodIn_r _ [6, 7, 27, 28, 29, 30, 31, 32, 33, 34, 35, 36, 37, 38, 39, 40, 41, 42, 43, 44, 45, 46, 47, 48, 49, 50, 51, 52, 53, 54, 55, 56, 57, 58, 59, 60, 61, 62, 63, 64] (by decide +kernel) (by decide +kernel)
set_option maxRecDepth 20000 in
theorem gX8_act_X8_isPull : GoodIn wsX8_act (wsV RX8 101 RX8 yX8_isPull wsX8_isPull) := goodIn_app (goodIn_of _ (by decide +kernel)) ggX8_act_X8_isPull
theorem dX8_act_0 : decode cX8_act 0 = .ok (.aload_n 0, 1) := by decide +kernel
theorem dX8_act_1 : decode cX8_act 1 = .ok (.iconst 0, 1) := by decide +kernel
theorem dX8_act_2 : decode cX8_act 2 = .ok (.putfield 285, 3) := by decide +kernel
theorem dX8_act_5 : decode cX8_act 5 = .ok (.aload_n 0, 1) := by decide +kernel
theorem dX8_act_6 : decode cX8_act 6 = .ok (.iload_n 1, 1) := by decide +kernel
theorem dX8_act_7 : decode cX8_act 7 = .ok (.invokevirtual 101, 3) := by decide +kernel
theorem dX8_act_10 : decode cX8_act 10 = .ok (.ifCond .eq 12, 3) := by decide +kernel
theorem dX8_act_22 : decode cX8_act 22 = .ok (.iconst 0, 1) := by decide +kernel
theorem dX8_act_23 : decode cX8_act 23 = .ok (.ireturn, 1) := by decide +kernel
theorem dX8_trace_0 : decode cX8_trace 0 = .ok (.iload_n 1, 1) := by decide +kernel
theorem dX8_trace_1 : decode cX8_trace 1 = .ok (.ifCond .lt 26, 3) := by decide +kernel
theorem dX8_trace_4 : decode cX8_trace 4 = .ok (.iload_n 1, 1) := by decide +kernel
theorem dX8_trace_5 : decode cX8_trace 5 = .ok (.bipush 20, 2) := by decide +kernel
theorem dX8_trace_7 : decode cX8_trace 7 = .ok (.if_icmp .ge 20, 3) := by decide +kernel
theorem dX8_trace_10 : decode cX8_trace 10 = .ok (.iload_n 1, 1) := by decide +kernel
theorem dX8_trace_11 : decode cX8_trace 11 = .ok (.aload_n 0, 1) := by decide +kernel
theorem dX8_trace_12 : decode cX8_trace 12 = .ok (.getfield 285, 3) := by decide +kernel
theorem dX8_trace_15 : decode cX8_trace 15 = .ok (.if_icmp .ge 12, 3) := by decide +kernel
theorem dX8_trace_27 : decode cX8_trace 27 = .ok (.iconst (-1), 1) := by decide +kernel
theorem dX8_trace_28 : decode cX8_trace 28 = .ok (.ireturn, 1) := by decide +kernel
set_option maxRecDepth 20000 in
theorem ggX8_restore_X8_no : GoodIn wsX8_restore wsX8_no := goodIn_r _ [10, 11, 34, 35, 36, 37, 38, 39, 40, 41, 42, 43, 44, 45, 46, 47, 48, 49, 50, 51, 52, 53, 54, 55, 56, 57, 58, 59, 60, 61, 62, 63, 64, 65, 66, 67, 68, 69, 70, 71] (by decide +kernel) (by decide +kernel)
set_option maxRecDepth 20000 in
theorem gX8_restore_X8_no : GoodIn wsX8_restore (wsV RX8 97 RX8 yX8_no wsX8_no) := goodIn_app (goodIn_of _ (by decide +kernel)) ggX8_restore_X8_no
theorem dX8_restore_0 : decode cX8_restore 0 = .ok (.aload_n 0, 1) := by decide +kernel
theorem dX8_restore_1 : decode cX8_restore 1 = .ok (.getfield 300, 3) := by decide +kernel
theorem dX8_restore_4 : decode cX8_restore 4 = .ok (.ifCond .ne 10, 3) := by decide +kernel
theorem dX8_restore_7 : decode cX8_restore 7 = .ok (.aload_n 0, 1) := by decide +kernel
theorem dX8_restore_8 : decode cX8_restore 8 = .ok (.bipush (-6), 2) := by decide +kernel
theorem dX8_restore_10 : decode cX8_restore 10 = .ok (.invokevirtual 97, 3) := by decide +kernel
theorem dX8_restore_13 : decode cX8_restore 13 = .ok (.ireturn, 1) := by decide +kernel
theorem dX8_status_0 : decode cX8_status 0 = .ok (.iload_n 1, 1) := by decide +kernel
theorem dX8_status_1 : decode cX8_status 1 = .ok (.bipush 11, 2) := by decide +kernel
theorem dX8_status_3 : decode cX8_status 3 = .ok (.if_icmp .lt 19, 3) := by decide +kernel
theorem dX8_status_6 : decode cX8_status 6 = .ok (.iload_n 1, 1) := by decide +kernel
theorem dX8_status_7 : decode cX8_status 7 = .ok (.bipush 17, 2) := by decide +kernel
theorem dX8_status_9 : decode cX8_status 9 = .ok (.if_icmp .gt 13, 3) := by decide +kernel
theorem dX8_status_12 : decode cX8_status 12 = .ok (.aload_n 0, 1) := by decide +kernel
theorem dX8_status_13 : decode cX8_status 13 = .ok (.getfield 25, 3) := by decide +kernel
theorem dX8_status_16 : decode cX8_status 16 = .ok (.iload_n 1, 1) := by decide +kernel
theorem dX8_status_17 : decode cX8_status 17 = .ok (.bipush 10, 2) := by decide +kernel
theorem dX8_status_19 : decode cX8_status 19 = .ok (.isub, 1) := by decide +kernel
theorem dX8_status_20 : decode cX8_status 20 = .ok (.iaload, 1) := by decide +kernel
theorem dX8_status_21 : decode cX8_status 21 = .ok (.ireturn, 1) := by decide +kernel
theorem dX8_status_22 : decode cX8_status 22 = .ok (.iload_n 1, 1) := by decide +kernel
theorem dX8_status_23 : decode cX8_status 23 = .ok (.tableswitch 103 0 9 #[53, 58, 63, 68, 73, 78, 83, 88, 93, 98], 53) := by decide +kernel
theorem dX8_status_76 : decode cX8_status 76 = .ok (.aload_n 0, 1) := by decide +kernel
theorem dX8_status_77 : decode cX8_status 77 = .ok (.getfield 90, 3) := by decide +kernel
theorem dX8_status_80 : decode cX8_status 80 = .ok (.ireturn, 1) := by decide +kernel
theorem dX8_status_81 : decode cX8_status 81 = .ok (.aload_n 0, 1) := by decide +kernel
theorem dX8_status_82 : decode cX8_status 82 = .ok (.getfield 7, 3) := by decide +kernel
theorem dX8_status_85 : decode cX8_status 85 = .ok (.ireturn, 1) := by decide +kernel
theorem dX8_status_86 : decode cX8_status 86 = .ok (.aload_n 0, 1) := by decide +kernel
theorem dX8_status_87 : decode cX8_status 87 = .ok (.getfield 122, 3) := by decide +kernel
theorem dX8_status_90 : decode cX8_status 90 = .ok (.ireturn, 1) := by decide +kernel
theorem dX8_status_91 : decode cX8_status 91 = .ok (.aload_n 0, 1) := by decide +kernel
theorem dX8_status_92 : decode cX8_status 92 = .ok (.getfield 115, 3) := by decide +kernel
theorem dX8_status_95 : decode cX8_status 95 = .ok (.ireturn, 1) := by decide +kernel
theorem dX8_status_96 : decode cX8_status 96 = .ok (.aload_n 0, 1) := by decide +kernel
theorem dX8_status_97 : decode cX8_status 97 = .ok (.getfield 188, 3) := by decide +kernel
theorem dX8_status_100 : decode cX8_status 100 = .ok (.ireturn, 1) := by decide +kernel
theorem dX8_status_101 : decode cX8_status 101 = .ok (.aload_n 0, 1) := by decide +kernel
theorem dX8_status_102 : decode cX8_status 102 = .ok (.getfield 13, 3) := by decide +kernel
theorem dX8_status_105 : decode cX8_status 105 = .ok (.ireturn, 1) := by decide +kernel
theorem dX8_status_106 : decode cX8_status 106 = .ok (.aload_n 0, 1) := by decide +kernel
theorem dX8_status_107 : decode cX8_status 107 = .ok (.getfield 135, 3) := by decide +kernel
theorem dX8_status_110 : decode cX8_status 110 = .ok (.ireturn, 1) := by decide +kernel
theorem dX8_status_111 : decode cX8_status 111 = .ok (.aload_n 0, 1) := by decide +kernel
theorem dX8_status_112 : decode cX8_status 112 = .ok (.getfield 16, 3) := by decide +kernel
theorem dX8_status_115 : decode cX8_status 115 = .ok (.ireturn, 1) := by decide +kernel
theorem dX8_status_116 : decode cX8_status 116 = .ok (.aload_n 0, 1) := by decide +kernel
theorem dX8_status_117 : decode cX8_status 117 = .ok (.getfield 19, 3) := by decide +kernel
theorem dX8_status_120 : decode cX8_status 120 = .ok (.ireturn, 1) := by decide +kernel
theorem dX8_status_121 : decode cX8_status 121 = .ok (.aload_n 0, 1) := by decide +kernel
theorem dX8_status_122 : decode cX8_status 122 = .ok (.getfield 285, 3) := by decide +kernel
theorem dX8_status_125 : decode cX8_status 125 = .ok (.ireturn, 1) := by decide +kernel
theorem dX8_status_126 : decode cX8_status 126 = .ok (.iconst (-1), 1) := by decide +kernel
theorem dX8_status_127 : decode cX8_status 127 = .ok (.ireturn, 1) := by decide +kernel
theorem dJ7_fill_d0a16_0 : decode cJ7_fill_d0a16 0 = .ok (.iconst 0, 1) := by decide +kernel
theorem dJ7_fill_d0a16_1 : decode cJ7_fill_d0a16 1 = .ok (.istore_n 3, 1) := by decide +kernel
theorem dJ7_fill_d0a16_2 : decode cJ7_fill_d0a16 2 = .ok (.aload_n 0, 1) := by decide +kernel
theorem dJ7_fill_d0a16_3 : decode cJ7_fill_d0a16 3 = .ok (.arraylength, 1) := by decide +kernel
theorem dJ7_fill_d0a16_4 : decode cJ7_fill_d0a16 4 = .ok (.istore 4, 2) := by decide +kernel
theorem dJ7_fill_d0a16_6 : decode cJ7_fill_d0a16 6 = .ok (.iload_n 3, 1) := by decide +kernel
theorem dJ7_fill_d0a16_7 : decode cJ7_fill_d0a16 7 = .ok (.iload 4, 2) := by decide +kernel
theorem dJ7_fill_d0a16_9 : decode cJ7_fill_d0a16 9 = .ok (.if_icmp .ge 13, 3) := by decide +kernel
theorem dJ7_fill_d0a16_12 : decode cJ7_fill_d0a16 12 = .ok (.aload_n 0, 1) := by decide +kernel
theorem dJ7_fill_d0a16_13 : decode cJ7_fill_d0a16 13 = .ok (.iload_n 3, 1) := by decide +kernel
theorem dJ7_fill_d0a16_14 : decode cJ7_fill_d0a16 14 = .ok (.lload_n 1, 1) := by decide +kernel
theorem dJ7_fill_d0a16_15 : decode cJ7_fill_d0a16 15 = .ok (.lastore, 1) := by decide +kernel
theorem dJ7_fill_d0a16_16 : decode cJ7_fill_d0a16 16 = .ok (.iinc 3 1, 3) := by decide +kernel
theorem dJ7_fill_d0a16_19 : decode cJ7_fill_d0a16 19 = .ok (.goto (-13), 3) := by decide +kernel
theorem dJ7_fill_d0a16_22 : decode cJ7_fill_d0a16 22 = .ok (.return_, 1) := by decide +kernel
theorem dJ7_fill_53178_0 : decode cJ7_fill_53178 0 = .ok (.iconst 0, 1) := by decide +kernel
theorem dJ7_fill_53178_1 : decode cJ7_fill_53178 1 = .ok (.istore_n 2, 1) := by decide +kernel
theorem dJ7_fill_53178_2 : decode cJ7_fill_53178 2 = .ok (.aload_n 0, 1) := by decide +kernel
theorem dJ7_fill_53178_3 : decode cJ7_fill_53178 3 = .ok (.arraylength, 1) := by decide +kernel
theorem dJ7_fill_53178_4 : decode cJ7_fill_53178 4 = .ok (.istore_n 3, 1) := by decide +kernel
theorem dJ7_fill_53178_5 : decode cJ7_fill_53178 5 = .ok (.iload_n 2, 1) := by decide +kernel
theorem dJ7_fill_53178_6 : decode cJ7_fill_53178 6 = .ok (.iload_n 3, 1) := by decide +kernel
theorem dJ7_fill_53178_7 : decode cJ7_fill_53178 7 = .ok (.if_icmp .ge 13, 3) := by decide +kernel
theorem dJ7_fill_53178_10 : decode cJ7_fill_53178 10 = .ok (.aload_n 0, 1) := by decide +kernel
theorem dJ7_fill_53178_11 : decode cJ7_fill_53178 11 = .ok (.iload_n 2, 1) := by decide +kernel
theorem dJ7_fill_53178_12 : decode cJ7_fill_53178 12 = .ok (.iload_n 1, 1) := by decide +kernel
theorem dJ7_fill_53178_13 : decode cJ7_fill_53178 13 = .ok (.iastore, 1) := by decide +kernel
theorem dJ7_fill_53178_14 : decode cJ7_fill_53178 14 = .ok (.iinc 2 1, 3) := by decide +kernel
theorem dJ7_fill_53178_17 : decode cJ7_fill_53178 17 = .ok (.goto (-12), 3) := by decide +kernel
theorem dJ7_fill_53178_20 : decode cJ7_fill_53178 20 = .ok (.return_, 1) := by decide +kernel
