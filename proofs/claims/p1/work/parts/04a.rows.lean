set_option maxRecDepth 20000 in
theorem ggX0_become_X6_become : GoodIn wsX0_become wsX6_become := goodIn_r _ [18, 19, 20, 21, 22, 23, 33, 34, 35, 36, 37] (by decide +kernel) (by decide +kernel)
set_option maxRecDepth 20000 in
theorem gX0_become_X6_become : GoodIn wsX0_become (wsV RX0 47 RX6 yX6_become wsX6_become) := goodIn_app (goodIn_of _ (by decide +kernel)) ggX0_become_X6_become
theorem dX0_become_0 : decode cX0_become 0 = .ok (.aload_n 0, 1) := by decide +kernel
theorem dX0_become_1 : decode cX0_become 1 = .ok (.getfield 12, 3) := by decide +kernel
theorem dX0_become_4 : decode cX0_become 4 = .ok (.aload_n 1, 1) := by decide +kernel
theorem dX0_become_5 : decode cX0_become 5 = .ok (.getfield 12, 3) := by decide +kernel
theorem dX0_become_8 : decode cX0_become 8 = .ok (.invokevirtual 47, 3) := by decide +kernel
theorem dX0_become_11 : decode cX0_become 11 = .ok (.iconst 0, 1) := by decide +kernel
theorem dX0_become_12 : decode cX0_become 12 = .ok (.istore_n 2, 1) := by decide +kernel
theorem dX0_become_13 : decode cX0_become 13 = .ok (.iload_n 2, 1) := by decide +kernel
theorem dX0_become_14 : decode cX0_become 14 = .ok (.bipush 8, 2) := by decide +kernel
theorem dX0_become_16 : decode cX0_become 16 = .ok (.if_icmp .ge 21, 3) := by decide +kernel
theorem dX0_become_19 : decode cX0_become 19 = .ok (.aload_n 0, 1) := by decide +kernel
theorem dX0_become_20 : decode cX0_become 20 = .ok (.getfield 20, 3) := by decide +kernel
theorem dX0_become_23 : decode cX0_become 23 = .ok (.iload_n 2, 1) := by decide +kernel
theorem dX0_become_24 : decode cX0_become 24 = .ok (.aload_n 1, 1) := by decide +kernel
theorem dX0_become_25 : decode cX0_become 25 = .ok (.getfield 20, 3) := by decide +kernel
theorem dX0_become_28 : decode cX0_become 28 = .ok (.iload_n 2, 1) := by decide +kernel
theorem dX0_become_29 : decode cX0_become 29 = .ok (.aaload, 1) := by decide +kernel
theorem dX0_become_30 : decode cX0_become 30 = .ok (.aastore, 1) := by decide +kernel
theorem dX0_become_31 : decode cX0_become 31 = .ok (.iinc 2 1, 3) := by decide +kernel
theorem dX0_become_34 : decode cX0_become 34 = .ok (.goto (-21), 3) := by decide +kernel
theorem dX0_become_37 : decode cX0_become 37 = .ok (.aload_n 1, 1) := by decide +kernel
theorem dX0_become_38 : decode cX0_become 38 = .ok (.getfield 24, 3) := by decide +kernel
theorem dX0_become_41 : decode cX0_become 41 = .ok (.iconst 0, 1) := by decide +kernel
theorem dX0_become_42 : decode cX0_become 42 = .ok (.aload_n 0, 1) := by decide +kernel
theorem dX0_become_43 : decode cX0_become 43 = .ok (.getfield 24, 3) := by decide +kernel
theorem dX0_become_46 : decode cX0_become 46 = .ok (.iconst 0, 1) := by decide +kernel
theorem dX0_become_47 : decode cX0_become 47 = .ok (.iconst 3, 1) := by decide +kernel
theorem dX0_become_48 : decode cX0_become 48 = .ok (.invokestatic 51, 3) := by decide +kernel
theorem dX0_become_51 : decode cX0_become 51 = .ok (.aload_n 0, 1) := by decide +kernel
theorem dX0_become_52 : decode cX0_become 52 = .ok (.aload_n 1, 1) := by decide +kernel
theorem dX0_become_53 : decode cX0_become 53 = .ok (.getfield 28, 3) := by decide +kernel
theorem dX0_become_56 : decode cX0_become 56 = .ok (.putfield 28, 3) := by decide +kernel
theorem dX0_become_59 : decode cX0_become 59 = .ok (.aload_n 0, 1) := by decide +kernel
theorem dX0_become_60 : decode cX0_become 60 = .ok (.aload_n 1, 1) := by decide +kernel
theorem dX0_become_61 : decode cX0_become 61 = .ok (.getfield 32, 3) := by decide +kernel
theorem dX0_become_64 : decode cX0_become 64 = .ok (.putfield 32, 3) := by decide +kernel
theorem dX0_become_67 : decode cX0_become 67 = .ok (.aload_n 0, 1) := by decide +kernel
theorem dX0_become_68 : decode cX0_become 68 = .ok (.aload_n 1, 1) := by decide +kernel
theorem dX0_become_69 : decode cX0_become 69 = .ok (.getfield 35, 3) := by decide +kernel
theorem dX0_become_72 : decode cX0_become 72 = .ok (.putfield 35, 3) := by decide +kernel
theorem dX0_become_75 : decode cX0_become 75 = .ok (.aload_n 0, 1) := by decide +kernel
theorem dX0_become_76 : decode cX0_become 76 = .ok (.aload_n 1, 1) := by decide +kernel
theorem dX0_become_77 : decode cX0_become 77 = .ok (.getfield 38, 3) := by decide +kernel
theorem dX0_become_80 : decode cX0_become 80 = .ok (.putfield 38, 3) := by decide +kernel
theorem dX0_become_83 : decode cX0_become 83 = .ok (.aload_n 0, 1) := by decide +kernel
theorem dX0_become_84 : decode cX0_become 84 = .ok (.aload_n 1, 1) := by decide +kernel
theorem dX0_become_85 : decode cX0_become 85 = .ok (.getfield 41, 3) := by decide +kernel
theorem dX0_become_88 : decode cX0_become 88 = .ok (.putfield 41, 3) := by decide +kernel
theorem dX0_become_91 : decode cX0_become 91 = .ok (.aload_n 0, 1) := by decide +kernel
theorem dX0_become_92 : decode cX0_become 92 = .ok (.aload_n 1, 1) := by decide +kernel
theorem dX0_become_93 : decode cX0_become 93 = .ok (.getfield 44, 3) := by decide +kernel
theorem dX0_become_96 : decode cX0_become 96 = .ok (.putfield 44, 3) := by decide +kernel
theorem dX0_become_99 : decode cX0_become 99 = .ok (.return_, 1) := by decide +kernel
theorem dX0_leastOf_0 : decode cX0_leastOf 0 = .ok (.iload_n 0, 1) := by decide +kernel
theorem dX0_leastOf_1 : decode cX0_leastOf 1 = .ok (.iconst 3, 1) := by decide +kernel
theorem dX0_leastOf_2 : decode cX0_leastOf 2 = .ok (.if_icmp .ne 7, 3) := by decide +kernel
theorem dX0_leastOf_5 : decode cX0_leastOf 5 = .ok (.iconst 1, 1) := by decide +kernel
theorem dX0_leastOf_6 : decode cX0_leastOf 6 = .ok (.goto 4, 3) := by decide +kernel
theorem dX0_leastOf_9 : decode cX0_leastOf 9 = .ok (.iconst 0, 1) := by decide +kernel
theorem dX0_leastOf_10 : decode cX0_leastOf 10 = .ok (.ireturn, 1) := by decide +kernel
theorem dX0_mostOf_0 : decode cX0_mostOf 0 = .ok (.iload_n 1, 1) := by decide +kernel
theorem dX0_mostOf_1 : decode cX0_mostOf 1 = .ok (.tableswitch 68 0 7 #[47, 50, 54, 57, 68, 68, 68, 60], 47) := by decide +kernel
theorem dX0_mostOf_48 : decode cX0_mostOf 48 = .ok (.bipush 24, 2) := by decide +kernel
theorem dX0_mostOf_50 : decode cX0_mostOf 50 = .ok (.ireturn, 1) := by decide +kernel
theorem dX0_mostOf_51 : decode cX0_mostOf 51 = .ok (.sipush 300, 3) := by decide +kernel
theorem dX0_mostOf_54 : decode cX0_mostOf 54 = .ok (.ireturn, 1) := by decide +kernel
theorem dX0_mostOf_55 : decode cX0_mostOf 55 = .ok (.bipush 9, 2) := by decide +kernel
theorem dX0_mostOf_57 : decode cX0_mostOf 57 = .ok (.ireturn, 1) := by decide +kernel
theorem dX0_mostOf_58 : decode cX0_mostOf 58 = .ok (.bipush 9, 2) := by decide +kernel
theorem dX0_mostOf_60 : decode cX0_mostOf 60 = .ok (.ireturn, 1) := by decide +kernel
theorem dX0_mostOf_61 : decode cX0_mostOf 61 = .ok (.aload_n 0, 1) := by decide +kernel
theorem dX0_mostOf_62 : decode cX0_mostOf 62 = .ok (.getfield 12, 3) := by decide +kernel
theorem dX0_mostOf_65 : decode cX0_mostOf 65 = .ok (.getfield 57, 3) := by decide +kernel
theorem dX0_mostOf_68 : decode cX0_mostOf 68 = .ok (.ireturn, 1) := by decide +kernel
theorem dX0_mostOf_69 : decode cX0_mostOf 69 = .ok (.bipush 99, 2) := by decide +kernel
theorem dX0_mostOf_71 : decode cX0_mostOf 71 = .ok (.ireturn, 1) := by decide +kernel
set_option maxRecDepth 20000 in
theorem ggX0_number_X7_within : GoodIn wsX0_number wsX7_within := goodIn_r _ [10] (by decide +kernel) (by decide +kernel)
set_option maxRecDepth 20000 in
theorem gX0_number_X7_within_n66 : GoodIn wsX0_number (wsX7_within) := ggX0_number_X7_within
theorem dX0_number_0 : decode cX0_number 0 = .ok (.iload_n 1, 1) := by decide +kernel
theorem dX0_number_1 : decode cX0_number 1 = .ok (.tableswitch 78 0 7 #[47, 52, 57, 62, 78, 78, 78, 70], 47) := by decide +kernel
theorem dX0_number_48 : decode cX0_number 48 = .ok (.aload_n 0, 1) := by decide +kernel
theorem dX0_number_49 : decode cX0_number 49 = .ok (.getfield 32, 3) := by decide +kernel
theorem dX0_number_52 : decode cX0_number 52 = .ok (.ireturn, 1) := by decide +kernel
theorem dX0_number_53 : decode cX0_number 53 = .ok (.aload_n 0, 1) := by decide +kernel
theorem dX0_number_54 : decode cX0_number 54 = .ok (.getfield 38, 3) := by decide +kernel
theorem dX0_number_57 : decode cX0_number 57 = .ok (.ireturn, 1) := by decide +kernel
theorem dX0_number_58 : decode cX0_number 58 = .ok (.aload_n 0, 1) := by decide +kernel
theorem dX0_number_59 : decode cX0_number 59 = .ok (.getfield 41, 3) := by decide +kernel
theorem dX0_number_62 : decode cX0_number 62 = .ok (.ireturn, 1) := by decide +kernel
theorem dX0_number_63 : decode cX0_number 63 = .ok (.aload_n 0, 1) := by decide +kernel
theorem dX0_number_64 : decode cX0_number 64 = .ok (.getfield 12, 3) := by decide +kernel
theorem dX0_number_67 : decode cX0_number 67 = .ok (.getfield 60, 3) := by decide +kernel
theorem dX0_number_70 : decode cX0_number 70 = .ok (.ireturn, 1) := by decide +kernel
theorem dX0_number_71 : decode cX0_number 71 = .ok (.aload_n 0, 1) := by decide +kernel
theorem dX0_number_72 : decode cX0_number 72 = .ok (.getfield 12, 3) := by decide +kernel
theorem dX0_number_75 : decode cX0_number 75 = .ok (.getfield 63, 3) := by decide +kernel
theorem dX0_number_78 : decode cX0_number 78 = .ok (.ireturn, 1) := by decide +kernel
theorem dX0_number_79 : decode cX0_number 79 = .ok (.iload_n 1, 1) := by decide +kernel
theorem dX0_number_80 : decode cX0_number 80 = .ok (.iconst 4, 1) := by decide +kernel
theorem dX0_number_81 : decode cX0_number 81 = .ok (.isub, 1) := by decide +kernel
theorem dX0_number_82 : decode cX0_number 82 = .ok (.iconst 0, 1) := by decide +kernel
theorem dX0_number_83 : decode cX0_number 83 = .ok (.iconst 2, 1) := by decide +kernel
theorem dX0_number_84 : decode cX0_number 84 = .ok (.invokestatic 66, 3) := by decide +kernel
theorem dX0_number_87 : decode cX0_number 87 = .ok (.ifCond .eq 14, 3) := by decide +kernel
theorem dX0_number_90 : decode cX0_number 90 = .ok (.aload_n 0, 1) := by decide +kernel
theorem dX0_number_91 : decode cX0_number 91 = .ok (.getfield 24, 3) := by decide +kernel
theorem dX0_number_94 : decode cX0_number 94 = .ok (.iload_n 1, 1) := by decide +kernel
theorem dX0_number_95 : decode cX0_number 95 = .ok (.iconst 4, 1) := by decide +kernel
theorem dX0_number_96 : decode cX0_number 96 = .ok (.isub, 1) := by decide +kernel
theorem dX0_number_97 : decode cX0_number 97 = .ok (.iaload, 1) := by decide +kernel
theorem dX0_number_98 : decode cX0_number 98 = .ok (.goto 4, 3) := by decide +kernel
theorem dX0_number_102 : decode cX0_number 102 = .ok (.ireturn, 1) := by decide +kernel
set_option maxRecDepth 20000 in
theorem ggX0_setNumber_X7_within : GoodIn wsX0_setNumber wsX7_within := goodIn_r _ [10] (by decide +kernel) (by decide +kernel)
set_option maxRecDepth 20000 in
theorem gX0_setNumber_X7_within_n66 : GoodIn wsX0_setNumber (wsX7_within) := ggX0_setNumber_X7_within
theorem dX0_setNumber_0 : decode cX0_setNumber 0 = .ok (.iload_n 1, 1) := by decide +kernel
theorem dX0_setNumber_1 : decode cX0_setNumber 1 = .ok (.tableswitch 93 0 7 #[47, 55, 63, 71, 93, 93, 93, 82], 47) := by decide +kernel
theorem dX0_setNumber_48 : decode cX0_setNumber 48 = .ok (.aload_n 0, 1) := by decide +kernel
theorem dX0_setNumber_49 : decode cX0_setNumber 49 = .ok (.iload_n 2, 1) := by decide +kernel
theorem dX0_setNumber_50 : decode cX0_setNumber 50 = .ok (.putfield 32, 3) := by decide +kernel
theorem dX0_setNumber_53 : decode cX0_setNumber 53 = .ok (.goto 61, 3) := by decide +kernel
theorem dX0_setNumber_56 : decode cX0_setNumber 56 = .ok (.aload_n 0, 1) := by decide +kernel
theorem dX0_setNumber_57 : decode cX0_setNumber 57 = .ok (.iload_n 2, 1) := by decide +kernel
theorem dX0_setNumber_58 : decode cX0_setNumber 58 = .ok (.putfield 38, 3) := by decide +kernel
theorem dX0_setNumber_61 : decode cX0_setNumber 61 = .ok (.goto 53, 3) := by decide +kernel
theorem dX0_setNumber_64 : decode cX0_setNumber 64 = .ok (.aload_n 0, 1) := by decide +kernel
theorem dX0_setNumber_65 : decode cX0_setNumber 65 = .ok (.iload_n 2, 1) := by decide +kernel
theorem dX0_setNumber_66 : decode cX0_setNumber 66 = .ok (.putfield 41, 3) := by decide +kernel
theorem dX0_setNumber_69 : decode cX0_setNumber 69 = .ok (.goto 45, 3) := by decide +kernel
theorem dX0_setNumber_72 : decode cX0_setNumber 72 = .ok (.aload_n 0, 1) := by decide +kernel
theorem dX0_setNumber_73 : decode cX0_setNumber 73 = .ok (.getfield 12, 3) := by decide +kernel
theorem dX0_setNumber_76 : decode cX0_setNumber 76 = .ok (.iload_n 2, 1) := by decide +kernel
theorem dX0_setNumber_77 : decode cX0_setNumber 77 = .ok (.putfield 60, 3) := by decide +kernel
theorem dX0_setNumber_80 : decode cX0_setNumber 80 = .ok (.goto 34, 3) := by decide +kernel
theorem dX0_setNumber_83 : decode cX0_setNumber 83 = .ok (.aload_n 0, 1) := by decide +kernel
theorem dX0_setNumber_84 : decode cX0_setNumber 84 = .ok (.getfield 12, 3) := by decide +kernel
theorem dX0_setNumber_87 : decode cX0_setNumber 87 = .ok (.iload_n 2, 1) := by decide +kernel
theorem dX0_setNumber_88 : decode cX0_setNumber 88 = .ok (.putfield 63, 3) := by decide +kernel
theorem dX0_setNumber_91 : decode cX0_setNumber 91 = .ok (.goto 23, 3) := by decide +kernel
theorem dX0_setNumber_94 : decode cX0_setNumber 94 = .ok (.iload_n 1, 1) := by decide +kernel
theorem dX0_setNumber_95 : decode cX0_setNumber 95 = .ok (.iconst 4, 1) := by decide +kernel
theorem dX0_setNumber_96 : decode cX0_setNumber 96 = .ok (.isub, 1) := by decide +kernel
theorem dX0_setNumber_97 : decode cX0_setNumber 97 = .ok (.iconst 0, 1) := by decide +kernel
theorem dX0_setNumber_98 : decode cX0_setNumber 98 = .ok (.iconst 2, 1) := by decide +kernel
theorem dX0_setNumber_99 : decode cX0_setNumber 99 = .ok (.invokestatic 66, 3) := by decide +kernel
theorem dX0_setNumber_102 : decode cX0_setNumber 102 = .ok (.ifCond .eq 12, 3) := by decide +kernel
theorem dX0_setNumber_105 : decode cX0_setNumber 105 = .ok (.aload_n 0, 1) := by decide +kernel
theorem dX0_setNumber_106 : decode cX0_setNumber 106 = .ok (.getfield 24, 3) := by decide +kernel
theorem dX0_setNumber_109 : decode cX0_setNumber 109 = .ok (.iload_n 1, 1) := by decide +kernel
theorem dX0_setNumber_110 : decode cX0_setNumber 110 = .ok (.iconst 4, 1) := by decide +kernel
theorem dX0_setNumber_111 : decode cX0_setNumber 111 = .ok (.isub, 1) := by decide +kernel
theorem dX0_setNumber_112 : decode cX0_setNumber 112 = .ok (.iload_n 2, 1) := by decide +kernel
theorem dX0_setNumber_113 : decode cX0_setNumber 113 = .ok (.iastore, 1) := by decide +kernel
theorem dX0_setNumber_114 : decode cX0_setNumber 114 = .ok (.return_, 1) := by decide +kernel
set_option maxRecDepth 20000 in
theorem ggX0_pullAt_X7_within : GoodIn wsX0_pullAt wsX7_within := goodIn_r _ [5] (by decide +kernel) (by decide +kernel)
set_option maxRecDepth 20000 in
theorem gX0_pullAt_X7_within_n66 : GoodIn wsX0_pullAt (wsX7_within) := ggX0_pullAt_X7_within
theorem dX0_pullAt_0 : decode cX0_pullAt 0 = .ok (.iload_n 1, 1) := by decide +kernel
theorem dX0_pullAt_1 : decode cX0_pullAt 1 = .ok (.iconst 0, 1) := by decide +kernel
theorem dX0_pullAt_2 : decode cX0_pullAt 2 = .ok (.aload_n 0, 1) := by decide +kernel
theorem dX0_pullAt_3 : decode cX0_pullAt 3 = .ok (.getfield 28, 3) := by decide +kernel
theorem dX0_pullAt_6 : decode cX0_pullAt 6 = .ok (.iconst 1, 1) := by decide +kernel
theorem dX0_pullAt_7 : decode cX0_pullAt 7 = .ok (.isub, 1) := by decide +kernel
theorem dX0_pullAt_8 : decode cX0_pullAt 8 = .ok (.invokestatic 66, 3) := by decide +kernel
theorem dX0_pullAt_11 : decode cX0_pullAt 11 = .ok (.ifCond .eq 18, 3) := by decide +kernel
theorem dX0_pullAt_29 : decode cX0_pullAt 29 = .ok (.aconst_null, 1) := by decide +kernel
theorem dX0_pullAt_30 : decode cX0_pullAt 30 = .ok (.areturn, 1) := by decide +kernel
set_option maxRecDepth 20000 in
theorem ggX0_addPull_X2_init : GoodIn wsX0_addPull wsX2_init := goodIn_r _ [8, 9, 10, 11, 12, 13, 14, 24, 25, 26] (by decide +kernel) (by decide +kernel)
set_option maxRecDepth 20000 in
theorem gX0_addPull_X2_init : GoodIn wsX0_addPull (wsX2_init) := ggX0_addPull_X2_init
theorem dX0_addPull_0 : decode cX0_addPull 0 = .ok (.aload_n 0, 1) := by decide +kernel
theorem dX0_addPull_1 : decode cX0_addPull 1 = .ok (.getfield 28, 3) := by decide +kernel
theorem dX0_addPull_4 : decode cX0_addPull 4 = .ok (.bipush 8, 2) := by decide +kernel
theorem dX0_addPull_6 : decode cX0_addPull 6 = .ok (.if_icmp .lt 5, 3) := by decide +kernel
theorem dX0_addPull_11 : decode cX0_addPull 11 = .ok (.aload_n 0, 1) := by decide +kernel
theorem dX0_addPull_12 : decode cX0_addPull 12 = .ok (.getfield 20, 3) := by decide +kernel
theorem dX0_addPull_15 : decode cX0_addPull 15 = .ok (.aload_n 0, 1) := by decide +kernel
theorem dX0_addPull_16 : decode cX0_addPull 16 = .ok (.getfield 28, 3) := by decide +kernel
theorem dX0_addPull_19 : decode cX0_addPull 19 = .ok (.new 18, 3) := by decide +kernel
theorem dX0_addPull_22 : decode cX0_addPull 22 = .ok (.dup, 1) := by decide +kernel
theorem dX0_addPull_23 : decode cX0_addPull 23 = .ok (.iload_n 1, 1) := by decide +kernel
theorem dX0_addPull_24 : decode cX0_addPull 24 = .ok (.iload_n 2, 1) := by decide +kernel
theorem dX0_addPull_25 : decode cX0_addPull 25 = .ok (.iload_n 3, 1) := by decide +kernel
theorem dX0_addPull_26 : decode cX0_addPull 26 = .ok (.invokespecial 70, 3) := by decide +kernel
theorem dX0_addPull_29 : decode cX0_addPull 29 = .ok (.aastore, 1) := by decide +kernel
theorem dX0_addPull_30 : decode cX0_addPull 30 = .ok (.aload_n 0, 1) := by decide +kernel
theorem dX0_addPull_31 : decode cX0_addPull 31 = .ok (.dup, 1) := by decide +kernel
theorem dX0_addPull_32 : decode cX0_addPull 32 = .ok (.getfield 28, 3) := by decide +kernel
theorem dX0_addPull_35 : decode cX0_addPull 35 = .ok (.dup_x1, 1) := by decide +kernel
theorem dX0_addPull_36 : decode cX0_addPull 36 = .ok (.iconst 1, 1) := by decide +kernel
theorem dX0_addPull_37 : decode cX0_addPull 37 = .ok (.iadd, 1) := by decide +kernel
theorem dX0_addPull_38 : decode cX0_addPull 38 = .ok (.putfield 28, 3) := by decide +kernel
theorem dX0_addPull_41 : decode cX0_addPull 41 = .ok (.ireturn, 1) := by decide +kernel
set_option maxRecDepth 20000 in
theorem ggX0_closeInTruth_X6_catchesAt : GoodIn wsX0_closeInTruth wsX6_catchesAt := goodIn_r _ [11, 12, 13, 14, 15, 16, 17, 10, 18, 19, 44, 45, 46, 47, 48] (by decide +kernel) (by decide +kernel)
set_option maxRecDepth 20000 in
theorem gX0_closeInTruth_X6_catchesAt : GoodIn wsX0_closeInTruth (wsV RX0 105 RX6 yX6_catchesAt wsX6_catchesAt) := goodIn_app (goodIn_of _ (by decide +kernel)) ggX0_closeInTruth_X6_catchesAt
set_option maxRecDepth 20000 in
theorem ggX0_closeInTruth_X6_lacksThreeFrom : GoodIn wsX0_closeInTruth wsX6_lacksThreeFrom := goodIn_r _ [30, 31, 32, 33, 10, 34, 12, 15, 16, 17, 18, 19, 44, 45, 46, 47, 48] (by decide +kernel) (by decide +kernel)
set_option maxRecDepth 20000 in
theorem gX0_closeInTruth_X6_lacksThreeFrom : GoodIn wsX0_closeInTruth (wsV RX0 112 RX6 yX6_lacksThreeFrom wsX6_lacksThreeFrom) := goodIn_app (goodIn_of _ (by decide +kernel)) ggX0_closeInTruth_X6_lacksThreeFrom
theorem dX0_closeInTruth_0 : decode cX0_closeInTruth 0 = .ok (.aload_n 0, 1) := by decide +kernel
theorem dX0_closeInTruth_1 : decode cX0_closeInTruth 1 = .ok (.getfield 12, 3) := by decide +kernel
theorem dX0_closeInTruth_4 : decode cX0_closeInTruth 4 = .ok (.getfield 63, 3) := by decide +kernel
theorem dX0_closeInTruth_7 : decode cX0_closeInTruth 7 = .ok (.istore_n 1, 1) := by decide +kernel
theorem dX0_closeInTruth_8 : decode cX0_closeInTruth 8 = .ok (.iload_n 1, 1) := by decide +kernel
theorem dX0_closeInTruth_9 : decode cX0_closeInTruth 9 = .ok (.aload_n 0, 1) := by decide +kernel
theorem dX0_closeInTruth_10 : decode cX0_closeInTruth 10 = .ok (.getfield 12, 3) := by decide +kernel
theorem dX0_closeInTruth_13 : decode cX0_closeInTruth 13 = .ok (.getfield 57, 3) := by decide +kernel
theorem dX0_closeInTruth_16 : decode cX0_closeInTruth 16 = .ok (.if_icmp .ge 81, 3) := by decide +kernel
theorem dX0_closeInTruth_19 : decode cX0_closeInTruth 19 = .ok (.aload_n 0, 1) := by decide +kernel
theorem dX0_closeInTruth_20 : decode cX0_closeInTruth 20 = .ok (.getfield 12, 3) := by decide +kernel
theorem dX0_closeInTruth_23 : decode cX0_closeInTruth 23 = .ok (.iload_n 1, 1) := by decide +kernel
theorem dX0_closeInTruth_24 : decode cX0_closeInTruth 24 = .ok (.putfield 63, 3) := by decide +kernel
theorem dX0_closeInTruth_27 : decode cX0_closeInTruth 27 = .ok (.aload_n 0, 1) := by decide +kernel
theorem dX0_closeInTruth_28 : decode cX0_closeInTruth 28 = .ok (.getfield 12, 3) := by decide +kernel
theorem dX0_closeInTruth_31 : decode cX0_closeInTruth 31 = .ok (.iload_n 1, 1) := by decide +kernel
theorem dX0_closeInTruth_32 : decode cX0_closeInTruth 32 = .ok (.invokevirtual 105, 3) := by decide +kernel
theorem dX0_closeInTruth_35 : decode cX0_closeInTruth 35 = .ok (.ifCond .eq 44, 3) := by decide +kernel
theorem dX0_closeInTruth_79 : decode cX0_closeInTruth 79 = .ok (.aload_n 0, 1) := by decide +kernel
theorem dX0_closeInTruth_80 : decode cX0_closeInTruth 80 = .ok (.getfield 12, 3) := by decide +kernel
theorem dX0_closeInTruth_83 : decode cX0_closeInTruth 83 = .ok (.iload_n 1, 1) := by decide +kernel
theorem dX0_closeInTruth_84 : decode cX0_closeInTruth 84 = .ok (.invokevirtual 112, 3) := by decide +kernel
theorem dX0_closeInTruth_87 : decode cX0_closeInTruth 87 = .ok (.ifCond .eq 4, 3) := by decide +kernel
theorem dX0_closeInTruth_91 : decode cX0_closeInTruth 91 = .ok (.iinc 1 1, 3) := by decide +kernel
theorem dX0_closeInTruth_94 : decode cX0_closeInTruth 94 = .ok (.goto (-86), 3) := by decide +kernel
theorem dX0_closeInTruth_97 : decode cX0_closeInTruth 97 = .ok (.aload_n 0, 1) := by decide +kernel
theorem dX0_closeInTruth_98 : decode cX0_closeInTruth 98 = .ok (.getfield 12, 3) := by decide +kernel
theorem dX0_closeInTruth_101 : decode cX0_closeInTruth 101 = .ok (.aload_n 0, 1) := by decide +kernel
theorem dX0_closeInTruth_102 : decode cX0_closeInTruth 102 = .ok (.getfield 12, 3) := by decide +kernel
theorem dX0_closeInTruth_105 : decode cX0_closeInTruth 105 = .ok (.getfield 57, 3) := by decide +kernel
theorem dX0_closeInTruth_108 : decode cX0_closeInTruth 108 = .ok (.putfield 63, 3) := by decide +kernel
theorem dX0_closeInTruth_111 : decode cX0_closeInTruth 111 = .ok (.return_, 1) := by decide +kernel
set_option maxRecDepth 20000 in
theorem ggX0_dayInTruth_X0_closeInTruth : GoodIn wsX0_dayInTruth wsX0_closeInTruth := goodIn_r _ [10, 1, 2, 5, 11, 12, 3, 13, 14, 15, 16, 17, 18, 19, 20, 21, 22, 23, 24, 25, 26, 27, 28, 9, 29, 30, 31, 32, 33, 34, 35, 36, 37, 38, 39, 124, 125, 126, 127, 128, 129, 130, 131, 132, 133, 134, 135, 136, 137] (by decide +kernel) (by decide +kernel)
set_option maxRecDepth 20000 in
theorem gX0_dayInTruth_X0_closeInTruth : GoodIn wsX0_dayInTruth (wsV RX0 115 RX0 yX0_closeInTruth wsX0_closeInTruth) := goodIn_app (goodIn_of _ (by decide +kernel)) ggX0_dayInTruth_X0_closeInTruth
theorem dX0_dayInTruth_0 : decode cX0_dayInTruth 0 = .ok (.aload_n 0, 1) := by decide +kernel
theorem dX0_dayInTruth_1 : decode cX0_dayInTruth 1 = .ok (.getfield 12, 3) := by decide +kernel
theorem dX0_dayInTruth_4 : decode cX0_dayInTruth 4 = .ok (.iconst 0, 1) := by decide +kernel
theorem dX0_dayInTruth_5 : decode cX0_dayInTruth 5 = .ok (.putfield 63, 3) := by decide +kernel
theorem dX0_dayInTruth_8 : decode cX0_dayInTruth 8 = .ok (.aload_n 0, 1) := by decide +kernel
theorem dX0_dayInTruth_9 : decode cX0_dayInTruth 9 = .ok (.iconst 0, 1) := by decide +kernel
theorem dX0_dayInTruth_10 : decode cX0_dayInTruth 10 = .ok (.putfield 32, 3) := by decide +kernel
theorem dX0_dayInTruth_13 : decode cX0_dayInTruth 13 = .ok (.aload_n 0, 1) := by decide +kernel
theorem dX0_dayInTruth_14 : decode cX0_dayInTruth 14 = .ok (.bipush 60, 2) := by decide +kernel
theorem dX0_dayInTruth_16 : decode cX0_dayInTruth 16 = .ok (.putfield 38, 3) := by decide +kernel
theorem dX0_dayInTruth_19 : decode cX0_dayInTruth 19 = .ok (.iconst 0, 1) := by decide +kernel
theorem dX0_dayInTruth_20 : decode cX0_dayInTruth 20 = .ok (.istore_n 2, 1) := by decide +kernel
theorem dX0_dayInTruth_21 : decode cX0_dayInTruth 21 = .ok (.iload_n 2, 1) := by decide +kernel
theorem dX0_dayInTruth_22 : decode cX0_dayInTruth 22 = .ok (.iconst 3, 1) := by decide +kernel
theorem dX0_dayInTruth_23 : decode cX0_dayInTruth 23 = .ok (.if_icmp .ge 44, 3) := by decide +kernel
theorem dX0_dayInTruth_26 : decode cX0_dayInTruth 26 = .ok (.aload_n 0, 1) := by decide +kernel
theorem dX0_dayInTruth_27 : decode cX0_dayInTruth 27 = .ok (.getfield 32, 3) := by decide +kernel
theorem dX0_dayInTruth_30 : decode cX0_dayInTruth 30 = .ok (.ifCond .ne 37, 3) := by decide +kernel
theorem dX0_dayInTruth_33 : decode cX0_dayInTruth 33 = .ok (.aload_n 0, 1) := by decide +kernel
theorem dX0_dayInTruth_34 : decode cX0_dayInTruth 34 = .ok (.invokevirtual 115, 3) := by decide +kernel
theorem dX0_dayInTruth_37 : decode cX0_dayInTruth 37 = .ok (.aload_n 0, 1) := by decide +kernel
theorem dX0_dayInTruth_38 : decode cX0_dayInTruth 38 = .ok (.getfield 12, 3) := by decide +kernel
theorem dX0_dayInTruth_41 : decode cX0_dayInTruth 41 = .ok (.getfield 63, 3) := by decide +kernel
theorem dX0_dayInTruth_44 : decode cX0_dayInTruth 44 = .ok (.aload_n 0, 1) := by decide +kernel
theorem dX0_dayInTruth_45 : decode cX0_dayInTruth 45 = .ok (.getfield 12, 3) := by decide +kernel
theorem dX0_dayInTruth_48 : decode cX0_dayInTruth 48 = .ok (.getfield 57, 3) := by decide +kernel
theorem dX0_dayInTruth_51 : decode cX0_dayInTruth 51 = .ok (.if_icmp .ne 5, 3) := by decide +kernel
theorem dX0_dayInTruth_54 : decode cX0_dayInTruth 54 = .ok (.iconst 1, 1) := by decide +kernel
theorem dX0_dayInTruth_55 : decode cX0_dayInTruth 55 = .ok (.ireturn, 1) := by decide +kernel
set_option maxRecDepth 20000 in
theorem ggX1_bodyAt_X7_within : GoodIn wsX1_bodyAt wsX7_within := goodIn_r _ [9] (by decide +kernel) (by decide +kernel)
set_option maxRecDepth 20000 in
theorem gX1_bodyAt_X7_within_n44 : GoodIn wsX1_bodyAt (wsX7_within) := ggX1_bodyAt_X7_within
theorem dX1_bodyAt_0 : decode cX1_bodyAt 0 = .ok (.iload_n 1, 1) := by decide +kernel
theorem dX1_bodyAt_1 : decode cX1_bodyAt 1 = .ok (.iconst 0, 1) := by decide +kernel
theorem dX1_bodyAt_2 : decode cX1_bodyAt 2 = .ok (.aload_n 0, 1) := by decide +kernel
theorem dX1_bodyAt_3 : decode cX1_bodyAt 3 = .ok (.getfield 15, 3) := by decide +kernel
theorem dX1_bodyAt_6 : decode cX1_bodyAt 6 = .ok (.bipush 20, 2) := by decide +kernel
theorem dX1_bodyAt_8 : decode cX1_bodyAt 8 = .ok (.invokestatic 38, 3) := by decide +kernel
theorem dX1_bodyAt_11 : decode cX1_bodyAt 11 = .ok (.iconst 1, 1) := by decide +kernel
theorem dX1_bodyAt_12 : decode cX1_bodyAt 12 = .ok (.isub, 1) := by decide +kernel
theorem dX1_bodyAt_13 : decode cX1_bodyAt 13 = .ok (.invokestatic 44, 3) := by decide +kernel
theorem dX1_bodyAt_16 : decode cX1_bodyAt 16 = .ok (.ifCond .eq 12, 3) := by decide +kernel
theorem dX1_bodyAt_28 : decode cX1_bodyAt 28 = .ok (.iconst (-1), 1) := by decide +kernel
theorem dX1_bodyAt_29 : decode cX1_bodyAt 29 = .ok (.ireturn, 1) := by decide +kernel
theorem dX2_init_0 : decode cX2_init 0 = .ok (.aload_n 0, 1) := by decide +kernel
theorem dX2_init_1 : decode cX2_init 1 = .ok (.invokespecial 3, 3) := by decide +kernel
theorem dX2_init_4 : decode cX2_init 4 = .ok (.aload_n 0, 1) := by decide +kernel
theorem dX2_init_5 : decode cX2_init 5 = .ok (.iload_n 1, 1) := by decide +kernel
theorem dX2_init_6 : decode cX2_init 6 = .ok (.putfield 9, 3) := by decide +kernel
theorem dX2_init_9 : decode cX2_init 9 = .ok (.aload_n 0, 1) := by decide +kernel
theorem dX2_init_10 : decode cX2_init 10 = .ok (.iload_n 2, 1) := by decide +kernel
theorem dX2_init_11 : decode cX2_init 11 = .ok (.putfield 15, 3) := by decide +kernel
theorem dX2_init_14 : decode cX2_init 14 = .ok (.aload_n 0, 1) := by decide +kernel
theorem dX2_init_15 : decode cX2_init 15 = .ok (.iload_n 3, 1) := by decide +kernel
theorem dX2_init_16 : decode cX2_init 16 = .ok (.putfield 18, 3) := by decide +kernel
theorem dX2_init_19 : decode cX2_init 19 = .ok (.return_, 1) := by decide +kernel
set_option maxRecDepth 20000 in
theorem ggX4_holdRow_J7_fill_d0a16 : GoodIn wsX4_holdRow wsJ7_fill_d0a16 := goodIn_r _ [7] (by decide +kernel) (by decide +kernel)
set_option maxRecDepth 20000 in
theorem gX4_holdRow_J7_fill_d0a16 : GoodIn wsX4_holdRow (va_wsS RX4 22 yJ7_fill_d0a16 wsJ7_fill_d0a16) := goodIn_app (goodIn_of _ (by decide +kernel)) ggX4_holdRow_J7_fill_d0a16
theorem dX4_holdRow_0 : decode cX4_holdRow 0 = .ok (.aload_n 0, 1) := by decide +kernel
theorem dX4_holdRow_1 : decode cX4_holdRow 1 = .ok (.bipush 100, 2) := by decide +kernel
theorem dX4_holdRow_3 : decode cX4_holdRow 3 = .ok (.iload_n 1, 1) := by decide +kernel
theorem dX4_holdRow_4 : decode cX4_holdRow 4 = .ok (.iadd, 1) := by decide +kernel
theorem dX4_holdRow_5 : decode cX4_holdRow 5 = .ok (.putfield 15, 3) := by decide +kernel
theorem dX4_holdRow_8 : decode cX4_holdRow 8 = .ok (.aload_n 0, 1) := by decide +kernel
theorem dX4_holdRow_9 : decode cX4_holdRow 9 = .ok (.iload_n 2, 1) := by decide +kernel
theorem dX4_holdRow_10 : decode cX4_holdRow 10 = .ok (.putfield 19, 3) := by decide +kernel
theorem dX4_holdRow_13 : decode cX4_holdRow 13 = .ok (.aload_n 0, 1) := by decide +kernel
theorem dX4_holdRow_14 : decode cX4_holdRow 14 = .ok (.getfield 9, 3) := by decide +kernel
theorem dX4_holdRow_17 : decode cX4_holdRow 17 = .ok (.lconst 0, 1) := by decide +kernel
theorem dX4_holdRow_18 : decode cX4_holdRow 18 = .ok (.invokestatic 22, 3) := by decide +kernel
theorem dX4_holdRow_21 : decode cX4_holdRow 21 = .ok (.return_, 1) := by decide +kernel
theorem dX4_noRow_0 : decode cX4_noRow 0 = .ok (.aload_n 0, 1) := by decide +kernel
theorem dX4_noRow_1 : decode cX4_noRow 1 = .ok (.getfield 15, 3) := by decide +kernel
theorem dX4_noRow_4 : decode cX4_noRow 4 = .ok (.bipush 100, 2) := by decide +kernel
theorem dX4_noRow_6 : decode cX4_noRow 6 = .ok (.if_icmp .lt 5, 3) := by decide +kernel
theorem dX4_noRow_11 : decode cX4_noRow 11 = .ok (.aload_n 0, 1) := by decide +kernel
theorem dX4_noRow_12 : decode cX4_noRow 12 = .ok (.getfield 15, 3) := by decide +kernel
theorem dX4_noRow_15 : decode cX4_noRow 15 = .ok (.iconst (-1), 1) := by decide +kernel
theorem dX4_noRow_16 : decode cX4_noRow 16 = .ok (.if_icmp .ne 7, 3) := by decide +kernel
theorem dX4_noRow_19 : decode cX4_noRow 19 = .ok (.iconst 3, 1) := by decide +kernel
theorem dX4_noRow_20 : decode cX4_noRow 20 = .ok (.goto 4, 3) := by decide +kernel
theorem dX4_noRow_24 : decode cX4_noRow 24 = .ok (.ireturn, 1) := by decide +kernel
set_option maxRecDepth 20000 in
theorem ggX4_noBelief_X4_noRow : GoodIn wsX4_noBelief wsX4_noRow := goodIn_r _ [6, 7, 24, 25, 26] (by decide +kernel) (by decide +kernel)
set_option maxRecDepth 20000 in
theorem gX4_noBelief_X4_noRow : GoodIn wsX4_noBelief (wsV RX4 28 RX4 yX4_noRow wsX4_noRow) := goodIn_app (goodIn_of _ (by decide +kernel)) ggX4_noBelief_X4_noRow
theorem dX4_noBelief_0 : decode cX4_noBelief 0 = .ok (.aload_n 0, 1) := by decide +kernel
theorem dX4_noBelief_1 : decode cX4_noBelief 1 = .ok (.invokevirtual 28, 3) := by decide +kernel
theorem dX4_noBelief_4 : decode cX4_noBelief 4 = .ok (.istore_n 1, 1) := by decide +kernel
theorem dX4_noBelief_5 : decode cX4_noBelief 5 = .ok (.iload_n 1, 1) := by decide +kernel
theorem dX4_noBelief_6 : decode cX4_noBelief 6 = .ok (.ifCond .eq 5, 3) := by decide +kernel
theorem dX4_noBelief_9 : decode cX4_noBelief 9 = .ok (.iload_n 1, 1) := by decide +kernel
theorem dX4_noBelief_10 : decode cX4_noBelief 10 = .ok (.ireturn, 1) := by decide +kernel
set_option maxRecDepth 20000 in
theorem ggX4_noTelling_X4_noRow : GoodIn wsX4_noTelling wsX4_noRow := goodIn_r _ [6, 7, 8, 9, 10] (by decide +kernel) (by decide +kernel)
set_option maxRecDepth 20000 in
theorem gX4_noTelling_X4_noRow : GoodIn wsX4_noTelling (wsV RX4 28 RX4 yX4_noRow wsX4_noRow) := goodIn_app (goodIn_of _ (by decide +kernel)) ggX4_noTelling_X4_noRow
theorem dX4_noTelling_0 : decode cX4_noTelling 0 = .ok (.aload_n 0, 1) := by decide +kernel
theorem dX4_noTelling_1 : decode cX4_noTelling 1 = .ok (.invokevirtual 28, 3) := by decide +kernel
theorem dX4_noTelling_4 : decode cX4_noTelling 4 = .ok (.istore_n 2, 1) := by decide +kernel
theorem dX4_noTelling_5 : decode cX4_noTelling 5 = .ok (.iload_n 2, 1) := by decide +kernel
theorem dX4_noTelling_6 : decode cX4_noTelling 6 = .ok (.ifCond .eq 5, 3) := by decide +kernel
theorem dX4_noTelling_9 : decode cX4_noTelling 9 = .ok (.iload_n 2, 1) := by decide +kernel
theorem dX4_noTelling_10 : decode cX4_noTelling 10 = .ok (.ireturn, 1) := by decide +kernel
set_option maxRecDepth 20000 in
theorem ggX5_look_J7_fill_53178 : GoodIn wsX5_look wsJ7_fill_53178 := goodIn_r _ [33] (by decide +kernel) (by decide +kernel)
set_option maxRecDepth 20000 in
theorem gX5_look_J7_fill_53178 : GoodIn wsX5_look (va_wsS RX5 65 yJ7_fill_53178 wsJ7_fill_53178) := goodIn_app (goodIn_of _ (by decide +kernel)) ggX5_look_J7_fill_53178
theorem dX5_look_0 : decode cX5_look 0 = .ok (.aload_n 0, 1) := by decide +kernel
theorem dX5_look_1 : decode cX5_look 1 = .ok (.aload_n 1, 1) := by decide +kernel
theorem dX5_look_2 : decode cX5_look 2 = .ok (.getfield 37, 3) := by decide +kernel
theorem dX5_look_5 : decode cX5_look 5 = .ok (.putfield 27, 3) := by decide +kernel
theorem dX5_look_8 : decode cX5_look 8 = .ok (.aload_n 0, 1) := by decide +kernel
theorem dX5_look_9 : decode cX5_look 9 = .ok (.iload_n 2, 1) := by decide +kernel
theorem dX5_look_10 : decode cX5_look 10 = .ok (.putfield 31, 3) := by decide +kernel
theorem dX5_look_13 : decode cX5_look 13 = .ok (.aload_n 0, 1) := by decide +kernel
theorem dX5_look_14 : decode cX5_look 14 = .ok (.iconst 0, 1) := by decide +kernel
theorem dX5_look_15 : decode cX5_look 15 = .ok (.putfield 34, 3) := by decide +kernel
theorem dX5_look_18 : decode cX5_look 18 = .ok (.iconst 0, 1) := by decide +kernel
theorem dX5_look_19 : decode cX5_look 19 = .ok (.istore 4, 2) := by decide +kernel
theorem dX5_look_21 : decode cX5_look 21 = .ok (.iload 4, 2) := by decide +kernel
theorem dX5_look_23 : decode cX5_look 23 = .ok (.aload_n 0, 1) := by decide +kernel
theorem dX5_look_24 : decode cX5_look 24 = .ok (.getfield 27, 3) := by decide +kernel
theorem dX5_look_27 : decode cX5_look 27 = .ok (.if_icmp .ge 95, 3) := by decide +kernel
theorem dX5_look_122 : decode cX5_look 122 = .ok (.aload_n 1, 1) := by decide +kernel
theorem dX5_look_123 : decode cX5_look 123 = .ok (.getfield 58, 3) := by decide +kernel
theorem dX5_look_126 : decode cX5_look 126 = .ok (.iconst 0, 1) := by decide +kernel
theorem dX5_look_127 : decode cX5_look 127 = .ok (.aload_n 0, 1) := by decide +kernel
theorem dX5_look_128 : decode cX5_look 128 = .ok (.getfield 18, 3) := by decide +kernel
theorem dX5_look_131 : decode cX5_look 131 = .ok (.iconst 0, 1) := by decide +kernel
theorem dX5_look_132 : decode cX5_look 132 = .ok (.iconst 3, 1) := by decide +kernel
theorem dX5_look_133 : decode cX5_look 133 = .ok (.invokestatic 59, 3) := by decide +kernel
theorem dX5_look_136 : decode cX5_look 136 = .ok (.aload_n 0, 1) := by decide +kernel
theorem dX5_look_137 : decode cX5_look 137 = .ok (.getfield 9, 3) := by decide +kernel
theorem dX5_look_140 : decode cX5_look 140 = .ok (.iconst (-1), 1) := by decide +kernel
theorem dX5_look_141 : decode cX5_look 141 = .ok (.invokestatic 65, 3) := by decide +kernel
theorem dX5_look_144 : decode cX5_look 144 = .ok (.aload_n 0, 1) := by decide +kernel
theorem dX5_look_145 : decode cX5_look 145 = .ok (.getfield 15, 3) := by decide +kernel
theorem dX5_look_148 : decode cX5_look 148 = .ok (.iconst (-1), 1) := by decide +kernel
theorem dX5_look_149 : decode cX5_look 149 = .ok (.invokestatic 65, 3) := by decide +kernel
theorem dX5_look_152 : decode cX5_look 152 = .ok (.return_, 1) := by decide +kernel
theorem dX5_most_0 : decode cX5_most 0 = .ok (.iload_n 1, 1) := by decide +kernel
theorem dX5_most_1 : decode cX5_most 1 = .ok (.ifCond .lt 18, 3) := by decide +kernel
theorem dX5_most_4 : decode cX5_most 4 = .ok (.iload_n 1, 1) := by decide +kernel
theorem dX5_most_5 : decode cX5_most 5 = .ok (.iconst 4, 1) := by decide +kernel
theorem dX5_most_6 : decode cX5_most 6 = .ok (.if_icmp .gt 13, 3) := by decide +kernel
theorem dX5_most_9 : decode cX5_most 9 = .ok (.iload_n 2, 1) := by decide +kernel
theorem dX5_most_10 : decode cX5_most 10 = .ok (.ifCond .lt 9, 3) := by decide +kernel
theorem dX5_most_13 : decode cX5_most 13 = .ok (.iload_n 2, 1) := by decide +kernel
theorem dX5_most_14 : decode cX5_most 14 = .ok (.bipush 24, 2) := by decide +kernel
theorem dX5_most_16 : decode cX5_most 16 = .ok (.if_icmp .le 5, 3) := by decide +kernel
theorem dX5_most_21 : decode cX5_most 21 = .ok (.iload_n 2, 1) := by decide +kernel
theorem dX5_most_22 : decode cX5_most 22 = .ok (.ifCond .eq 7, 3) := by decide +kernel
theorem dX5_most_29 : decode cX5_most 29 = .ok (.iload_n 2, 1) := by decide +kernel
theorem dX5_most_30 : decode cX5_most 30 = .ok (.ifCond .ne 11, 3) := by decide +kernel
theorem dX5_most_33 : decode cX5_most 33 = .ok (.getstatic 79, 3) := by decide +kernel
theorem dX5_most_36 : decode cX5_most 36 = .ok (.iload_n 1, 1) := by decide +kernel
theorem dX5_most_37 : decode cX5_most 37 = .ok (.iaload, 1) := by decide +kernel
theorem dX5_most_38 : decode cX5_most 38 = .ok (.goto 4, 3) := by decide +kernel
theorem dX5_most_42 : decode cX5_most 42 = .ok (.ireturn, 1) := by decide +kernel
theorem dX5_next_0 : decode cX5_next 0 = .ok (.iconst (-1), 1) := by decide +kernel
theorem dX5_next_1 : decode cX5_next 1 = .ok (.istore 4, 2) := by decide +kernel
theorem dX5_next_3 : decode cX5_next 3 = .ok (.iconst (-1), 1) := by decide +kernel
theorem dX5_next_4 : decode cX5_next 4 = .ok (.istore 5, 2) := by decide +kernel
theorem dX5_next_6 : decode cX5_next 6 = .ok (.iconst 0, 1) := by decide +kernel
theorem dX5_next_7 : decode cX5_next 7 = .ok (.istore 6, 2) := by decide +kernel
theorem dX5_next_9 : decode cX5_next 9 = .ok (.iload 6, 2) := by decide +kernel
theorem dX5_next_11 : decode cX5_next 11 = .ok (.aload_n 0, 1) := by decide +kernel
theorem dX5_next_12 : decode cX5_next 12 = .ok (.getfield 27, 3) := by decide +kernel
theorem dX5_next_15 : decode cX5_next 15 = .ok (.if_icmp .ge 58, 3) := by decide +kernel
theorem dX5_next_73 : decode cX5_next 73 = .ok (.iload 4, 2) := by decide +kernel
theorem dX5_next_75 : decode cX5_next 75 = .ok (.ireturn, 1) := by decide +kernel
theorem dX5_least_0 : decode cX5_least 0 = .ok (.iload_n 1, 1) := by decide +kernel
theorem dX5_least_1 : decode cX5_least 1 = .ok (.ifCond .lt 19, 3) := by decide +kernel
theorem dX5_least_4 : decode cX5_least 4 = .ok (.iload_n 1, 1) := by decide +kernel
theorem dX5_least_5 : decode cX5_least 5 = .ok (.iconst 4, 1) := by decide +kernel
theorem dX5_least_6 : decode cX5_least 6 = .ok (.if_icmp .gt 14, 3) := by decide +kernel
theorem dX5_least_9 : decode cX5_least 9 = .ok (.iload_n 2, 1) := by decide +kernel
theorem dX5_least_10 : decode cX5_least 10 = .ok (.iconst 1, 1) := by decide +kernel
theorem dX5_least_11 : decode cX5_least 11 = .ok (.if_icmp .lt 9, 3) := by decide +kernel
theorem dX5_least_20 : decode cX5_least 20 = .ok (.iconst 0, 1) := by decide +kernel
theorem dX5_least_21 : decode cX5_least 21 = .ok (.ireturn, 1) := by decide +kernel
theorem dX5_first_0 : decode cX5_first 0 = .ok (.iload_n 2, 1) := by decide +kernel
theorem dX5_first_1 : decode cX5_first 1 = .ok (.ifCond .ne 5, 3) := by decide +kernel
theorem dX5_first_4 : decode cX5_first 4 = .ok (.iconst (-1), 1) := by decide +kernel
theorem dX5_first_5 : decode cX5_first 5 = .ok (.ireturn, 1) := by decide +kernel
theorem dX6_renew_0 : decode cX6_renew 0 = .ok (.aload_n 0, 1) := by decide +kernel
theorem dX6_renew_1 : decode cX6_renew 1 = .ok (.iload_n 1, 1) := by decide +kernel
theorem dX6_renew_2 : decode cX6_renew 2 = .ok (.putfield 19, 3) := by decide +kernel
theorem dX6_renew_5 : decode cX6_renew 5 = .ok (.aload_n 0, 1) := by decide +kernel
theorem dX6_renew_6 : decode cX6_renew 6 = .ok (.iconst 0, 1) := by decide +kernel
theorem dX6_renew_7 : decode cX6_renew 7 = .ok (.putfield 23, 3) := by decide +kernel
theorem dX6_renew_10 : decode cX6_renew 10 = .ok (.iconst 0, 1) := by decide +kernel
theorem dX6_renew_11 : decode cX6_renew 11 = .ok (.istore_n 2, 1) := by decide +kernel
theorem dX6_renew_12 : decode cX6_renew 12 = .ok (.iload_n 2, 1) := by decide +kernel
theorem dX6_renew_13 : decode cX6_renew 13 = .ok (.bipush 40, 2) := by decide +kernel
theorem dX6_renew_15 : decode cX6_renew 15 = .ok (.if_icmp .ge 23, 3) := by decide +kernel
theorem dX6_renew_18 : decode cX6_renew 18 = .ok (.aload_n 0, 1) := by decide +kernel
theorem dX6_renew_19 : decode cX6_renew 19 = .ok (.getfield 9, 3) := by decide +kernel
theorem dX6_renew_22 : decode cX6_renew 22 = .ok (.iload_n 2, 1) := by decide +kernel
theorem dX6_renew_23 : decode cX6_renew 23 = .ok (.iconst 0, 1) := by decide +kernel
theorem dX6_renew_24 : decode cX6_renew 24 = .ok (.bastore, 1) := by decide +kernel
theorem dX6_renew_25 : decode cX6_renew 25 = .ok (.aload_n 0, 1) := by decide +kernel
theorem dX6_renew_26 : decode cX6_renew 26 = .ok (.getfield 15, 3) := by decide +kernel
theorem dX6_renew_29 : decode cX6_renew 29 = .ok (.iload_n 2, 1) := by decide +kernel
theorem dX6_renew_30 : decode cX6_renew 30 = .ok (.iconst 0, 1) := by decide +kernel
theorem dX6_renew_31 : decode cX6_renew 31 = .ok (.iastore, 1) := by decide +kernel
theorem dX6_renew_32 : decode cX6_renew 32 = .ok (.iinc 2 1, 3) := by decide +kernel
theorem dX6_renew_35 : decode cX6_renew 35 = .ok (.goto (-23), 3) := by decide +kernel
theorem dX6_renew_38 : decode cX6_renew 38 = .ok (.return_, 1) := by decide +kernel
theorem dX6_become_0 : decode cX6_become 0 = .ok (.iconst 0, 1) := by decide +kernel
theorem dX6_become_1 : decode cX6_become 1 = .ok (.istore_n 2, 1) := by decide +kernel
theorem dX6_become_2 : decode cX6_become 2 = .ok (.iload_n 2, 1) := by decide +kernel
theorem dX6_become_3 : decode cX6_become 3 = .ok (.bipush 40, 2) := by decide +kernel
theorem dX6_become_5 : decode cX6_become 5 = .ok (.if_icmp .ge 33, 3) := by decide +kernel
theorem dX6_become_8 : decode cX6_become 8 = .ok (.aload_n 0, 1) := by decide +kernel
theorem dX6_become_9 : decode cX6_become 9 = .ok (.getfield 9, 3) := by decide +kernel
theorem dX6_become_12 : decode cX6_become 12 = .ok (.iload_n 2, 1) := by decide +kernel
theorem dX6_become_13 : decode cX6_become 13 = .ok (.aload_n 1, 1) := by decide +kernel
theorem dX6_become_14 : decode cX6_become 14 = .ok (.getfield 9, 3) := by decide +kernel
theorem dX6_become_17 : decode cX6_become 17 = .ok (.iload_n 2, 1) := by decide +kernel
theorem dX6_become_18 : decode cX6_become 18 = .ok (.baload, 1) := by decide +kernel
theorem dX6_become_19 : decode cX6_become 19 = .ok (.bastore, 1) := by decide +kernel
theorem dX6_become_20 : decode cX6_become 20 = .ok (.aload_n 0, 1) := by decide +kernel
theorem dX6_become_21 : decode cX6_become 21 = .ok (.getfield 15, 3) := by decide +kernel
theorem dX6_become_24 : decode cX6_become 24 = .ok (.iload_n 2, 1) := by decide +kernel
theorem dX6_become_25 : decode cX6_become 25 = .ok (.aload_n 1, 1) := by decide +kernel
theorem dX6_become_26 : decode cX6_become 26 = .ok (.getfield 15, 3) := by decide +kernel
theorem dX6_become_29 : decode cX6_become 29 = .ok (.iload_n 2, 1) := by decide +kernel
theorem dX6_become_30 : decode cX6_become 30 = .ok (.iaload, 1) := by decide +kernel
theorem dX6_become_31 : decode cX6_become 31 = .ok (.iastore, 1) := by decide +kernel
theorem dX6_become_32 : decode cX6_become 32 = .ok (.iinc 2 1, 3) := by decide +kernel
theorem dX6_become_35 : decode cX6_become 35 = .ok (.goto (-33), 3) := by decide +kernel
theorem dX6_become_38 : decode cX6_become 38 = .ok (.aload_n 0, 1) := by decide +kernel
theorem dX6_become_39 : decode cX6_become 39 = .ok (.aload_n 1, 1) := by decide +kernel
theorem dX6_become_40 : decode cX6_become 40 = .ok (.getfield 19, 3) := by decide +kernel
theorem dX6_become_43 : decode cX6_become 43 = .ok (.putfield 19, 3) := by decide +kernel
theorem dX6_become_46 : decode cX6_become 46 = .ok (.aload_n 0, 1) := by decide +kernel
theorem dX6_become_47 : decode cX6_become 47 = .ok (.aload_n 1, 1) := by decide +kernel
theorem dX6_become_48 : decode cX6_become 48 = .ok (.getfield 23, 3) := by decide +kernel
theorem dX6_become_51 : decode cX6_become 51 = .ok (.putfield 23, 3) := by decide +kernel
theorem dX6_become_54 : decode cX6_become 54 = .ok (.aload_n 0, 1) := by decide +kernel
theorem dX6_become_55 : decode cX6_become 55 = .ok (.aload_n 1, 1) := by decide +kernel
theorem dX6_become_56 : decode cX6_become 56 = .ok (.getfield 26, 3) := by decide +kernel
theorem dX6_become_59 : decode cX6_become 59 = .ok (.putfield 26, 3) := by decide +kernel
theorem dX6_become_62 : decode cX6_become 62 = .ok (.return_, 1) := by decide +kernel
theorem dX6_has_0 : decode cX6_has 0 = .ok (.iload_n 1, 1) := by decide +kernel
theorem dX6_has_1 : decode cX6_has 1 = .ok (.ifCond .lt 15, 3) := by decide +kernel
theorem dX6_has_4 : decode cX6_has 4 = .ok (.iload_n 1, 1) := by decide +kernel
theorem dX6_has_5 : decode cX6_has 5 = .ok (.aload_n 0, 1) := by decide +kernel
theorem dX6_has_6 : decode cX6_has 6 = .ok (.getfield 19, 3) := by decide +kernel
theorem dX6_has_9 : decode cX6_has 9 = .ok (.if_icmp .ge 7, 3) := by decide +kernel
theorem dX6_has_12 : decode cX6_has 12 = .ok (.iconst 1, 1) := by decide +kernel
theorem dX6_has_13 : decode cX6_has 13 = .ok (.goto 4, 3) := by decide +kernel
theorem dX6_has_16 : decode cX6_has 16 = .ok (.iconst 0, 1) := by decide +kernel
theorem dX6_has_17 : decode cX6_has 17 = .ok (.ireturn, 1) := by decide +kernel
set_option maxRecDepth 20000 in
theorem ggX6_lacksAt_X6_has : GoodIn wsX6_lacksAt wsX6_has := goodIn_r _ [6, 7, 8, 9, 10, 11, 12] (by decide +kernel) (by decide +kernel)
set_option maxRecDepth 20000 in
theorem gX6_lacksAt_X6_has : GoodIn wsX6_lacksAt (wsV RX6 29 RX6 yX6_has wsX6_has) := goodIn_app (goodIn_of _ (by decide +kernel)) ggX6_lacksAt_X6_has
theorem dX6_lacksAt_0 : decode cX6_lacksAt 0 = .ok (.aload_n 0, 1) := by decide +kernel
theorem dX6_lacksAt_1 : decode cX6_lacksAt 1 = .ok (.iload_n 1, 1) := by decide +kernel
theorem dX6_lacksAt_2 : decode cX6_lacksAt 2 = .ok (.invokevirtual 29, 3) := by decide +kernel
theorem dX6_lacksAt_5 : decode cX6_lacksAt 5 = .ok (.ifCond .eq 16, 3) := by decide +kernel
theorem dX6_lacksAt_8 : decode cX6_lacksAt 8 = .ok (.aload_n 0, 1) := by decide +kernel
theorem dX6_lacksAt_9 : decode cX6_lacksAt 9 = .ok (.getfield 9, 3) := by decide +kernel
theorem dX6_lacksAt_12 : decode cX6_lacksAt 12 = .ok (.iload_n 1, 1) := by decide +kernel
theorem dX6_lacksAt_13 : decode cX6_lacksAt 13 = .ok (.baload, 1) := by decide +kernel
theorem dX6_lacksAt_14 : decode cX6_lacksAt 14 = .ok (.ifCond .eq 7, 3) := by decide +kernel
theorem dX6_lacksAt_21 : decode cX6_lacksAt 21 = .ok (.iconst 0, 1) := by decide +kernel
theorem dX6_lacksAt_22 : decode cX6_lacksAt 22 = .ok (.ireturn, 1) := by decide +kernel
set_option maxRecDepth 20000 in
theorem ggX6_catchesAt_X6_has : GoodIn wsX6_catchesAt wsX6_has := goodIn_r _ [8, 9, 10, 11, 12, 13, 14] (by decide +kernel) (by decide +kernel)
set_option maxRecDepth 20000 in
theorem gX6_catchesAt_X6_has : GoodIn wsX6_catchesAt (wsV RX6 29 RX6 yX6_has wsX6_has) := goodIn_app (goodIn_of _ (by decide +kernel)) ggX6_catchesAt_X6_has
theorem dX6_catchesAt_0 : decode cX6_catchesAt 0 = .ok (.aload_n 0, 1) := by decide +kernel
theorem dX6_catchesAt_1 : decode cX6_catchesAt 1 = .ok (.iload_n 1, 1) := by decide +kernel
theorem dX6_catchesAt_2 : decode cX6_catchesAt 2 = .ok (.invokevirtual 29, 3) := by decide +kernel
theorem dX6_catchesAt_5 : decode cX6_catchesAt 5 = .ok (.ifCond .eq 29, 3) := by decide +kernel
theorem dX6_catchesAt_8 : decode cX6_catchesAt 8 = .ok (.aload_n 0, 1) := by decide +kernel
theorem dX6_catchesAt_9 : decode cX6_catchesAt 9 = .ok (.getfield 9, 3) := by decide +kernel
theorem dX6_catchesAt_12 : decode cX6_catchesAt 12 = .ok (.iload_n 1, 1) := by decide +kernel
theorem dX6_catchesAt_13 : decode cX6_catchesAt 13 = .ok (.baload, 1) := by decide +kernel
theorem dX6_catchesAt_14 : decode cX6_catchesAt 14 = .ok (.ifCond .ne 20, 3) := by decide +kernel
theorem dX6_catchesAt_17 : decode cX6_catchesAt 17 = .ok (.aload_n 0, 1) := by decide +kernel
theorem dX6_catchesAt_18 : decode cX6_catchesAt 18 = .ok (.getfield 15, 3) := by decide +kernel
theorem dX6_catchesAt_21 : decode cX6_catchesAt 21 = .ok (.iload_n 1, 1) := by decide +kernel
theorem dX6_catchesAt_22 : decode cX6_catchesAt 22 = .ok (.iaload, 1) := by decide +kernel
theorem dX6_catchesAt_23 : decode cX6_catchesAt 23 = .ok (.aload_n 0, 1) := by decide +kernel
theorem dX6_catchesAt_24 : decode cX6_catchesAt 24 = .ok (.getfield 26, 3) := by decide +kernel
theorem dX6_catchesAt_27 : decode cX6_catchesAt 27 = .ok (.if_icmp .lt 7, 3) := by decide +kernel
theorem dX6_catchesAt_34 : decode cX6_catchesAt 34 = .ok (.iconst 0, 1) := by decide +kernel
theorem dX6_catchesAt_35 : decode cX6_catchesAt 35 = .ok (.ireturn, 1) := by decide +kernel
set_option maxRecDepth 20000 in
theorem ggX6_lacksThreeFrom_X6_lacksAt : GoodIn wsX6_lacksThreeFrom wsX6_lacksAt := goodIn_r _ [5, 6, 7, 8, 9, 4, 10, 11, 12, 13, 14, 15, 16] (by decide +kernel) (by decide +kernel)
set_option maxRecDepth 20000 in
theorem gX6_lacksThreeFrom_X6_lacksAt : GoodIn wsX6_lacksThreeFrom (wsV RX6 33 RX6 yX6_lacksAt wsX6_lacksAt) := goodIn_app (goodIn_of _ (by decide +kernel)) ggX6_lacksThreeFrom_X6_lacksAt
theorem dX6_lacksThreeFrom_0 : decode cX6_lacksThreeFrom 0 = .ok (.aload_n 0, 1) := by decide +kernel
theorem dX6_lacksThreeFrom_1 : decode cX6_lacksThreeFrom 1 = .ok (.iload_n 1, 1) := by decide +kernel
theorem dX6_lacksThreeFrom_2 : decode cX6_lacksThreeFrom 2 = .ok (.invokevirtual 33, 3) := by decide +kernel
theorem dX6_lacksThreeFrom_5 : decode cX6_lacksThreeFrom 5 = .ok (.ifCond .eq 27, 3) := by decide +kernel
theorem dX6_lacksThreeFrom_32 : decode cX6_lacksThreeFrom 32 = .ok (.iconst 0, 1) := by decide +kernel
theorem dX6_lacksThreeFrom_33 : decode cX6_lacksThreeFrom 33 = .ok (.ireturn, 1) := by decide +kernel
set_option maxRecDepth 20000 in
theorem ggX6_isStrong_X6_lacksThreeFrom : GoodIn wsX6_isStrong wsX6_lacksThreeFrom := goodIn_r _ [6, 7, 8, 9, 5, 10, 11, 12, 13, 14, 15, 1, 16, 17, 18, 19, 20] (by decide +kernel) (by decide +kernel)
set_option maxRecDepth 20000 in
theorem gX6_isStrong_X6_lacksThreeFrom : GoodIn wsX6_isStrong (wsV RX6 36 RX6 yX6_lacksThreeFrom wsX6_lacksThreeFrom) := goodIn_app (goodIn_of _ (by decide +kernel)) ggX6_isStrong_X6_lacksThreeFrom
theorem dX6_isStrong_0 : decode cX6_isStrong 0 = .ok (.iconst 0, 1) := by decide +kernel
theorem dX6_isStrong_1 : decode cX6_isStrong 1 = .ok (.istore_n 1, 1) := by decide +kernel
theorem dX6_isStrong_2 : decode cX6_isStrong 2 = .ok (.iload_n 1, 1) := by decide +kernel
theorem dX6_isStrong_3 : decode cX6_isStrong 3 = .ok (.aload_n 0, 1) := by decide +kernel
theorem dX6_isStrong_4 : decode cX6_isStrong 4 = .ok (.getfield 19, 3) := by decide +kernel
theorem dX6_isStrong_7 : decode cX6_isStrong 7 = .ok (.if_icmp .ge 19, 3) := by decide +kernel
theorem dX6_isStrong_10 : decode cX6_isStrong 10 = .ok (.aload_n 0, 1) := by decide +kernel
theorem dX6_isStrong_11 : decode cX6_isStrong 11 = .ok (.iload_n 1, 1) := by decide +kernel
theorem dX6_isStrong_12 : decode cX6_isStrong 12 = .ok (.invokevirtual 36, 3) := by decide +kernel
theorem dX6_isStrong_15 : decode cX6_isStrong 15 = .ok (.ifCond .eq 5, 3) := by decide +kernel
theorem dX6_isStrong_20 : decode cX6_isStrong 20 = .ok (.iinc 1 1, 3) := by decide +kernel
theorem dX6_isStrong_23 : decode cX6_isStrong 23 = .ok (.goto (-21), 3) := by decide +kernel
theorem dX6_isStrong_26 : decode cX6_isStrong 26 = .ok (.iconst 1, 1) := by decide +kernel
theorem dX6_isStrong_27 : decode cX6_isStrong 27 = .ok (.ireturn, 1) := by decide +kernel
set_option maxRecDepth 20000 in
theorem ggX6_frailTeeth_X6_isStrong : GoodIn wsX6_frailTeeth wsX6_isStrong := goodIn_r _ [7, 1, 8, 9, 10, 6, 11, 12, 13, 14, 15, 2, 16, 17, 18, 19, 24, 25, 26, 27, 28] (by decide +kernel) (by decide +kernel)
set_option maxRecDepth 20000 in
theorem gX6_frailTeeth_X6_isStrong : GoodIn wsX6_frailTeeth (wsV RX6 39 RX6 yX6_isStrong wsX6_isStrong) := goodIn_app (goodIn_of _ (by decide +kernel)) ggX6_frailTeeth_X6_isStrong
set_option maxRecDepth 20000 in
theorem ggX6_frailTeeth_X6_isFrail : GoodIn wsX6_frailTeeth wsX6_isFrail := goodIn_r _ [23, 12, 13, 14, 6, 15, 2, 16, 17, 18, 19, 1, 24, 25, 26, 27, 28] (by decide +kernel) (by decide +kernel)
set_option maxRecDepth 20000 in
theorem gX6_frailTeeth_X6_isFrail : GoodIn wsX6_frailTeeth (wsV RX6 43 RX6 yX6_isFrail wsX6_isFrail) := goodIn_app (goodIn_of _ (by decide +kernel)) ggX6_frailTeeth_X6_isFrail
theorem dX6_frailTeeth_0 : decode cX6_frailTeeth 0 = .ok (.aload_n 0, 1) := by decide +kernel
theorem dX6_frailTeeth_1 : decode cX6_frailTeeth 1 = .ok (.invokevirtual 39, 3) := by decide +kernel
theorem dX6_frailTeeth_4 : decode cX6_frailTeeth 4 = .ok (.ifCond .ne 5, 3) := by decide +kernel
theorem dX6_frailTeeth_9 : decode cX6_frailTeeth 9 = .ok (.iconst 0, 1) := by decide +kernel
theorem dX6_frailTeeth_10 : decode cX6_frailTeeth 10 = .ok (.istore_n 1, 1) := by decide +kernel
theorem dX6_frailTeeth_11 : decode cX6_frailTeeth 11 = .ok (.iconst 0, 1) := by decide +kernel
theorem dX6_frailTeeth_12 : decode cX6_frailTeeth 12 = .ok (.istore_n 2, 1) := by decide +kernel
theorem dX6_frailTeeth_13 : decode cX6_frailTeeth 13 = .ok (.iload_n 2, 1) := by decide +kernel
theorem dX6_frailTeeth_14 : decode cX6_frailTeeth 14 = .ok (.aload_n 0, 1) := by decide +kernel
theorem dX6_frailTeeth_15 : decode cX6_frailTeeth 15 = .ok (.getfield 19, 3) := by decide +kernel
theorem dX6_frailTeeth_18 : decode cX6_frailTeeth 18 = .ok (.if_icmp .ge 29, 3) := by decide +kernel
theorem dX6_frailTeeth_21 : decode cX6_frailTeeth 21 = .ok (.aload_n 0, 1) := by decide +kernel
theorem dX6_frailTeeth_22 : decode cX6_frailTeeth 22 = .ok (.getfield 9, 3) := by decide +kernel
theorem dX6_frailTeeth_25 : decode cX6_frailTeeth 25 = .ok (.iload_n 2, 1) := by decide +kernel
theorem dX6_frailTeeth_26 : decode cX6_frailTeeth 26 = .ok (.baload, 1) := by decide +kernel
theorem dX6_frailTeeth_27 : decode cX6_frailTeeth 27 = .ok (.ifCond .ne 14, 3) := by decide +kernel
theorem dX6_frailTeeth_30 : decode cX6_frailTeeth 30 = .ok (.aload_n 0, 1) := by decide +kernel
theorem dX6_frailTeeth_31 : decode cX6_frailTeeth 31 = .ok (.iload_n 2, 1) := by decide +kernel
theorem dX6_frailTeeth_32 : decode cX6_frailTeeth 32 = .ok (.invokevirtual 43, 3) := by decide +kernel
theorem dX6_frailTeeth_35 : decode cX6_frailTeeth 35 = .ok (.ifCond .eq 6, 3) := by decide +kernel
theorem dX6_frailTeeth_41 : decode cX6_frailTeeth 41 = .ok (.iinc 2 1, 3) := by decide +kernel
theorem dX6_frailTeeth_44 : decode cX6_frailTeeth 44 = .ok (.goto (-31), 3) := by decide +kernel
theorem dX6_frailTeeth_47 : decode cX6_frailTeeth 47 = .ok (.iload_n 1, 1) := by decide +kernel
theorem dX6_frailTeeth_48 : decode cX6_frailTeeth 48 = .ok (.ireturn, 1) := by decide +kernel
set_option maxRecDepth 20000 in
theorem ggX6_isFrail_X6_lacksAt : GoodIn wsX6_isFrail wsX6_lacksAt := goodIn_r _ [5, 6, 7, 8, 9, 4, 10, 11, 12, 13, 14, 15, 16] (by decide +kernel) (by decide +kernel)
set_option maxRecDepth 20000 in
theorem gX6_isFrail_X6_lacksAt : GoodIn wsX6_isFrail (wsV RX6 33 RX6 yX6_lacksAt wsX6_lacksAt) := goodIn_app (goodIn_of _ (by decide +kernel)) ggX6_isFrail_X6_lacksAt
theorem dX6_isFrail_0 : decode cX6_isFrail 0 = .ok (.aload_n 0, 1) := by decide +kernel
theorem dX6_isFrail_1 : decode cX6_isFrail 1 = .ok (.iload_n 1, 1) := by decide +kernel
theorem dX6_isFrail_2 : decode cX6_isFrail 2 = .ok (.iconst 1, 1) := by decide +kernel
theorem dX6_isFrail_3 : decode cX6_isFrail 3 = .ok (.isub, 1) := by decide +kernel
theorem dX6_isFrail_4 : decode cX6_isFrail 4 = .ok (.invokevirtual 33, 3) := by decide +kernel
theorem dX6_isFrail_7 : decode cX6_isFrail 7 = .ok (.istore_n 2, 1) := by decide +kernel
theorem dX6_isFrail_8 : decode cX6_isFrail 8 = .ok (.aload_n 0, 1) := by decide +kernel
theorem dX6_isFrail_9 : decode cX6_isFrail 9 = .ok (.iload_n 1, 1) := by decide +kernel
theorem dX6_isFrail_10 : decode cX6_isFrail 10 = .ok (.iconst 1, 1) := by decide +kernel
theorem dX6_isFrail_11 : decode cX6_isFrail 11 = .ok (.iadd, 1) := by decide +kernel
theorem dX6_isFrail_12 : decode cX6_isFrail 12 = .ok (.invokevirtual 33, 3) := by decide +kernel
theorem dX6_isFrail_15 : decode cX6_isFrail 15 = .ok (.istore_n 3, 1) := by decide +kernel
theorem dX6_isFrail_16 : decode cX6_isFrail 16 = .ok (.iload_n 2, 1) := by decide +kernel
theorem dX6_isFrail_17 : decode cX6_isFrail 17 = .ok (.ifCond .eq 13, 3) := by decide +kernel
theorem dX6_isFrail_30 : decode cX6_isFrail 30 = .ok (.iload_n 2, 1) := by decide +kernel
theorem dX6_isFrail_31 : decode cX6_isFrail 31 = .ok (.ifCond .eq 7, 3) := by decide +kernel
theorem dX6_isFrail_38 : decode cX6_isFrail 38 = .ok (.iload_n 3, 1) := by decide +kernel
theorem dX6_isFrail_39 : decode cX6_isFrail 39 = .ok (.ifCond .eq 17, 3) := by decide +kernel
theorem dX6_isFrail_56 : decode cX6_isFrail 56 = .ok (.iconst 0, 1) := by decide +kernel
theorem dX6_isFrail_57 : decode cX6_isFrail 57 = .ok (.ireturn, 1) := by decide +kernel
set_option maxRecDepth 20000 in
theorem ggX6_spareTeeth_X6_isStrong : GoodIn wsX6_spareTeeth wsX6_isStrong := goodIn_r _ [11, 1, 12, 13, 14, 10, 15, 16, 17, 18, 19, 2, 20, 21, 22, 23, 24, 25, 26, 27, 28] (by decide +kernel) (by decide +kernel)
set_option maxRecDepth 20000 in
theorem gX6_spareTeeth_X6_isStrong : GoodIn wsX6_spareTeeth (wsV RX6 39 RX6 yX6_isStrong wsX6_isStrong) := goodIn_app (goodIn_of _ (by decide +kernel)) ggX6_spareTeeth_X6_isStrong
theorem dX6_spareTeeth_0 : decode cX6_spareTeeth 0 = .ok (.aload_n 0, 1) := by decide +kernel
theorem dX6_spareTeeth_1 : decode cX6_spareTeeth 1 = .ok (.invokevirtual 39, 3) := by decide +kernel
theorem dX6_spareTeeth_4 : decode cX6_spareTeeth 4 = .ok (.ifCond .ne 5, 3) := by decide +kernel
theorem dX6_spareTeeth_9 : decode cX6_spareTeeth 9 = .ok (.bipush (-41), 2) := by decide +kernel
theorem dX6_spareTeeth_11 : decode cX6_spareTeeth 11 = .ok (.istore_n 1, 1) := by decide +kernel
theorem dX6_spareTeeth_12 : decode cX6_spareTeeth 12 = .ok (.iconst 0, 1) := by decide +kernel
theorem dX6_spareTeeth_13 : decode cX6_spareTeeth 13 = .ok (.istore_n 2, 1) := by decide +kernel
theorem dX6_spareTeeth_14 : decode cX6_spareTeeth 14 = .ok (.iload_n 1, 1) := by decide +kernel
theorem dX6_spareTeeth_15 : decode cX6_spareTeeth 15 = .ok (.istore_n 3, 1) := by decide +kernel
theorem dX6_spareTeeth_16 : decode cX6_spareTeeth 16 = .ok (.iload_n 1, 1) := by decide +kernel
theorem dX6_spareTeeth_17 : decode cX6_spareTeeth 17 = .ok (.istore 4, 2) := by decide +kernel
theorem dX6_spareTeeth_19 : decode cX6_spareTeeth 19 = .ok (.iconst 0, 1) := by decide +kernel
theorem dX6_spareTeeth_20 : decode cX6_spareTeeth 20 = .ok (.istore 5, 2) := by decide +kernel
theorem dX6_spareTeeth_22 : decode cX6_spareTeeth 22 = .ok (.iload 5, 2) := by decide +kernel
theorem dX6_spareTeeth_24 : decode cX6_spareTeeth 24 = .ok (.aload_n 0, 1) := by decide +kernel
theorem dX6_spareTeeth_25 : decode cX6_spareTeeth 25 = .ok (.getfield 19, 3) := by decide +kernel
theorem dX6_spareTeeth_28 : decode cX6_spareTeeth 28 = .ok (.if_icmp .ge 66, 3) := by decide +kernel
theorem dX6_spareTeeth_31 : decode cX6_spareTeeth 31 = .ok (.aload_n 0, 1) := by decide +kernel
theorem dX6_spareTeeth_32 : decode cX6_spareTeeth 32 = .ok (.getfield 9, 3) := by decide +kernel
theorem dX6_spareTeeth_35 : decode cX6_spareTeeth 35 = .ok (.iload 5, 2) := by decide +kernel
theorem dX6_spareTeeth_37 : decode cX6_spareTeeth 37 = .ok (.baload, 1) := by decide +kernel
theorem dX6_spareTeeth_38 : decode cX6_spareTeeth 38 = .ok (.ifCond .eq 7, 3) := by decide +kernel
theorem dX6_spareTeeth_45 : decode cX6_spareTeeth 45 = .ok (.iconst 1, 1) := by decide +kernel
theorem dX6_spareTeeth_46 : decode cX6_spareTeeth 46 = .ok (.istore 6, 2) := by decide +kernel
theorem dX6_spareTeeth_48 : decode cX6_spareTeeth 48 = .ok (.iload_n 2, 1) := by decide +kernel
theorem dX6_spareTeeth_49 : decode cX6_spareTeeth 49 = .ok (.iload_n 3, 1) := by decide +kernel
theorem dX6_spareTeeth_50 : decode cX6_spareTeeth 50 = .ok (.iload 4, 2) := by decide +kernel
theorem dX6_spareTeeth_52 : decode cX6_spareTeeth 52 = .ok (.invokestatic 46, 3) := by decide +kernel
theorem dX6_spareTeeth_55 : decode cX6_spareTeeth 55 = .ok (.invokestatic 46, 3) := by decide +kernel
theorem dX6_spareTeeth_58 : decode cX6_spareTeeth 58 = .ok (.istore 7, 2) := by decide +kernel
theorem dX6_spareTeeth_60 : decode cX6_spareTeeth 60 = .ok (.iload_n 3, 1) := by decide +kernel
theorem dX6_spareTeeth_61 : decode cX6_spareTeeth 61 = .ok (.iload 6, 2) := by decide +kernel
theorem dX6_spareTeeth_63 : decode cX6_spareTeeth 63 = .ok (.iadd, 1) := by decide +kernel
theorem dX6_spareTeeth_64 : decode cX6_spareTeeth 64 = .ok (.istore 4, 2) := by decide +kernel
theorem dX6_spareTeeth_66 : decode cX6_spareTeeth 66 = .ok (.iload_n 2, 1) := by decide +kernel
theorem dX6_spareTeeth_67 : decode cX6_spareTeeth 67 = .ok (.iload 6, 2) := by decide +kernel
theorem dX6_spareTeeth_69 : decode cX6_spareTeeth 69 = .ok (.iadd, 1) := by decide +kernel
theorem dX6_spareTeeth_70 : decode cX6_spareTeeth 70 = .ok (.istore_n 3, 1) := by decide +kernel
theorem dX6_spareTeeth_71 : decode cX6_spareTeeth 71 = .ok (.aload_n 0, 1) := by decide +kernel
theorem dX6_spareTeeth_72 : decode cX6_spareTeeth 72 = .ok (.getfield 9, 3) := by decide +kernel
theorem dX6_spareTeeth_75 : decode cX6_spareTeeth 75 = .ok (.iload 5, 2) := by decide +kernel
theorem dX6_spareTeeth_77 : decode cX6_spareTeeth 77 = .ok (.baload, 1) := by decide +kernel
theorem dX6_spareTeeth_78 : decode cX6_spareTeeth 78 = .ok (.ifCond .eq 7, 3) := by decide +kernel
theorem dX6_spareTeeth_85 : decode cX6_spareTeeth 85 = .ok (.iload 7, 2) := by decide +kernel
theorem dX6_spareTeeth_87 : decode cX6_spareTeeth 87 = .ok (.istore_n 2, 1) := by decide +kernel
theorem dX6_spareTeeth_88 : decode cX6_spareTeeth 88 = .ok (.iinc 5 1, 3) := by decide +kernel
theorem dX6_spareTeeth_91 : decode cX6_spareTeeth 91 = .ok (.goto (-69), 3) := by decide +kernel
theorem dX6_spareTeeth_94 : decode cX6_spareTeeth 94 = .ok (.iload_n 2, 1) := by decide +kernel
theorem dX6_spareTeeth_95 : decode cX6_spareTeeth 95 = .ok (.iload_n 3, 1) := by decide +kernel
theorem dX6_spareTeeth_96 : decode cX6_spareTeeth 96 = .ok (.iload 4, 2) := by decide +kernel
theorem dX6_spareTeeth_98 : decode cX6_spareTeeth 98 = .ok (.invokestatic 46, 3) := by decide +kernel
theorem dX6_spareTeeth_101 : decode cX6_spareTeeth 101 = .ok (.invokestatic 46, 3) := by decide +kernel
theorem dX6_spareTeeth_104 : decode cX6_spareTeeth 104 = .ok (.ireturn, 1) := by decide +kernel
theorem dX6_lackingTeeth_0 : decode cX6_lackingTeeth 0 = .ok (.iconst 0, 1) := by decide +kernel
theorem dX6_lackingTeeth_1 : decode cX6_lackingTeeth 1 = .ok (.istore_n 1, 1) := by decide +kernel
theorem dX6_lackingTeeth_2 : decode cX6_lackingTeeth 2 = .ok (.iconst 0, 1) := by decide +kernel
theorem dX6_lackingTeeth_3 : decode cX6_lackingTeeth 3 = .ok (.istore_n 2, 1) := by decide +kernel
theorem dX6_lackingTeeth_4 : decode cX6_lackingTeeth 4 = .ok (.iload_n 2, 1) := by decide +kernel
theorem dX6_lackingTeeth_5 : decode cX6_lackingTeeth 5 = .ok (.aload_n 0, 1) := by decide +kernel
theorem dX6_lackingTeeth_6 : decode cX6_lackingTeeth 6 = .ok (.getfield 19, 3) := by decide +kernel
theorem dX6_lackingTeeth_9 : decode cX6_lackingTeeth 9 = .ok (.if_icmp .ge 21, 3) := by decide +kernel
theorem dX6_lackingTeeth_12 : decode cX6_lackingTeeth 12 = .ok (.aload_n 0, 1) := by decide +kernel
theorem dX6_lackingTeeth_13 : decode cX6_lackingTeeth 13 = .ok (.getfield 9, 3) := by decide +kernel
theorem dX6_lackingTeeth_16 : decode cX6_lackingTeeth 16 = .ok (.iload_n 2, 1) := by decide +kernel
theorem dX6_lackingTeeth_17 : decode cX6_lackingTeeth 17 = .ok (.baload, 1) := by decide +kernel
theorem dX6_lackingTeeth_18 : decode cX6_lackingTeeth 18 = .ok (.ifCond .eq 6, 3) := by decide +kernel
theorem dX6_lackingTeeth_24 : decode cX6_lackingTeeth 24 = .ok (.iinc 2 1, 3) := by decide +kernel
theorem dX6_lackingTeeth_27 : decode cX6_lackingTeeth 27 = .ok (.goto (-23), 3) := by decide +kernel
theorem dX6_lackingTeeth_30 : decode cX6_lackingTeeth 30 = .ok (.iload_n 1, 1) := by decide +kernel
theorem dX6_lackingTeeth_31 : decode cX6_lackingTeeth 31 = .ok (.ireturn, 1) := by decide +kernel
set_option maxRecDepth 20000 in
theorem ggX6_catchingTeeth_X6_catchesAt : GoodIn wsX6_catchingTeeth wsX6_catchesAt := goodIn_r _ [6, 7, 8, 9, 10, 11, 12, 5, 13, 1, 14, 15, 16, 17, 18] (by decide +kernel) (by decide +kernel)
set_option maxRecDepth 20000 in
theorem gX6_catchingTeeth_X6_catchesAt : GoodIn wsX6_catchingTeeth (wsV RX6 52 RX6 yX6_catchesAt wsX6_catchesAt) := goodIn_app (goodIn_of _ (by decide +kernel)) ggX6_catchingTeeth_X6_catchesAt
theorem dX6_catchingTeeth_0 : decode cX6_catchingTeeth 0 = .ok (.iconst 0, 1) := by decide +kernel
theorem dX6_catchingTeeth_1 : decode cX6_catchingTeeth 1 = .ok (.istore_n 2, 1) := by decide +kernel
theorem dX6_catchingTeeth_2 : decode cX6_catchingTeeth 2 = .ok (.iconst 0, 1) := by decide +kernel
theorem dX6_catchingTeeth_3 : decode cX6_catchingTeeth 3 = .ok (.istore_n 3, 1) := by decide +kernel
theorem dX6_catchingTeeth_4 : decode cX6_catchingTeeth 4 = .ok (.iload_n 3, 1) := by decide +kernel
theorem dX6_catchingTeeth_5 : decode cX6_catchingTeeth 5 = .ok (.aload_n 0, 1) := by decide +kernel
theorem dX6_catchingTeeth_6 : decode cX6_catchingTeeth 6 = .ok (.getfield 19, 3) := by decide +kernel
theorem dX6_catchingTeeth_9 : decode cX6_catchingTeeth 9 = .ok (.if_icmp .ge 27, 3) := by decide +kernel
theorem dX6_catchingTeeth_12 : decode cX6_catchingTeeth 12 = .ok (.aload_n 0, 1) := by decide +kernel
theorem dX6_catchingTeeth_13 : decode cX6_catchingTeeth 13 = .ok (.iload_n 3, 1) := by decide +kernel
theorem dX6_catchingTeeth_14 : decode cX6_catchingTeeth 14 = .ok (.invokevirtual 52, 3) := by decide +kernel
theorem dX6_catchingTeeth_17 : decode cX6_catchingTeeth 17 = .ok (.ifCond .eq 13, 3) := by decide +kernel
theorem dX6_catchingTeeth_30 : decode cX6_catchingTeeth 30 = .ok (.iinc 3 1, 3) := by decide +kernel
theorem dX6_catchingTeeth_33 : decode cX6_catchingTeeth 33 = .ok (.goto (-29), 3) := by decide +kernel
theorem dX6_catchingTeeth_36 : decode cX6_catchingTeeth 36 = .ok (.iload_n 1, 1) := by decide +kernel
theorem dX6_catchingTeeth_37 : decode cX6_catchingTeeth 37 = .ok (.iconst (-1), 1) := by decide +kernel
theorem dX6_catchingTeeth_38 : decode cX6_catchingTeeth 38 = .ok (.if_icmp .ne 7, 3) := by decide +kernel
theorem dX6_catchingTeeth_41 : decode cX6_catchingTeeth 41 = .ok (.iload_n 2, 1) := by decide +kernel
theorem dX6_catchingTeeth_42 : decode cX6_catchingTeeth 42 = .ok (.goto 4, 3) := by decide +kernel
theorem dX6_catchingTeeth_45 : decode cX6_catchingTeeth 45 = .ok (.iconst (-1), 1) := by decide +kernel
theorem dX6_catchingTeeth_46 : decode cX6_catchingTeeth 46 = .ok (.ireturn, 1) := by decide +kernel
set_option maxRecDepth 20000 in
theorem ggX6_stitchesNeeded_X6_catchesAt : GoodIn wsX6_stitchesNeeded wsX6_catchesAt := goodIn_r _ [10, 11, 12, 13, 14, 15, 16, 9, 17, 1, 18, 19, 20, 21, 22] (by decide +kernel) (by decide +kernel)
set_option maxRecDepth 20000 in
theorem gX6_stitchesNeeded_X6_catchesAt : GoodIn wsX6_stitchesNeeded (wsV RX6 52 RX6 yX6_catchesAt wsX6_catchesAt) := goodIn_app (goodIn_of _ (by decide +kernel)) ggX6_stitchesNeeded_X6_catchesAt
theorem dX6_stitchesNeeded_0 : decode cX6_stitchesNeeded 0 = .ok (.iconst 0, 1) := by decide +kernel
theorem dX6_stitchesNeeded_1 : decode cX6_stitchesNeeded 1 = .ok (.istore_n 2, 1) := by decide +kernel
theorem dX6_stitchesNeeded_2 : decode cX6_stitchesNeeded 2 = .ok (.iconst 0, 1) := by decide +kernel
theorem dX6_stitchesNeeded_3 : decode cX6_stitchesNeeded 3 = .ok (.istore_n 3, 1) := by decide +kernel
theorem dX6_stitchesNeeded_4 : decode cX6_stitchesNeeded 4 = .ok (.iconst 0, 1) := by decide +kernel
theorem dX6_stitchesNeeded_5 : decode cX6_stitchesNeeded 5 = .ok (.istore 4, 2) := by decide +kernel
theorem dX6_stitchesNeeded_7 : decode cX6_stitchesNeeded 7 = .ok (.iload 4, 2) := by decide +kernel
theorem dX6_stitchesNeeded_9 : decode cX6_stitchesNeeded 9 = .ok (.aload_n 0, 1) := by decide +kernel
theorem dX6_stitchesNeeded_10 : decode cX6_stitchesNeeded 10 = .ok (.getfield 19, 3) := by decide +kernel
theorem dX6_stitchesNeeded_13 : decode cX6_stitchesNeeded 13 = .ok (.if_icmp .ge 55, 3) := by decide +kernel
theorem dX6_stitchesNeeded_16 : decode cX6_stitchesNeeded 16 = .ok (.iload 4, 2) := by decide +kernel
theorem dX6_stitchesNeeded_18 : decode cX6_stitchesNeeded 18 = .ok (.iload_n 3, 1) := by decide +kernel
theorem dX6_stitchesNeeded_19 : decode cX6_stitchesNeeded 19 = .ok (.if_icmp .lt 43, 3) := by decide +kernel
theorem dX6_stitchesNeeded_22 : decode cX6_stitchesNeeded 22 = .ok (.aload_n 0, 1) := by decide +kernel
theorem dX6_stitchesNeeded_23 : decode cX6_stitchesNeeded 23 = .ok (.iload 4, 2) := by decide +kernel
theorem dX6_stitchesNeeded_25 : decode cX6_stitchesNeeded 25 = .ok (.invokevirtual 52, 3) := by decide +kernel
theorem dX6_stitchesNeeded_28 : decode cX6_stitchesNeeded 28 = .ok (.ifCond .eq 34, 3) := by decide +kernel
theorem dX6_stitchesNeeded_62 : decode cX6_stitchesNeeded 62 = .ok (.iinc 4 1, 3) := by decide +kernel
theorem dX6_stitchesNeeded_65 : decode cX6_stitchesNeeded 65 = .ok (.goto (-58), 3) := by decide +kernel
theorem dX6_stitchesNeeded_68 : decode cX6_stitchesNeeded 68 = .ok (.iload_n 1, 1) := by decide +kernel
theorem dX6_stitchesNeeded_69 : decode cX6_stitchesNeeded 69 = .ok (.iconst (-1), 1) := by decide +kernel
theorem dX6_stitchesNeeded_70 : decode cX6_stitchesNeeded 70 = .ok (.if_icmp .ne 7, 3) := by decide +kernel
theorem dX6_stitchesNeeded_73 : decode cX6_stitchesNeeded 73 = .ok (.iload_n 2, 1) := by decide +kernel
theorem dX6_stitchesNeeded_74 : decode cX6_stitchesNeeded 74 = .ok (.goto 4, 3) := by decide +kernel
theorem dX6_stitchesNeeded_77 : decode cX6_stitchesNeeded 77 = .ok (.iconst (-1), 1) := by decide +kernel
theorem dX6_stitchesNeeded_78 : decode cX6_stitchesNeeded 78 = .ok (.ireturn, 1) := by decide +kernel
set_option maxRecDepth 20000 in
theorem ggX6_takeSlack_X6_has : GoodIn wsX6_takeSlack wsX6_has := goodIn_r _ [6, 7, 8, 9, 10, 11, 12] (by decide +kernel) (by decide +kernel)
set_option maxRecDepth 20000 in
theorem gX6_takeSlack_X6_has : GoodIn wsX6_takeSlack (wsV RX6 29 RX6 yX6_has wsX6_has) := goodIn_app (goodIn_of _ (by decide +kernel)) ggX6_takeSlack_X6_has
theorem dX6_takeSlack_0 : decode cX6_takeSlack 0 = .ok (.iconst 0, 1) := by decide +kernel
theorem dX6_takeSlack_1 : decode cX6_takeSlack 1 = .ok (.istore_n 2, 1) := by decide +kernel
theorem dX6_takeSlack_2 : decode cX6_takeSlack 2 = .ok (.iload_n 1, 1) := by decide +kernel
theorem dX6_takeSlack_3 : decode cX6_takeSlack 3 = .ok (.iconst 2, 1) := by decide +kernel
theorem dX6_takeSlack_4 : decode cX6_takeSlack 4 = .ok (.isub, 1) := by decide +kernel
theorem dX6_takeSlack_5 : decode cX6_takeSlack 5 = .ok (.istore_n 3, 1) := by decide +kernel
theorem dX6_takeSlack_6 : decode cX6_takeSlack 6 = .ok (.iload_n 3, 1) := by decide +kernel
theorem dX6_takeSlack_7 : decode cX6_takeSlack 7 = .ok (.iload_n 1, 1) := by decide +kernel
theorem dX6_takeSlack_8 : decode cX6_takeSlack 8 = .ok (.iconst 2, 1) := by decide +kernel
theorem dX6_takeSlack_9 : decode cX6_takeSlack 9 = .ok (.iadd, 1) := by decide +kernel
theorem dX6_takeSlack_10 : decode cX6_takeSlack 10 = .ok (.if_icmp .gt 33, 3) := by decide +kernel
theorem dX6_takeSlack_13 : decode cX6_takeSlack 13 = .ok (.aload_n 0, 1) := by decide +kernel
theorem dX6_takeSlack_14 : decode cX6_takeSlack 14 = .ok (.iload_n 3, 1) := by decide +kernel
theorem dX6_takeSlack_15 : decode cX6_takeSlack 15 = .ok (.invokevirtual 29, 3) := by decide +kernel
theorem dX6_takeSlack_18 : decode cX6_takeSlack 18 = .ok (.ifCond .eq 19, 3) := by decide +kernel
theorem dX6_takeSlack_21 : decode cX6_takeSlack 21 = .ok (.iload_n 2, 1) := by decide +kernel
theorem dX6_takeSlack_22 : decode cX6_takeSlack 22 = .ok (.aload_n 0, 1) := by decide +kernel
theorem dX6_takeSlack_23 : decode cX6_takeSlack 23 = .ok (.getfield 15, 3) := by decide +kernel
theorem dX6_takeSlack_26 : decode cX6_takeSlack 26 = .ok (.iload_n 3, 1) := by decide +kernel
theorem dX6_takeSlack_27 : decode cX6_takeSlack 27 = .ok (.iaload, 1) := by decide +kernel
theorem dX6_takeSlack_28 : decode cX6_takeSlack 28 = .ok (.iadd, 1) := by decide +kernel
theorem dX6_takeSlack_29 : decode cX6_takeSlack 29 = .ok (.istore_n 2, 1) := by decide +kernel
theorem dX6_takeSlack_30 : decode cX6_takeSlack 30 = .ok (.aload_n 0, 1) := by decide +kernel
theorem dX6_takeSlack_31 : decode cX6_takeSlack 31 = .ok (.getfield 15, 3) := by decide +kernel
theorem dX6_takeSlack_34 : decode cX6_takeSlack 34 = .ok (.iload_n 3, 1) := by decide +kernel
theorem dX6_takeSlack_35 : decode cX6_takeSlack 35 = .ok (.iconst 0, 1) := by decide +kernel
theorem dX6_takeSlack_36 : decode cX6_takeSlack 36 = .ok (.iastore, 1) := by decide +kernel
theorem dX6_takeSlack_37 : decode cX6_takeSlack 37 = .ok (.iinc 3 1, 3) := by decide +kernel
theorem dX6_takeSlack_40 : decode cX6_takeSlack 40 = .ok (.goto (-34), 3) := by decide +kernel
theorem dX6_takeSlack_43 : decode cX6_takeSlack 43 = .ok (.iload_n 2, 1) := by decide +kernel
theorem dX6_takeSlack_44 : decode cX6_takeSlack 44 = .ok (.ireturn, 1) := by decide +kernel
set_option maxRecDepth 20000 in
theorem ggX6_runsTo_X6_catchesAt : GoodIn wsX6_runsTo wsX6_catchesAt := goodIn_r _ [7, 8, 9, 10, 11, 12, 13, 6, 14, 2, 23, 24, 25, 26, 27] (by decide +kernel) (by decide +kernel)
set_option maxRecDepth 20000 in
theorem gX6_runsTo_X6_catchesAt : GoodIn wsX6_runsTo (wsV RX6 52 RX6 yX6_catchesAt wsX6_catchesAt) := goodIn_app (goodIn_of _ (by decide +kernel)) ggX6_runsTo_X6_catchesAt
set_option maxRecDepth 20000 in
theorem ggX6_runsTo_X6_lacksThreeFrom : GoodIn wsX6_runsTo wsX6_lacksThreeFrom := goodIn_r _ [18, 19, 20, 21, 6, 22, 8, 11, 12, 13, 14, 2, 23, 24, 25, 26, 27] (by decide +kernel) (by decide +kernel)
set_option maxRecDepth 20000 in
theorem gX6_runsTo_X6_lacksThreeFrom : GoodIn wsX6_runsTo (wsV RX6 36 RX6 yX6_lacksThreeFrom wsX6_lacksThreeFrom) := goodIn_app (goodIn_of _ (by decide +kernel)) ggX6_runsTo_X6_lacksThreeFrom
theorem dX6_runsTo_0 : decode cX6_runsTo 0 = .ok (.aload_n 0, 1) := by decide +kernel
theorem dX6_runsTo_1 : decode cX6_runsTo 1 = .ok (.getfield 23, 3) := by decide +kernel
theorem dX6_runsTo_4 : decode cX6_runsTo 4 = .ok (.istore_n 1, 1) := by decide +kernel
theorem dX6_runsTo_5 : decode cX6_runsTo 5 = .ok (.iload_n 1, 1) := by decide +kernel
theorem dX6_runsTo_6 : decode cX6_runsTo 6 = .ok (.aload_n 0, 1) := by decide +kernel
theorem dX6_runsTo_7 : decode cX6_runsTo 7 = .ok (.getfield 19, 3) := by decide +kernel
theorem dX6_runsTo_10 : decode cX6_runsTo 10 = .ok (.if_icmp .ge 27, 3) := by decide +kernel
theorem dX6_runsTo_13 : decode cX6_runsTo 13 = .ok (.aload_n 0, 1) := by decide +kernel
theorem dX6_runsTo_14 : decode cX6_runsTo 14 = .ok (.iload_n 1, 1) := by decide +kernel
theorem dX6_runsTo_15 : decode cX6_runsTo 15 = .ok (.invokevirtual 52, 3) := by decide +kernel
theorem dX6_runsTo_18 : decode cX6_runsTo 18 = .ok (.ifCond .ne 11, 3) := by decide +kernel
theorem dX6_runsTo_21 : decode cX6_runsTo 21 = .ok (.aload_n 0, 1) := by decide +kernel
theorem dX6_runsTo_22 : decode cX6_runsTo 22 = .ok (.iload_n 1, 1) := by decide +kernel
theorem dX6_runsTo_23 : decode cX6_runsTo 23 = .ok (.invokevirtual 36, 3) := by decide +kernel
theorem dX6_runsTo_26 : decode cX6_runsTo 26 = .ok (.ifCond .eq 5, 3) := by decide +kernel
theorem dX6_runsTo_31 : decode cX6_runsTo 31 = .ok (.iinc 1 1, 3) := by decide +kernel
theorem dX6_runsTo_34 : decode cX6_runsTo 34 = .ok (.goto (-29), 3) := by decide +kernel
theorem dX6_runsTo_37 : decode cX6_runsTo 37 = .ok (.aload_n 0, 1) := by decide +kernel
theorem dX6_runsTo_38 : decode cX6_runsTo 38 = .ok (.getfield 19, 3) := by decide +kernel
theorem dX6_runsTo_41 : decode cX6_runsTo 41 = .ok (.ireturn, 1) := by decide +kernel
set_option maxRecDepth 20000 in
theorem ggX7_row_X7_shelfAt : GoodIn wsX7_row wsX7_shelfAt := goodIn_r _ [5, 6, 7, 8, 4, 9, 27, 28, 29, 30, 31, 32, 33, 34, 35] (by decide +kernel) (by decide +kernel)
set_option maxRecDepth 20000 in
theorem gX7_row_X7_shelfAt : GoodIn wsX7_row (wsV RX7 59 RX7 yX7_shelfAt wsX7_shelfAt) := goodIn_app (goodIn_of _ (by decide +kernel)) ggX7_row_X7_shelfAt
set_option maxRecDepth 20000 in
theorem ggX7_row_X7_refuse : GoodIn wsX7_row wsX7_refuse := goodIn_r _ [13, 14, 7, 8, 4, 9, 27, 28, 29, 30, 31, 32, 33, 34, 35] (by decide +kernel) (by decide +kernel)
set_option maxRecDepth 20000 in
theorem gX7_row_X7_refuse : GoodIn wsX7_row (wsV RX7 63 RX7 yX7_refuse wsX7_refuse) := goodIn_app (goodIn_of _ (by decide +kernel)) ggX7_row_X7_refuse
set_option maxRecDepth 20000 in
theorem ggX7_row_X7_within : GoodIn wsX7_row wsX7_within := goodIn_r _ [9] (by decide +kernel) (by decide +kernel)
set_option maxRecDepth 20000 in
theorem gX7_row_X7_within : GoodIn wsX7_row (va_wsS RX7 67 yX7_within wsX7_within) := goodIn_app (goodIn_of _ (by decide +kernel)) ggX7_row_X7_within
set_option maxRecDepth 20000 in
theorem ggX7_row_X4_holdRow : GoodIn wsX7_row wsX4_holdRow := goodIn_r _ [19, 20, 21, 22, 23, 24, 25, 26, 36, 37, 38] (by decide +kernel) (by decide +kernel)
set_option maxRecDepth 20000 in
theorem gX7_row_X4_holdRow : GoodIn wsX7_row (wsV RX7 71 RX4 yX4_holdRow wsX4_holdRow) := goodIn_app (goodIn_of _ (by decide +kernel)) ggX7_row_X4_holdRow
theorem dX7_row_0 : decode cX7_row 0 = .ok (.aload_n 0, 1) := by decide +kernel
theorem dX7_row_1 : decode cX7_row 1 = .ok (.iload_n 1, 1) := by decide +kernel
theorem dX7_row_2 : decode cX7_row 2 = .ok (.invokevirtual 59, 3) := by decide +kernel
theorem dX7_row_5 : decode cX7_row 5 = .ok (.astore 4, 2) := by decide +kernel
theorem dX7_row_7 : decode cX7_row 7 = .ok (.aload 4, 2) := by decide +kernel
theorem dX7_row_9 : decode cX7_row 9 = .ok (.ifnonnull 9, 3) := by decide +kernel
theorem dX7_row_12 : decode cX7_row 12 = .ok (.aload_n 0, 1) := by decide +kernel
theorem dX7_row_13 : decode cX7_row 13 = .ok (.iconst 1, 1) := by decide +kernel
theorem dX7_row_14 : decode cX7_row 14 = .ok (.invokevirtual 63, 3) := by decide +kernel
theorem dX7_row_17 : decode cX7_row 17 = .ok (.ireturn, 1) := by decide +kernel
theorem dX7_row_18 : decode cX7_row 18 = .ok (.iload_n 3, 1) := by decide +kernel
theorem dX7_row_19 : decode cX7_row 19 = .ok (.ifCond .ge 9, 3) := by decide +kernel
theorem dX7_row_22 : decode cX7_row 22 = .ok (.aload_n 0, 1) := by decide +kernel
theorem dX7_row_23 : decode cX7_row 23 = .ok (.iconst 4, 1) := by decide +kernel
theorem dX7_row_24 : decode cX7_row 24 = .ok (.invokevirtual 63, 3) := by decide +kernel
theorem dX7_row_27 : decode cX7_row 27 = .ok (.ireturn, 1) := by decide +kernel
theorem dX7_row_28 : decode cX7_row 28 = .ok (.iload_n 2, 1) := by decide +kernel
theorem dX7_row_29 : decode cX7_row 29 = .ok (.iconst 0, 1) := by decide +kernel
theorem dX7_row_30 : decode cX7_row 30 = .ok (.iconst 3, 1) := by decide +kernel
theorem dX7_row_31 : decode cX7_row 31 = .ok (.invokestatic 67, 3) := by decide +kernel
theorem dX7_row_34 : decode cX7_row 34 = .ok (.ifCond .ne 10, 3) := by decide +kernel
theorem dX7_row_37 : decode cX7_row 37 = .ok (.aload_n 0, 1) := by decide +kernel
theorem dX7_row_38 : decode cX7_row 38 = .ok (.bipush 6, 2) := by decide +kernel
theorem dX7_row_40 : decode cX7_row 40 = .ok (.invokevirtual 63, 3) := by decide +kernel
theorem dX7_row_43 : decode cX7_row 43 = .ok (.ireturn, 1) := by decide +kernel
theorem dX7_row_44 : decode cX7_row 44 = .ok (.iload_n 3, 1) := by decide +kernel
theorem dX7_row_45 : decode cX7_row 45 = .ok (.sipush 160, 3) := by decide +kernel
theorem dX7_row_48 : decode cX7_row 48 = .ok (.if_icmp .le 10, 3) := by decide +kernel
theorem dX7_row_51 : decode cX7_row 51 = .ok (.aload_n 0, 1) := by decide +kernel
theorem dX7_row_52 : decode cX7_row 52 = .ok (.bipush 7, 2) := by decide +kernel
theorem dX7_row_54 : decode cX7_row 54 = .ok (.invokevirtual 63, 3) := by decide +kernel
theorem dX7_row_57 : decode cX7_row 57 = .ok (.ireturn, 1) := by decide +kernel
theorem dX7_row_58 : decode cX7_row 58 = .ok (.aload 4, 2) := by decide +kernel
theorem dX7_row_60 : decode cX7_row 60 = .ok (.iload_n 2, 1) := by decide +kernel
theorem dX7_row_61 : decode cX7_row 61 = .ok (.iload_n 3, 1) := by decide +kernel
theorem dX7_row_62 : decode cX7_row 62 = .ok (.invokevirtual 71, 3) := by decide +kernel
theorem dX7_row_65 : decode cX7_row 65 = .ok (.iconst 1, 1) := by decide +kernel
theorem dX7_row_66 : decode cX7_row 66 = .ok (.ireturn, 1) := by decide +kernel
set_option maxRecDepth 20000 in
theorem ggX7_set_X7_shelfAt : GoodIn wsX7_set wsX7_shelfAt := goodIn_r _ [5, 6, 7, 8, 4, 9, 31, 32, 33, 34, 35, 36, 37, 38, 39] (by decide +kernel) (by decide +kernel)
set_option maxRecDepth 20000 in
theorem gX7_set_X7_shelfAt : GoodIn wsX7_set (wsV RX7 59 RX7 yX7_shelfAt wsX7_shelfAt) := goodIn_app (goodIn_of _ (by decide +kernel)) ggX7_set_X7_shelfAt
set_option maxRecDepth 20000 in
theorem ggX7_set_X7_refuse : GoodIn wsX7_set wsX7_refuse := goodIn_r _ [13, 14, 7, 8, 4, 9, 31, 32, 33, 34, 35, 36, 37, 38, 39] (by decide +kernel) (by decide +kernel)
set_option maxRecDepth 20000 in
theorem gX7_set_X7_refuse : GoodIn wsX7_set (wsV RX7 63 RX7 yX7_refuse wsX7_refuse) := goodIn_app (goodIn_of _ (by decide +kernel)) ggX7_set_X7_refuse
set_option maxRecDepth 20000 in
theorem ggX7_set_X4_noRow : GoodIn wsX7_set wsX4_noRow := goodIn_r _ [19, 20, 40, 41, 42] (by decide +kernel) (by decide +kernel)
set_option maxRecDepth 20000 in
theorem gX7_set_X4_noRow : GoodIn wsX7_set (wsV RX7 75 RX4 yX4_noRow wsX4_noRow) := goodIn_app (goodIn_of _ (by decide +kernel)) ggX7_set_X4_noRow
theorem dX7_set_0 : decode cX7_set 0 = .ok (.aload_n 0, 1) := by decide +kernel
theorem dX7_set_1 : decode cX7_set 1 = .ok (.iload_n 1, 1) := by decide +kernel
theorem dX7_set_2 : decode cX7_set 2 = .ok (.invokevirtual 59, 3) := by decide +kernel
theorem dX7_set_5 : decode cX7_set 5 = .ok (.astore 5, 2) := by decide +kernel
theorem dX7_set_7 : decode cX7_set 7 = .ok (.aload 5, 2) := by decide +kernel
theorem dX7_set_9 : decode cX7_set 9 = .ok (.ifnonnull 9, 3) := by decide +kernel
theorem dX7_set_12 : decode cX7_set 12 = .ok (.aload_n 0, 1) := by decide +kernel
theorem dX7_set_13 : decode cX7_set 13 = .ok (.iconst 1, 1) := by decide +kernel
theorem dX7_set_14 : decode cX7_set 14 = .ok (.invokevirtual 63, 3) := by decide +kernel
theorem dX7_set_17 : decode cX7_set 17 = .ok (.ireturn, 1) := by decide +kernel
theorem dX7_set_18 : decode cX7_set 18 = .ok (.aload 5, 2) := by decide +kernel
theorem dX7_set_20 : decode cX7_set 20 = .ok (.invokevirtual 75, 3) := by decide +kernel
theorem dX7_set_23 : decode cX7_set 23 = .ok (.istore 6, 2) := by decide +kernel
theorem dX7_set_25 : decode cX7_set 25 = .ok (.iload 6, 2) := by decide +kernel
theorem dX7_set_27 : decode cX7_set 27 = .ok (.ifCond .eq 10, 3) := by decide +kernel
theorem dX7_set_30 : decode cX7_set 30 = .ok (.aload_n 0, 1) := by decide +kernel
theorem dX7_set_31 : decode cX7_set 31 = .ok (.iload 6, 2) := by decide +kernel
theorem dX7_set_33 : decode cX7_set 33 = .ok (.invokevirtual 63, 3) := by decide +kernel
theorem dX7_set_36 : decode cX7_set 36 = .ok (.ireturn, 1) := by decide +kernel
set_option maxRecDepth 20000 in
theorem ggX7_copy_X7_shelfAt : GoodIn wsX7_copy wsX7_shelfAt := goodIn_r _ [11, 12, 13, 14, 10, 15, 35, 36, 37, 38, 39, 40, 41, 42, 43] (by decide +kernel) (by decide +kernel)
set_option maxRecDepth 20000 in
theorem gX7_copy_X7_shelfAt : GoodIn wsX7_copy (wsV RX7 59 RX7 yX7_shelfAt wsX7_shelfAt) := goodIn_app (goodIn_of _ (by decide +kernel)) ggX7_copy_X7_shelfAt
set_option maxRecDepth 20000 in
theorem ggX7_copy_X7_refuse : GoodIn wsX7_copy wsX7_refuse := goodIn_r _ [19, 20, 13, 14, 10, 15, 35, 36, 37, 38, 39, 40, 41, 42, 43] (by decide +kernel) (by decide +kernel)
set_option maxRecDepth 20000 in
theorem gX7_copy_X7_refuse : GoodIn wsX7_copy (wsV RX7 63 RX7 yX7_refuse wsX7_refuse) := goodIn_app (goodIn_of _ (by decide +kernel)) ggX7_copy_X7_refuse
set_option maxRecDepth 20000 in
theorem ggX7_copy_X4_noRow : GoodIn wsX7_copy wsX4_noRow := goodIn_r _ [25, 26, 32, 33, 34] (by decide +kernel) (by decide +kernel)
set_option maxRecDepth 20000 in
theorem gX7_copy_X4_noRow : GoodIn wsX7_copy (wsV RX7 75 RX4 yX4_noRow wsX4_noRow) := goodIn_app (goodIn_of _ (by decide +kernel)) ggX7_copy_X4_noRow
theorem dX7_copy_0 : decode cX7_copy 0 = .ok (.aload_n 0, 1) := by decide +kernel
theorem dX7_copy_1 : decode cX7_copy 1 = .ok (.iload_n 1, 1) := by decide +kernel
theorem dX7_copy_2 : decode cX7_copy 2 = .ok (.invokevirtual 59, 3) := by decide +kernel
theorem dX7_copy_5 : decode cX7_copy 5 = .ok (.astore 6, 2) := by decide +kernel
theorem dX7_copy_7 : decode cX7_copy 7 = .ok (.aload_n 0, 1) := by decide +kernel
theorem dX7_copy_8 : decode cX7_copy 8 = .ok (.iload_n 2, 1) := by decide +kernel
theorem dX7_copy_9 : decode cX7_copy 9 = .ok (.invokevirtual 59, 3) := by decide +kernel
theorem dX7_copy_12 : decode cX7_copy 12 = .ok (.astore 7, 2) := by decide +kernel
theorem dX7_copy_14 : decode cX7_copy 14 = .ok (.aload 6, 2) := by decide +kernel
theorem dX7_copy_16 : decode cX7_copy 16 = .ok (.ifnull 8, 3) := by decide +kernel
theorem dX7_copy_19 : decode cX7_copy 19 = .ok (.aload 7, 2) := by decide +kernel
theorem dX7_copy_21 : decode cX7_copy 21 = .ok (.ifnonnull 9, 3) := by decide +kernel
theorem dX7_copy_24 : decode cX7_copy 24 = .ok (.aload_n 0, 1) := by decide +kernel
theorem dX7_copy_25 : decode cX7_copy 25 = .ok (.iconst 1, 1) := by decide +kernel
theorem dX7_copy_26 : decode cX7_copy 26 = .ok (.invokevirtual 63, 3) := by decide +kernel
theorem dX7_copy_29 : decode cX7_copy 29 = .ok (.ireturn, 1) := by decide +kernel
theorem dX7_copy_30 : decode cX7_copy 30 = .ok (.aload 6, 2) := by decide +kernel
theorem dX7_copy_32 : decode cX7_copy 32 = .ok (.invokevirtual 75, 3) := by decide +kernel
theorem dX7_copy_35 : decode cX7_copy 35 = .ok (.istore 8, 2) := by decide +kernel
theorem dX7_copy_37 : decode cX7_copy 37 = .ok (.aload 7, 2) := by decide +kernel
theorem dX7_copy_39 : decode cX7_copy 39 = .ok (.invokevirtual 75, 3) := by decide +kernel
theorem dX7_copy_42 : decode cX7_copy 42 = .ok (.istore 9, 2) := by decide +kernel
theorem dX7_copy_44 : decode cX7_copy 44 = .ok (.iload 8, 2) := by decide +kernel
theorem dX7_copy_46 : decode cX7_copy 46 = .ok (.ifCond .ne 25, 3) := by decide +kernel
theorem dX7_copy_71 : decode cX7_copy 71 = .ok (.iconst 0, 1) := by decide +kernel
theorem dX7_copy_72 : decode cX7_copy 72 = .ok (.istore 10, 2) := by decide +kernel
theorem dX7_copy_74 : decode cX7_copy 74 = .ok (.iload 8, 2) := by decide +kernel
theorem dX7_copy_76 : decode cX7_copy 76 = .ok (.iconst 2, 1) := by decide +kernel
theorem dX7_copy_77 : decode cX7_copy 77 = .ok (.if_icmp .eq 14, 3) := by decide +kernel
theorem dX7_copy_80 : decode cX7_copy 80 = .ok (.iload 9, 2) := by decide +kernel
theorem dX7_copy_82 : decode cX7_copy 82 = .ok (.iconst 2, 1) := by decide +kernel
theorem dX7_copy_83 : decode cX7_copy 83 = .ok (.if_icmp .eq 8, 3) := by decide +kernel
theorem dX7_copy_86 : decode cX7_copy 86 = .ok (.iload 10, 2) := by decide +kernel
theorem dX7_copy_88 : decode cX7_copy 88 = .ok (.ifCond .eq 9, 3) := by decide +kernel
theorem dX7_copy_97 : decode cX7_copy 97 = .ok (.iload 8, 2) := by decide +kernel
theorem dX7_copy_99 : decode cX7_copy 99 = .ok (.iconst 3, 1) := by decide +kernel
theorem dX7_copy_100 : decode cX7_copy 100 = .ok (.if_icmp .eq 9, 3) := by decide +kernel
theorem dX7_copy_109 : decode cX7_copy 109 = .ok (.aload_n 0, 1) := by decide +kernel
theorem dX7_copy_110 : decode cX7_copy 110 = .ok (.iconst 3, 1) := by decide +kernel
theorem dX7_copy_111 : decode cX7_copy 111 = .ok (.invokevirtual 63, 3) := by decide +kernel
theorem dX7_copy_114 : decode cX7_copy 114 = .ok (.ireturn, 1) := by decide +kernel
set_option maxRecDepth 20000 in
theorem ggX7_element_X7_shelfAt : GoodIn wsX7_element wsX7_shelfAt := goodIn_r _ [6, 7, 8, 9, 5, 10, 25, 26, 27, 28, 29, 30, 31, 32, 33] (by decide +kernel) (by decide +kernel)
set_option maxRecDepth 20000 in
theorem gX7_element_X7_shelfAt : GoodIn wsX7_element (wsV RX7 59 RX7 yX7_shelfAt wsX7_shelfAt) := goodIn_app (goodIn_of _ (by decide +kernel)) ggX7_element_X7_shelfAt
set_option maxRecDepth 20000 in
theorem ggX7_element_X4_noRow : GoodIn wsX7_element wsX4_noRow := goodIn_r _ [15, 16, 22, 23, 24] (by decide +kernel) (by decide +kernel)
set_option maxRecDepth 20000 in
theorem gX7_element_X4_noRow : GoodIn wsX7_element (wsV RX7 75 RX4 yX4_noRow wsX4_noRow) := goodIn_app (goodIn_of _ (by decide +kernel)) ggX7_element_X4_noRow
theorem dX7_element_0 : decode cX7_element 0 = .ok (.aload_n 0, 1) := by decide +kernel
theorem dX7_element_1 : decode cX7_element 1 = .ok (.iload_n 1, 1) := by decide +kernel
theorem dX7_element_2 : decode cX7_element 2 = .ok (.invokevirtual 59, 3) := by decide +kernel
theorem dX7_element_5 : decode cX7_element 5 = .ok (.astore_n 3, 1) := by decide +kernel
theorem dX7_element_6 : decode cX7_element 6 = .ok (.aload_n 3, 1) := by decide +kernel
theorem dX7_element_7 : decode cX7_element 7 = .ok (.ifnull 19, 3) := by decide +kernel
theorem dX7_element_10 : decode cX7_element 10 = .ok (.aload_n 3, 1) := by decide +kernel
theorem dX7_element_11 : decode cX7_element 11 = .ok (.invokevirtual 75, 3) := by decide +kernel
theorem dX7_element_14 : decode cX7_element 14 = .ok (.ifCond .ne 12, 3) := by decide +kernel
theorem dX7_element_26 : decode cX7_element 26 = .ok (.lconst 0, 1) := by decide +kernel
theorem dX7_element_27 : decode cX7_element 27 = .ok (.lreturn, 1) := by decide +kernel
set_option maxRecDepth 20000 in
theorem ggX7_show_X7_shelfAt : GoodIn wsX7_show wsX7_shelfAt := goodIn_r _ [7, 8, 9, 10, 6, 11, 24, 25, 26, 27, 28, 29, 30, 31, 32] (by decide +kernel) (by decide +kernel)
set_option maxRecDepth 20000 in
theorem gX7_show_X7_shelfAt : GoodIn wsX7_show (wsV RX7 59 RX7 yX7_shelfAt wsX7_shelfAt) := goodIn_app (goodIn_of _ (by decide +kernel)) ggX7_show_X7_shelfAt
set_option maxRecDepth 20000 in
theorem ggX7_show_X0_pullAt : GoodIn wsX7_show wsX0_pullAt := goodIn_r _ [16, 17, 18, 10, 6, 11, 36, 37, 38, 39, 40, 41, 42, 43, 44] (by decide +kernel) (by decide +kernel)
set_option maxRecDepth 20000 in
theorem gX7_show_X0_pullAt : GoodIn wsX7_show (wsV RX7 100 RX0 yX0_pullAt wsX0_pullAt) := goodIn_app (goodIn_of _ (by decide +kernel)) ggX7_show_X0_pullAt
set_option maxRecDepth 20000 in
theorem ggX7_show_X7_refuse : GoodIn wsX7_show wsX7_refuse := goodIn_r _ [22, 23, 9, 10, 6, 11, 24, 25, 26, 27, 28, 29, 30, 31, 32] (by decide +kernel) (by decide +kernel)
set_option maxRecDepth 20000 in
theorem gX7_show_X7_refuse : GoodIn wsX7_show (wsV RX7 63 RX7 yX7_refuse wsX7_refuse) := goodIn_app (goodIn_of _ (by decide +kernel)) ggX7_show_X7_refuse
theorem dX7_show_0 : decode cX7_show 0 = .ok (.aload_n 0, 1) := by decide +kernel
theorem dX7_show_1 : decode cX7_show 1 = .ok (.iload_n 1, 1) := by decide +kernel
theorem dX7_show_2 : decode cX7_show 2 = .ok (.invokevirtual 59, 3) := by decide +kernel
theorem dX7_show_5 : decode cX7_show 5 = .ok (.astore_n 3, 1) := by decide +kernel
theorem dX7_show_6 : decode cX7_show 6 = .ok (.aload_n 3, 1) := by decide +kernel
theorem dX7_show_7 : decode cX7_show 7 = .ok (.ifnull 19, 3) := by decide +kernel
theorem dX7_show_10 : decode cX7_show 10 = .ok (.iload_n 2, 1) := by decide +kernel
theorem dX7_show_11 : decode cX7_show 11 = .ok (.iconst (-1), 1) := by decide +kernel
theorem dX7_show_12 : decode cX7_show 12 = .ok (.if_icmp .eq 20, 3) := by decide +kernel
theorem dX7_show_15 : decode cX7_show 15 = .ok (.aload_n 0, 1) := by decide +kernel
theorem dX7_show_16 : decode cX7_show 16 = .ok (.getfield 18, 3) := by decide +kernel
theorem dX7_show_19 : decode cX7_show 19 = .ok (.iload_n 2, 1) := by decide +kernel
theorem dX7_show_20 : decode cX7_show 20 = .ok (.invokevirtual 100, 3) := by decide +kernel
theorem dX7_show_23 : decode cX7_show 23 = .ok (.ifnonnull 9, 3) := by decide +kernel
theorem dX7_show_26 : decode cX7_show 26 = .ok (.aload_n 0, 1) := by decide +kernel
theorem dX7_show_27 : decode cX7_show 27 = .ok (.iconst 1, 1) := by decide +kernel
theorem dX7_show_28 : decode cX7_show 28 = .ok (.invokevirtual 63, 3) := by decide +kernel
theorem dX7_show_31 : decode cX7_show 31 = .ok (.ireturn, 1) := by decide +kernel
theorem dX7_show_32 : decode cX7_show 32 = .ok (.aload_n 3, 1) := by decide +kernel
theorem dX7_show_33 : decode cX7_show 33 = .ok (.iload_n 2, 1) := by decide +kernel
theorem dX7_show_34 : decode cX7_show 34 = .ok (.putfield 87, 3) := by decide +kernel
theorem dX7_show_37 : decode cX7_show 37 = .ok (.iload_n 2, 1) := by decide +kernel
theorem dX7_show_38 : decode cX7_show 38 = .ok (.iconst (-1), 1) := by decide +kernel
theorem dX7_show_39 : decode cX7_show 39 = .ok (.if_icmp .ne 7, 3) := by decide +kernel
theorem dX7_show_42 : decode cX7_show 42 = .ok (.iconst 0, 1) := by decide +kernel
theorem dX7_show_43 : decode cX7_show 43 = .ok (.goto 4, 3) := by decide +kernel
theorem dX7_show_47 : decode cX7_show 47 = .ok (.ireturn, 1) := by decide +kernel
set_option maxRecDepth 20000 in
theorem ggX7_holds_X7_shelfAt : GoodIn wsX7_holds wsX7_shelfAt := goodIn_r _ [6, 7, 8, 9, 5, 10, 14, 15, 16, 17, 18, 19, 20, 21, 22] (by decide +kernel) (by decide +kernel)
set_option maxRecDepth 20000 in
theorem gX7_holds_X7_shelfAt : GoodIn wsX7_holds (wsV RX7 59 RX7 yX7_shelfAt wsX7_shelfAt) := goodIn_app (goodIn_of _ (by decide +kernel)) ggX7_holds_X7_shelfAt
theorem dX7_holds_0 : decode cX7_holds 0 = .ok (.aload_n 0, 1) := by decide +kernel
theorem dX7_holds_1 : decode cX7_holds 1 = .ok (.iload_n 1, 1) := by decide +kernel
theorem dX7_holds_2 : decode cX7_holds 2 = .ok (.invokevirtual 59, 3) := by decide +kernel
theorem dX7_holds_5 : decode cX7_holds 5 = .ok (.astore_n 2, 1) := by decide +kernel
theorem dX7_holds_6 : decode cX7_holds 6 = .ok (.aload_n 2, 1) := by decide +kernel
theorem dX7_holds_7 : decode cX7_holds 7 = .ok (.ifnonnull 7, 3) := by decide +kernel
theorem dX7_holds_10 : decode cX7_holds 10 = .ok (.iconst (-1), 1) := by decide +kernel
theorem dX7_holds_11 : decode cX7_holds 11 = .ok (.goto 7, 3) := by decide +kernel
theorem dX7_holds_14 : decode cX7_holds 14 = .ok (.aload_n 2, 1) := by decide +kernel
theorem dX7_holds_15 : decode cX7_holds 15 = .ok (.getfield 87, 3) := by decide +kernel
theorem dX7_holds_18 : decode cX7_holds 18 = .ok (.ireturn, 1) := by decide +kernel
set_option maxRecDepth 20000 in
theorem ggX7_says_X7_shelfAt : GoodIn wsX7_says wsX7_shelfAt := goodIn_r _ [9, 10, 11, 12, 8, 13, 55, 56, 57, 58, 59, 60, 61, 62, 63] (by decide +kernel) (by decide +kernel)
set_option maxRecDepth 20000 in
theorem gX7_says_X7_shelfAt : GoodIn wsX7_says (wsV RX7 59 RX7 yX7_shelfAt wsX7_shelfAt) := goodIn_app (goodIn_of _ (by decide +kernel)) ggX7_says_X7_shelfAt
set_option maxRecDepth 20000 in
theorem ggX7_says_X7_within : GoodIn wsX7_says wsX7_within := goodIn_r _ [13] (by decide +kernel) (by decide +kernel)
set_option maxRecDepth 20000 in
theorem gX7_says_X7_within : GoodIn wsX7_says (va_wsS RX7 67 yX7_within wsX7_within) := goodIn_app (goodIn_of _ (by decide +kernel)) ggX7_says_X7_within
set_option maxRecDepth 20000 in
theorem ggX7_says_X7_refuse : GoodIn wsX7_says wsX7_refuse := goodIn_r _ [17, 18, 11, 12, 8, 13, 55, 56, 57, 58, 59, 60, 61, 62, 63] (by decide +kernel) (by decide +kernel)
set_option maxRecDepth 20000 in
theorem gX7_says_X7_refuse : GoodIn wsX7_says (wsV RX7 63 RX7 yX7_refuse wsX7_refuse) := goodIn_app (goodIn_of _ (by decide +kernel)) ggX7_says_X7_refuse
theorem dX7_says_0 : decode cX7_says 0 = .ok (.aload_n 0, 1) := by decide +kernel
theorem dX7_says_1 : decode cX7_says 1 = .ok (.iload_n 1, 1) := by decide +kernel
theorem dX7_says_2 : decode cX7_says 2 = .ok (.invokevirtual 59, 3) := by decide +kernel
theorem dX7_says_5 : decode cX7_says 5 = .ok (.astore_n 3, 1) := by decide +kernel
theorem dX7_says_6 : decode cX7_says 6 = .ok (.aload_n 3, 1) := by decide +kernel
theorem dX7_says_7 : decode cX7_says 7 = .ok (.ifnull 13, 3) := by decide +kernel
theorem dX7_says_10 : decode cX7_says 10 = .ok (.iload_n 2, 1) := by decide +kernel
theorem dX7_says_11 : decode cX7_says 11 = .ok (.iconst 0, 1) := by decide +kernel
theorem dX7_says_12 : decode cX7_says 12 = .ok (.bipush 6, 2) := by decide +kernel
theorem dX7_says_14 : decode cX7_says 14 = .ok (.invokestatic 67, 3) := by decide +kernel
theorem dX7_says_17 : decode cX7_says 17 = .ok (.ifCond .ne 9, 3) := by decide +kernel
theorem dX7_says_20 : decode cX7_says 20 = .ok (.aload_n 0, 1) := by decide +kernel
theorem dX7_says_21 : decode cX7_says 21 = .ok (.iconst 1, 1) := by decide +kernel
theorem dX7_says_22 : decode cX7_says 22 = .ok (.invokevirtual 63, 3) := by decide +kernel
theorem dX7_says_25 : decode cX7_says 25 = .ok (.ireturn, 1) := by decide +kernel
theorem dX7_says_26 : decode cX7_says 26 = .ok (.aload_n 3, 1) := by decide +kernel
theorem dX7_says_27 : decode cX7_says 27 = .ok (.getfield 87, 3) := by decide +kernel
theorem dX7_says_30 : decode cX7_says 30 = .ok (.iconst (-1), 1) := by decide +kernel
theorem dX7_says_31 : decode cX7_says 31 = .ok (.if_icmp .ne 9, 3) := by decide +kernel
theorem dX7_says_34 : decode cX7_says 34 = .ok (.aload_n 0, 1) := by decide +kernel
theorem dX7_says_35 : decode cX7_says 35 = .ok (.iconst 3, 1) := by decide +kernel
theorem dX7_says_36 : decode cX7_says 36 = .ok (.invokevirtual 63, 3) := by decide +kernel
theorem dX7_says_39 : decode cX7_says 39 = .ok (.ireturn, 1) := by decide +kernel
set_option maxRecDepth 20000 in
theorem ggX7_pull_X7_within : GoodIn wsX7_pull wsX7_within := goodIn_r _ [6] (by decide +kernel) (by decide +kernel)
set_option maxRecDepth 20000 in
theorem gX7_pull_X7_within : GoodIn wsX7_pull (va_wsS RX7 67 yX7_within wsX7_within) := goodIn_app (goodIn_of _ (by decide +kernel)) ggX7_pull_X7_within
set_option maxRecDepth 20000 in
theorem ggX7_pull_X7_refuse : GoodIn wsX7_pull wsX7_refuse := goodIn_r _ [10, 11, 3, 4, 5, 6, 31, 32, 33, 34, 35, 36, 37, 38, 39] (by decide +kernel) (by decide +kernel)
set_option maxRecDepth 20000 in
theorem gX7_pull_X7_refuse : GoodIn wsX7_pull (wsV RX7 63 RX7 yX7_refuse wsX7_refuse) := goodIn_app (goodIn_of _ (by decide +kernel)) ggX7_pull_X7_refuse
set_option maxRecDepth 20000 in
theorem ggX7_pull_X0_addPull : GoodIn wsX7_pull wsX0_addPull := goodIn_r _ [16, 17, 18, 19, 20, 21, 22, 23, 24, 25, 26, 27, 28, 29, 30, 40, 41, 42, 43, 44, 45, 46, 47, 48, 49, 50, 51] (by decide +kernel) (by decide +kernel)
set_option maxRecDepth 20000 in
theorem gX7_pull_X0_addPull : GoodIn wsX7_pull (wsV RX7 126 RX0 yX0_addPull wsX0_addPull) := goodIn_app (goodIn_of _ (by decide +kernel)) ggX7_pull_X0_addPull
theorem dX7_pull_0 : decode cX7_pull 0 = .ok (.iload_n 1, 1) := by decide +kernel
theorem dX7_pull_1 : decode cX7_pull 1 = .ok (.iconst 0, 1) := by decide +kernel
theorem dX7_pull_2 : decode cX7_pull 2 = .ok (.bipush 6, 2) := by decide +kernel
theorem dX7_pull_4 : decode cX7_pull 4 = .ok (.invokestatic 67, 3) := by decide +kernel
theorem dX7_pull_7 : decode cX7_pull 7 = .ok (.ifCond .ne 9, 3) := by decide +kernel
theorem dX7_pull_10 : decode cX7_pull 10 = .ok (.aload_n 0, 1) := by decide +kernel
theorem dX7_pull_11 : decode cX7_pull 11 = .ok (.iconst 1, 1) := by decide +kernel
theorem dX7_pull_12 : decode cX7_pull 12 = .ok (.invokevirtual 63, 3) := by decide +kernel
theorem dX7_pull_15 : decode cX7_pull 15 = .ok (.ireturn, 1) := by decide +kernel
theorem dX7_pull_16 : decode cX7_pull 16 = .ok (.iload_n 2, 1) := by decide +kernel
theorem dX7_pull_17 : decode cX7_pull 17 = .ok (.iconst 0, 1) := by decide +kernel
theorem dX7_pull_18 : decode cX7_pull 18 = .ok (.bipush 9, 2) := by decide +kernel
theorem dX7_pull_20 : decode cX7_pull 20 = .ok (.invokestatic 67, 3) := by decide +kernel
theorem dX7_pull_23 : decode cX7_pull 23 = .ok (.ifCond .eq 13, 3) := by decide +kernel
theorem dX7_pull_26 : decode cX7_pull 26 = .ok (.iload_n 3, 1) := by decide +kernel
theorem dX7_pull_27 : decode cX7_pull 27 = .ok (.iconst 1, 1) := by decide +kernel
theorem dX7_pull_28 : decode cX7_pull 28 = .ok (.bipush 60, 2) := by decide +kernel
theorem dX7_pull_30 : decode cX7_pull 30 = .ok (.invokestatic 67, 3) := by decide +kernel
theorem dX7_pull_33 : decode cX7_pull 33 = .ok (.ifCond .ne 10, 3) := by decide +kernel
theorem dX7_pull_36 : decode cX7_pull 36 = .ok (.aload_n 0, 1) := by decide +kernel
theorem dX7_pull_37 : decode cX7_pull 37 = .ok (.bipush 6, 2) := by decide +kernel
theorem dX7_pull_39 : decode cX7_pull 39 = .ok (.invokevirtual 63, 3) := by decide +kernel
theorem dX7_pull_42 : decode cX7_pull 42 = .ok (.ireturn, 1) := by decide +kernel
theorem dX7_pull_43 : decode cX7_pull 43 = .ok (.aload_n 0, 1) := by decide +kernel
theorem dX7_pull_44 : decode cX7_pull 44 = .ok (.getfield 18, 3) := by decide +kernel
theorem dX7_pull_47 : decode cX7_pull 47 = .ok (.getfield 123, 3) := by decide +kernel
theorem dX7_pull_50 : decode cX7_pull 50 = .ok (.bipush 8, 2) := by decide +kernel
theorem dX7_pull_52 : decode cX7_pull 52 = .ok (.if_icmp .lt 10, 3) := by decide +kernel
theorem dX7_pull_62 : decode cX7_pull 62 = .ok (.aload_n 0, 1) := by decide +kernel
theorem dX7_pull_63 : decode cX7_pull 63 = .ok (.getfield 18, 3) := by decide +kernel
theorem dX7_pull_66 : decode cX7_pull 66 = .ok (.iload_n 1, 1) := by decide +kernel
theorem dX7_pull_67 : decode cX7_pull 67 = .ok (.iload_n 2, 1) := by decide +kernel
theorem dX7_pull_68 : decode cX7_pull 68 = .ok (.iload_n 3, 1) := by decide +kernel
theorem dX7_pull_69 : decode cX7_pull 69 = .ok (.invokevirtual 126, 3) := by decide +kernel
theorem dX7_pull_72 : decode cX7_pull 72 = .ok (.ireturn, 1) := by decide +kernel
set_option maxRecDepth 20000 in
theorem ggX7_pullOf_X0_pullAt : GoodIn wsX7_pullOf wsX0_pullAt := goodIn_r _ [9, 10, 11, 12, 13, 14, 51, 52, 53, 54, 55, 56, 57, 58, 59] (by decide +kernel) (by decide +kernel)
set_option maxRecDepth 20000 in
theorem gX7_pullOf_X0_pullAt : GoodIn wsX7_pullOf (wsV RX7 100 RX0 yX0_pullAt wsX0_pullAt) := goodIn_app (goodIn_of _ (by decide +kernel)) ggX7_pullOf_X0_pullAt
set_option maxRecDepth 20000 in
theorem ggX7_pullOf_X7_refuse : GoodIn wsX7_pullOf wsX7_refuse := goodIn_r _ [18, 19, 20, 12, 13, 14, 39, 40, 41, 42, 43, 44, 45, 46, 47] (by decide +kernel) (by decide +kernel)
set_option maxRecDepth 20000 in
theorem gX7_pullOf_X7_refuse : GoodIn wsX7_pullOf (wsV RX7 63 RX7 yX7_refuse wsX7_refuse) := goodIn_app (goodIn_of _ (by decide +kernel)) ggX7_pullOf_X7_refuse
theorem dX7_pullOf_0 : decode cX7_pullOf 0 = .ok (.aload_n 0, 1) := by decide +kernel
theorem dX7_pullOf_1 : decode cX7_pullOf 1 = .ok (.getfield 18, 3) := by decide +kernel
theorem dX7_pullOf_4 : decode cX7_pullOf 4 = .ok (.iload_n 1, 1) := by decide +kernel
theorem dX7_pullOf_5 : decode cX7_pullOf 5 = .ok (.invokevirtual 100, 3) := by decide +kernel
theorem dX7_pullOf_8 : decode cX7_pullOf 8 = .ok (.astore_n 3, 1) := by decide +kernel
theorem dX7_pullOf_9 : decode cX7_pullOf 9 = .ok (.aload_n 3, 1) := by decide +kernel
theorem dX7_pullOf_10 : decode cX7_pullOf 10 = .ok (.ifnonnull 9, 3) := by decide +kernel
theorem dX7_pullOf_13 : decode cX7_pullOf 13 = .ok (.aload_n 0, 1) := by decide +kernel
theorem dX7_pullOf_14 : decode cX7_pullOf 14 = .ok (.iconst 5, 1) := by decide +kernel
theorem dX7_pullOf_15 : decode cX7_pullOf 15 = .ok (.invokevirtual 63, 3) := by decide +kernel
theorem dX7_pullOf_18 : decode cX7_pullOf 18 = .ok (.ireturn, 1) := by decide +kernel
set_option maxRecDepth 20000 in
theorem ggX7_teeth_X7_within : GoodIn wsX7_teeth wsX7_within := goodIn_r _ [7] (by decide +kernel) (by decide +kernel)
set_option maxRecDepth 20000 in
theorem gX7_teeth_X7_within : GoodIn wsX7_teeth (va_wsS RX7 67 yX7_within wsX7_within) := goodIn_app (goodIn_of _ (by decide +kernel)) ggX7_teeth_X7_within
set_option maxRecDepth 20000 in
theorem ggX7_teeth_X7_refuse : GoodIn wsX7_teeth wsX7_refuse := goodIn_r _ [11, 12, 4, 5, 6, 7, 22, 23, 24, 25, 26, 27, 28, 29, 30] (by decide +kernel) (by decide +kernel)
set_option maxRecDepth 20000 in
theorem gX7_teeth_X7_refuse : GoodIn wsX7_teeth (wsV RX7 63 RX7 yX7_refuse wsX7_refuse) := goodIn_app (goodIn_of _ (by decide +kernel)) ggX7_teeth_X7_refuse
set_option maxRecDepth 20000 in
theorem ggX7_teeth_X6_renew : GoodIn wsX7_teeth wsX6_renew := goodIn_r _ [17, 18, 19, 20, 21, 40, 41, 42, 43, 44] (by decide +kernel) (by decide +kernel)
set_option maxRecDepth 20000 in
theorem gX7_teeth_X6_renew : GoodIn wsX7_teeth (wsV RX7 149 RX6 yX6_renew wsX6_renew) := goodIn_app (goodIn_of _ (by decide +kernel)) ggX7_teeth_X6_renew
theorem dX7_teeth_0 : decode cX7_teeth 0 = .ok (.iload_n 1, 1) := by decide +kernel
theorem dX7_teeth_1 : decode cX7_teeth 1 = .ok (.iconst 4, 1) := by decide +kernel
theorem dX7_teeth_2 : decode cX7_teeth 2 = .ok (.bipush 40, 2) := by decide +kernel
theorem dX7_teeth_4 : decode cX7_teeth 4 = .ok (.invokestatic 67, 3) := by decide +kernel
theorem dX7_teeth_7 : decode cX7_teeth 7 = .ok (.ifCond .ne 10, 3) := by decide +kernel
theorem dX7_teeth_10 : decode cX7_teeth 10 = .ok (.aload_n 0, 1) := by decide +kernel
theorem dX7_teeth_11 : decode cX7_teeth 11 = .ok (.bipush 6, 2) := by decide +kernel
theorem dX7_teeth_13 : decode cX7_teeth 13 = .ok (.invokevirtual 63, 3) := by decide +kernel
theorem dX7_teeth_16 : decode cX7_teeth 16 = .ok (.ireturn, 1) := by decide +kernel
theorem dX7_teeth_17 : decode cX7_teeth 17 = .ok (.aload_n 0, 1) := by decide +kernel
theorem dX7_teeth_18 : decode cX7_teeth 18 = .ok (.getfield 18, 3) := by decide +kernel
theorem dX7_teeth_21 : decode cX7_teeth 21 = .ok (.getfield 140, 3) := by decide +kernel
theorem dX7_teeth_24 : decode cX7_teeth 24 = .ok (.getfield 144, 3) := by decide +kernel
theorem dX7_teeth_27 : decode cX7_teeth 27 = .ok (.istore_n 2, 1) := by decide +kernel
theorem dX7_teeth_28 : decode cX7_teeth 28 = .ok (.aload_n 0, 1) := by decide +kernel
theorem dX7_teeth_29 : decode cX7_teeth 29 = .ok (.getfield 18, 3) := by decide +kernel
theorem dX7_teeth_32 : decode cX7_teeth 32 = .ok (.getfield 140, 3) := by decide +kernel
theorem dX7_teeth_35 : decode cX7_teeth 35 = .ok (.iload_n 1, 1) := by decide +kernel
theorem dX7_teeth_36 : decode cX7_teeth 36 = .ok (.invokevirtual 149, 3) := by decide +kernel
theorem dX7_teeth_39 : decode cX7_teeth 39 = .ok (.iload_n 2, 1) := by decide +kernel
theorem dX7_teeth_40 : decode cX7_teeth 40 = .ok (.ireturn, 1) := by decide +kernel
set_option maxRecDepth 20000 in
theorem ggX7_lack_X6_has : GoodIn wsX7_lack wsX6_has := goodIn_r _ [8, 9, 37, 38, 39, 40, 41] (by decide +kernel) (by decide +kernel)
set_option maxRecDepth 20000 in
theorem gX7_lack_X6_has : GoodIn wsX7_lack (wsV RX7 153 RX6 yX6_has wsX6_has) := goodIn_app (goodIn_of _ (by decide +kernel)) ggX7_lack_X6_has
set_option maxRecDepth 20000 in
theorem ggX7_lack_X7_refuse : GoodIn wsX7_lack wsX7_refuse := goodIn_r _ [14, 15, 16, 17, 13, 18, 19, 20, 21, 22, 23, 24, 25, 26, 27] (by decide +kernel) (by decide +kernel)
set_option maxRecDepth 20000 in
theorem gX7_lack_X7_refuse : GoodIn wsX7_lack (wsV RX7 63 RX7 yX7_refuse wsX7_refuse) := goodIn_app (goodIn_of _ (by decide +kernel)) ggX7_lack_X7_refuse
theorem dX7_lack_0 : decode cX7_lack 0 = .ok (.aload_n 0, 1) := by decide +kernel
theorem dX7_lack_1 : decode cX7_lack 1 = .ok (.getfield 18, 3) := by decide +kernel
theorem dX7_lack_4 : decode cX7_lack 4 = .ok (.getfield 140, 3) := by decide +kernel
theorem dX7_lack_7 : decode cX7_lack 7 = .ok (.iload_n 1, 1) := by decide +kernel
theorem dX7_lack_8 : decode cX7_lack 8 = .ok (.invokevirtual 153, 3) := by decide +kernel
theorem dX7_lack_11 : decode cX7_lack 11 = .ok (.ifCond .ne 9, 3) := by decide +kernel
theorem dX7_lack_14 : decode cX7_lack 14 = .ok (.aload_n 0, 1) := by decide +kernel
theorem dX7_lack_15 : decode cX7_lack 15 = .ok (.iconst 1, 1) := by decide +kernel
theorem dX7_lack_16 : decode cX7_lack 16 = .ok (.invokevirtual 63, 3) := by decide +kernel
theorem dX7_lack_19 : decode cX7_lack 19 = .ok (.ireturn, 1) := by decide +kernel
theorem dX7_lack_20 : decode cX7_lack 20 = .ok (.aload_n 0, 1) := by decide +kernel
theorem dX7_lack_21 : decode cX7_lack 21 = .ok (.getfield 18, 3) := by decide +kernel
theorem dX7_lack_24 : decode cX7_lack 24 = .ok (.getfield 140, 3) := by decide +kernel
theorem dX7_lack_27 : decode cX7_lack 27 = .ok (.getfield 156, 3) := by decide +kernel
theorem dX7_lack_30 : decode cX7_lack 30 = .ok (.iload_n 1, 1) := by decide +kernel
theorem dX7_lack_31 : decode cX7_lack 31 = .ok (.baload, 1) := by decide +kernel
theorem dX7_lack_32 : decode cX7_lack 32 = .ok (.istore_n 3, 1) := by decide +kernel
theorem dX7_lack_33 : decode cX7_lack 33 = .ok (.aload_n 0, 1) := by decide +kernel
theorem dX7_lack_34 : decode cX7_lack 34 = .ok (.getfield 18, 3) := by decide +kernel
theorem dX7_lack_37 : decode cX7_lack 37 = .ok (.getfield 140, 3) := by decide +kernel
theorem dX7_lack_40 : decode cX7_lack 40 = .ok (.getfield 156, 3) := by decide +kernel
theorem dX7_lack_43 : decode cX7_lack 43 = .ok (.iload_n 1, 1) := by decide +kernel
theorem dX7_lack_44 : decode cX7_lack 44 = .ok (.iload_n 2, 1) := by decide +kernel
theorem dX7_lack_45 : decode cX7_lack 45 = .ok (.bastore, 1) := by decide +kernel
theorem dX7_lack_46 : decode cX7_lack 46 = .ok (.iload_n 3, 1) := by decide +kernel
theorem dX7_lack_47 : decode cX7_lack 47 = .ok (.ifCond .eq 7, 3) := by decide +kernel
theorem dX7_lack_54 : decode cX7_lack 54 = .ok (.iconst 0, 1) := by decide +kernel
theorem dX7_lack_55 : decode cX7_lack 55 = .ok (.ireturn, 1) := by decide +kernel
set_option maxRecDepth 20000 in
theorem ggX7_slack_X6_has : GoodIn wsX7_slack wsX6_has := goodIn_r _ [8, 9, 37, 38, 39, 40, 41] (by decide +kernel) (by decide +kernel)
set_option maxRecDepth 20000 in
theorem gX7_slack_X6_has : GoodIn wsX7_slack (wsV RX7 153 RX6 yX6_has wsX6_has) := goodIn_app (goodIn_of _ (by decide +kernel)) ggX7_slack_X6_has
set_option maxRecDepth 20000 in
theorem ggX7_slack_X7_refuse : GoodIn wsX7_slack wsX7_refuse := goodIn_r _ [14, 15, 16, 17, 13, 18, 19, 20, 21, 22, 23, 24, 25, 26, 27] (by decide +kernel) (by decide +kernel)
set_option maxRecDepth 20000 in
theorem gX7_slack_X7_refuse : GoodIn wsX7_slack (wsV RX7 63 RX7 yX7_refuse wsX7_refuse) := goodIn_app (goodIn_of _ (by decide +kernel)) ggX7_slack_X7_refuse
set_option maxRecDepth 20000 in
theorem ggX7_slack_X7_within : GoodIn wsX7_slack wsX7_within := goodIn_r _ [18] (by decide +kernel) (by decide +kernel)
set_option maxRecDepth 20000 in
theorem gX7_slack_X7_within : GoodIn wsX7_slack (va_wsS RX7 67 yX7_within wsX7_within) := goodIn_app (goodIn_of _ (by decide +kernel)) ggX7_slack_X7_within
theorem dX7_slack_0 : decode cX7_slack 0 = .ok (.aload_n 0, 1) := by decide +kernel
theorem dX7_slack_1 : decode cX7_slack 1 = .ok (.getfield 18, 3) := by decide +kernel
theorem dX7_slack_4 : decode cX7_slack 4 = .ok (.getfield 140, 3) := by decide +kernel
theorem dX7_slack_7 : decode cX7_slack 7 = .ok (.iload_n 1, 1) := by decide +kernel
theorem dX7_slack_8 : decode cX7_slack 8 = .ok (.invokevirtual 153, 3) := by decide +kernel
theorem dX7_slack_11 : decode cX7_slack 11 = .ok (.ifCond .ne 9, 3) := by decide +kernel
theorem dX7_slack_14 : decode cX7_slack 14 = .ok (.aload_n 0, 1) := by decide +kernel
theorem dX7_slack_15 : decode cX7_slack 15 = .ok (.iconst 1, 1) := by decide +kernel
theorem dX7_slack_16 : decode cX7_slack 16 = .ok (.invokevirtual 63, 3) := by decide +kernel
theorem dX7_slack_19 : decode cX7_slack 19 = .ok (.ireturn, 1) := by decide +kernel
theorem dX7_slack_20 : decode cX7_slack 20 = .ok (.iload_n 2, 1) := by decide +kernel
