set_option maxRecDepth 20000 in
theorem ggX0_init_X6_init : GoodIn wsX0_init wsX6_init := goodIn_r _ [19, 20, 2, 3, 21, 22, 10, 23, 24, 25, 26, 27, 28, 29, 30, 31] (by decide +kernel) (by decide +kernel)
set_option maxRecDepth 20000 in
theorem gX0_init_X6_init_n11 : GoodIn wsX0_init (wsX6_init) := ggX0_init_X6_init
theorem dX0_init_0 : decode cX0_init 0 = .ok (.aload_n 0, 1) := by decide +kernel
theorem dX0_init_1 : decode cX0_init 1 = .ok (.invokespecial 3, 3) := by decide +kernel
theorem dX0_init_4 : decode cX0_init 4 = .ok (.aload_n 0, 1) := by decide +kernel
theorem dX0_init_5 : decode cX0_init 5 = .ok (.new 9, 3) := by decide +kernel
theorem dX0_init_8 : decode cX0_init 8 = .ok (.dup, 1) := by decide +kernel
theorem dX0_init_9 : decode cX0_init 9 = .ok (.invokespecial 11, 3) := by decide +kernel
theorem dX0_init_12 : decode cX0_init 12 = .ok (.putfield 12, 3) := by decide +kernel
theorem dX0_init_15 : decode cX0_init 15 = .ok (.aload_n 0, 1) := by decide +kernel
theorem dX0_init_16 : decode cX0_init 16 = .ok (.bipush 8, 2) := by decide +kernel
theorem dX0_init_18 : decode cX0_init 18 = .ok (.anewarray 18, 3) := by decide +kernel
theorem dX0_init_21 : decode cX0_init 21 = .ok (.putfield 20, 3) := by decide +kernel
theorem dX0_init_24 : decode cX0_init 24 = .ok (.aload_n 0, 1) := by decide +kernel
theorem dX0_init_25 : decode cX0_init 25 = .ok (.iconst 3, 1) := by decide +kernel
theorem dX0_init_26 : decode cX0_init 26 = .ok (.newarray .int, 2) := by decide +kernel
theorem dX0_init_28 : decode cX0_init 28 = .ok (.dup, 1) := by decide +kernel
theorem dX0_init_29 : decode cX0_init 29 = .ok (.iconst 0, 1) := by decide +kernel
theorem dX0_init_30 : decode cX0_init 30 = .ok (.iconst 5, 1) := by decide +kernel
theorem dX0_init_31 : decode cX0_init 31 = .ok (.iastore, 1) := by decide +kernel
theorem dX0_init_32 : decode cX0_init 32 = .ok (.dup, 1) := by decide +kernel
theorem dX0_init_33 : decode cX0_init 33 = .ok (.iconst 1, 1) := by decide +kernel
theorem dX0_init_34 : decode cX0_init 34 = .ok (.bipush 10, 2) := by decide +kernel
theorem dX0_init_36 : decode cX0_init 36 = .ok (.iastore, 1) := by decide +kernel
theorem dX0_init_37 : decode cX0_init 37 = .ok (.dup, 1) := by decide +kernel
theorem dX0_init_38 : decode cX0_init 38 = .ok (.iconst 2, 1) := by decide +kernel
theorem dX0_init_39 : decode cX0_init 39 = .ok (.bipush 50, 2) := by decide +kernel
theorem dX0_init_41 : decode cX0_init 41 = .ok (.iastore, 1) := by decide +kernel
theorem dX0_init_42 : decode cX0_init 42 = .ok (.putfield 24, 3) := by decide +kernel
theorem dX0_init_45 : decode cX0_init 45 = .ok (.aload_n 0, 1) := by decide +kernel
theorem dX0_init_46 : decode cX0_init 46 = .ok (.iconst 0, 1) := by decide +kernel
theorem dX0_init_47 : decode cX0_init 47 = .ok (.putfield 28, 3) := by decide +kernel
theorem dX0_init_50 : decode cX0_init 50 = .ok (.aload_n 0, 1) := by decide +kernel
theorem dX0_init_51 : decode cX0_init 51 = .ok (.iconst 0, 1) := by decide +kernel
theorem dX0_init_52 : decode cX0_init 52 = .ok (.putfield 32, 3) := by decide +kernel
theorem dX0_init_55 : decode cX0_init 55 = .ok (.aload_n 0, 1) := by decide +kernel
theorem dX0_init_56 : decode cX0_init 56 = .ok (.iconst 0, 1) := by decide +kernel
theorem dX0_init_57 : decode cX0_init 57 = .ok (.putfield 35, 3) := by decide +kernel
theorem dX0_init_60 : decode cX0_init 60 = .ok (.aload_n 0, 1) := by decide +kernel
theorem dX0_init_61 : decode cX0_init 61 = .ok (.bipush 60, 2) := by decide +kernel
theorem dX0_init_63 : decode cX0_init 63 = .ok (.putfield 38, 3) := by decide +kernel
theorem dX0_init_66 : decode cX0_init 66 = .ok (.aload_n 0, 1) := by decide +kernel
theorem dX0_init_67 : decode cX0_init 67 = .ok (.iconst 0, 1) := by decide +kernel
theorem dX0_init_68 : decode cX0_init 68 = .ok (.putfield 41, 3) := by decide +kernel
theorem dX0_init_71 : decode cX0_init 71 = .ok (.aload_n 0, 1) := by decide +kernel
theorem dX0_init_72 : decode cX0_init 72 = .ok (.iconst 1, 1) := by decide +kernel
theorem dX0_init_73 : decode cX0_init 73 = .ok (.putfield 44, 3) := by decide +kernel
theorem dX0_init_76 : decode cX0_init 76 = .ok (.return_, 1) := by decide +kernel
set_option maxRecDepth 20000 in
theorem ggX0_become_X6_become : GoodIn wsX0_become wsX6_become := goodIn_r _ [18, 19, 20, 21, 22, 23, 33, 34, 35, 36, 37] (by decide +kernel) (by decide +kernel)
set_option maxRecDepth 20000 in
theorem gX0_become_X6_become : GoodIn wsX0_become (wsV RX0 47 RX6 yX6_become wsX6_become) := goodIn_app (goodIn_of _ (by decide +kernel)) ggX0_become_X6_become
theorem dX0_become_0 : decode cX0_become 0 = .ok (.aload_n 0, 1) := by decide +kernel
theorem dX0_become_1 : decode cX0_become 1 = .ok (.getfield 12, 3) := by decide +kernel
theorem dX0_become_4 : decode cX0_become 4 = .ok (.aload_n 1, 1) := by decide +kernel
theorem dX0_become_5 : decode cX0_become 5 = .ok (.getfield 12, 3) := by decide +kernel
theorem dX0_become_8 : decode cX0_become 8 = .ok (.invokevirtual 47, 3) := by decide +kernel
theorem dX0_become_11 : decode cX0_become 11 = .ok (.iconst 0, 1) := by decide +kernel
theorem dX0_become_12 : decode cX0_become 12 = .ok (.istore_n 2, 1) := by decide +kernel
theorem dX0_become_13 : decode cX0_become 13 = .ok (.iload_n 2, 1) := by decide +kernel
theorem dX0_become_14 : decode cX0_become 14 = .ok (.bipush 8, 2) := by decide +kernel
theorem dX0_become_16 : decode cX0_become 16 = .ok (.if_icmp .ge 21, 3) := by decide +kernel
theorem dX0_become_19 : decode cX0_become 19 = .ok (.aload_n 0, 1) := by decide +kernel
theorem dX0_become_20 : decode cX0_become 20 = .ok (.getfield 20, 3) := by decide +kernel
theorem dX0_become_23 : decode cX0_become 23 = .ok (.iload_n 2, 1) := by decide +kernel
theorem dX0_become_24 : decode cX0_become 24 = .ok (.aload_n 1, 1) := by decide +kernel
theorem dX0_become_25 : decode cX0_become 25 = .ok (.getfield 20, 3) := by decide +kernel
theorem dX0_become_28 : decode cX0_become 28 = .ok (.iload_n 2, 1) := by decide +kernel
theorem dX0_become_29 : decode cX0_become 29 = .ok (.aaload, 1) := by decide +kernel
theorem dX0_become_30 : decode cX0_become 30 = .ok (.aastore, 1) := by decide +kernel
theorem dX0_become_31 : decode cX0_become 31 = .ok (.iinc 2 1, 3) := by decide +kernel
theorem dX0_become_34 : decode cX0_become 34 = .ok (.goto (-21), 3) := by decide +kernel
theorem dX0_become_37 : decode cX0_become 37 = .ok (.aload_n 1, 1) := by decide +kernel
theorem dX0_become_38 : decode cX0_become 38 = .ok (.getfield 24, 3) := by decide +kernel
theorem dX0_become_41 : decode cX0_become 41 = .ok (.iconst 0, 1) := by decide +kernel
theorem dX0_become_42 : decode cX0_become 42 = .ok (.aload_n 0, 1) := by decide +kernel
theorem dX0_become_43 : decode cX0_become 43 = .ok (.getfield 24, 3) := by decide +kernel
theorem dX0_become_46 : decode cX0_become 46 = .ok (.iconst 0, 1) := by decide +kernel
theorem dX0_become_47 : decode cX0_become 47 = .ok (.iconst 3, 1) := by decide +kernel
theorem dX0_become_48 : decode cX0_become 48 = .ok (.invokestatic 51, 3) := by decide +kernel
theorem dX0_become_51 : decode cX0_become 51 = .ok (.aload_n 0, 1) := by decide +kernel
theorem dX0_become_52 : decode cX0_become 52 = .ok (.aload_n 1, 1) := by decide +kernel
theorem dX0_become_53 : decode cX0_become 53 = .ok (.getfield 28, 3) := by decide +kernel
theorem dX0_become_56 : decode cX0_become 56 = .ok (.putfield 28, 3) := by decide +kernel
theorem dX0_become_59 : decode cX0_become 59 = .ok (.aload_n 0, 1) := by decide +kernel
theorem dX0_become_60 : decode cX0_become 60 = .ok (.aload_n 1, 1) := by decide +kernel
theorem dX0_become_61 : decode cX0_become 61 = .ok (.getfield 32, 3) := by decide +kernel
theorem dX0_become_64 : decode cX0_become 64 = .ok (.putfield 32, 3) := by decide +kernel
theorem dX0_become_67 : decode cX0_become 67 = .ok (.aload_n 0, 1) := by decide +kernel
theorem dX0_become_68 : decode cX0_become 68 = .ok (.aload_n 1, 1) := by decide +kernel
theorem dX0_become_69 : decode cX0_become 69 = .ok (.getfield 35, 3) := by decide +kernel
theorem dX0_become_72 : decode cX0_become 72 = .ok (.putfield 35, 3) := by decide +kernel
theorem dX0_become_75 : decode cX0_become 75 = .ok (.aload_n 0, 1) := by decide +kernel
theorem dX0_become_76 : decode cX0_become 76 = .ok (.aload_n 1, 1) := by decide +kernel
theorem dX0_become_77 : decode cX0_become 77 = .ok (.getfield 38, 3) := by decide +kernel
theorem dX0_become_80 : decode cX0_become 80 = .ok (.putfield 38, 3) := by decide +kernel
theorem dX0_become_83 : decode cX0_become 83 = .ok (.aload_n 0, 1) := by decide +kernel
theorem dX0_become_84 : decode cX0_become 84 = .ok (.aload_n 1, 1) := by decide +kernel
theorem dX0_become_85 : decode cX0_become 85 = .ok (.getfield 41, 3) := by decide +kernel
theorem dX0_become_88 : decode cX0_become 88 = .ok (.putfield 41, 3) := by decide +kernel
theorem dX0_become_91 : decode cX0_become 91 = .ok (.aload_n 0, 1) := by decide +kernel
theorem dX0_become_92 : decode cX0_become 92 = .ok (.aload_n 1, 1) := by decide +kernel
theorem dX0_become_93 : decode cX0_become 93 = .ok (.getfield 44, 3) := by decide +kernel
theorem dX0_become_96 : decode cX0_become 96 = .ok (.putfield 44, 3) := by decide +kernel
theorem dX0_become_99 : decode cX0_become 99 = .ok (.return_, 1) := by decide +kernel
theorem dX0_leastOf_0 : decode cX0_leastOf 0 = .ok (.iload_n 0, 1) := by decide +kernel
theorem dX0_leastOf_1 : decode cX0_leastOf 1 = .ok (.iconst 3, 1) := by decide +kernel
theorem dX0_leastOf_2 : decode cX0_leastOf 2 = .ok (.if_icmp .ne 7, 3) := by decide +kernel
theorem dX0_leastOf_5 : decode cX0_leastOf 5 = .ok (.iconst 1, 1) := by decide +kernel
theorem dX0_leastOf_6 : decode cX0_leastOf 6 = .ok (.goto 4, 3) := by decide +kernel
theorem dX0_leastOf_9 : decode cX0_leastOf 9 = .ok (.iconst 0, 1) := by decide +kernel
theorem dX0_leastOf_10 : decode cX0_leastOf 10 = .ok (.ireturn, 1) := by decide +kernel
theorem dX0_mostOf_0 : decode cX0_mostOf 0 = .ok (.iload_n 1, 1) := by decide +kernel
theorem dX0_mostOf_1 : decode cX0_mostOf 1 = .ok (.tableswitch 68 0 7 #[47, 50, 54, 57, 68, 68, 68, 60], 47) := by decide +kernel
theorem dX0_mostOf_48 : decode cX0_mostOf 48 = .ok (.bipush 24, 2) := by decide +kernel
theorem dX0_mostOf_50 : decode cX0_mostOf 50 = .ok (.ireturn, 1) := by decide +kernel
theorem dX0_mostOf_51 : decode cX0_mostOf 51 = .ok (.sipush 300, 3) := by decide +kernel
theorem dX0_mostOf_54 : decode cX0_mostOf 54 = .ok (.ireturn, 1) := by decide +kernel
theorem dX0_mostOf_55 : decode cX0_mostOf 55 = .ok (.bipush 9, 2) := by decide +kernel
theorem dX0_mostOf_57 : decode cX0_mostOf 57 = .ok (.ireturn, 1) := by decide +kernel
theorem dX0_mostOf_58 : decode cX0_mostOf 58 = .ok (.bipush 9, 2) := by decide +kernel
theorem dX0_mostOf_60 : decode cX0_mostOf 60 = .ok (.ireturn, 1) := by decide +kernel
theorem dX0_mostOf_61 : decode cX0_mostOf 61 = .ok (.aload_n 0, 1) := by decide +kernel
theorem dX0_mostOf_62 : decode cX0_mostOf 62 = .ok (.getfield 12, 3) := by decide +kernel
theorem dX0_mostOf_65 : decode cX0_mostOf 65 = .ok (.getfield 57, 3) := by decide +kernel
theorem dX0_mostOf_68 : decode cX0_mostOf 68 = .ok (.ireturn, 1) := by decide +kernel
theorem dX0_mostOf_69 : decode cX0_mostOf 69 = .ok (.bipush 99, 2) := by decide +kernel
theorem dX0_mostOf_71 : decode cX0_mostOf 71 = .ok (.ireturn, 1) := by decide +kernel
set_option maxRecDepth 20000 in
theorem ggX0_number_X7_within : GoodIn wsX0_number wsX7_within := goodIn_r _ [10] (by decide +kernel) (by decide +kernel)
set_option maxRecDepth 20000 in
theorem gX0_number_X7_within_n66 : GoodIn wsX0_number (wsX7_within) := ggX0_number_X7_within
theorem dX0_number_0 : decode cX0_number 0 = .ok (.iload_n 1, 1) := by decide +kernel
theorem dX0_number_1 : decode cX0_number 1 = .ok (.tableswitch 78 0 7 #[47, 52, 57, 62, 78, 78, 78, 70], 47) := by decide +kernel
theorem dX0_number_48 : decode cX0_number 48 = .ok (.aload_n 0, 1) := by decide +kernel
theorem dX0_number_49 : decode cX0_number 49 = .ok (.getfield 32, 3) := by decide +kernel
theorem dX0_number_52 : decode cX0_number 52 = .ok (.ireturn, 1) := by decide +kernel
theorem dX0_number_53 : decode cX0_number 53 = .ok (.aload_n 0, 1) := by decide +kernel
theorem dX0_number_54 : decode cX0_number 54 = .ok (.getfield 38, 3) := by decide +kernel
theorem dX0_number_57 : decode cX0_number 57 = .ok (.ireturn, 1) := by decide +kernel
theorem dX0_number_58 : decode cX0_number 58 = .ok (.aload_n 0, 1) := by decide +kernel
theorem dX0_number_59 : decode cX0_number 59 = .ok (.getfield 41, 3) := by decide +kernel
theorem dX0_number_62 : decode cX0_number 62 = .ok (.ireturn, 1) := by decide +kernel
theorem dX0_number_63 : decode cX0_number 63 = .ok (.aload_n 0, 1) := by decide +kernel
theorem dX0_number_64 : decode cX0_number 64 = .ok (.getfield 12, 3) := by decide +kernel
theorem dX0_number_67 : decode cX0_number 67 = .ok (.getfield 60, 3) := by decide +kernel
theorem dX0_number_70 : decode cX0_number 70 = .ok (.ireturn, 1) := by decide +kernel
theorem dX0_number_71 : decode cX0_number 71 = .ok (.aload_n 0, 1) := by decide +kernel
theorem dX0_number_72 : decode cX0_number 72 = .ok (.getfield 12, 3) := by decide +kernel
theorem dX0_number_75 : decode cX0_number 75 = .ok (.getfield 63, 3) := by decide +kernel
theorem dX0_number_78 : decode cX0_number 78 = .ok (.ireturn, 1) := by decide +kernel
theorem dX0_number_79 : decode cX0_number 79 = .ok (.iload_n 1, 1) := by decide +kernel
theorem dX0_number_80 : decode cX0_number 80 = .ok (.iconst 4, 1) := by decide +kernel
theorem dX0_number_81 : decode cX0_number 81 = .ok (.isub, 1) := by decide +kernel
theorem dX0_number_82 : decode cX0_number 82 = .ok (.iconst 0, 1) := by decide +kernel
theorem dX0_number_83 : decode cX0_number 83 = .ok (.iconst 2, 1) := by decide +kernel
theorem dX0_number_84 : decode cX0_number 84 = .ok (.invokestatic 66, 3) := by decide +kernel
theorem dX0_number_87 : decode cX0_number 87 = .ok (.ifCond .eq 14, 3) := by decide +kernel
theorem dX0_number_90 : decode cX0_number 90 = .ok (.aload_n 0, 1) := by decide +kernel
theorem dX0_number_91 : decode cX0_number 91 = .ok (.getfield 24, 3) := by decide +kernel
theorem dX0_number_94 : decode cX0_number 94 = .ok (.iload_n 1, 1) := by decide +kernel
theorem dX0_number_95 : decode cX0_number 95 = .ok (.iconst 4, 1) := by decide +kernel
theorem dX0_number_96 : decode cX0_number 96 = .ok (.isub, 1) := by decide +kernel
theorem dX0_number_97 : decode cX0_number 97 = .ok (.iaload, 1) := by decide +kernel
theorem dX0_number_98 : decode cX0_number 98 = .ok (.goto 4, 3) := by decide +kernel
theorem dX0_number_101 : decode cX0_number 101 = .ok (.iconst 0, 1) := by decide +kernel
theorem dX0_number_102 : decode cX0_number 102 = .ok (.ireturn, 1) := by decide +kernel
set_option maxRecDepth 20000 in
theorem ggX0_setNumber_X7_within : GoodIn wsX0_setNumber wsX7_within := goodIn_r _ [10] (by decide +kernel) (by decide +kernel)
set_option maxRecDepth 20000 in
theorem gX0_setNumber_X7_within_n66 : GoodIn wsX0_setNumber (wsX7_within) := ggX0_setNumber_X7_within
theorem dX0_setNumber_0 : decode cX0_setNumber 0 = .ok (.iload_n 1, 1) := by decide +kernel
theorem dX0_setNumber_1 : decode cX0_setNumber 1 = .ok (.tableswitch 93 0 7 #[47, 55, 63, 71, 93, 93, 93, 82], 47) := by decide +kernel
theorem dX0_setNumber_48 : decode cX0_setNumber 48 = .ok (.aload_n 0, 1) := by decide +kernel
theorem dX0_setNumber_49 : decode cX0_setNumber 49 = .ok (.iload_n 2, 1) := by decide +kernel
theorem dX0_setNumber_50 : decode cX0_setNumber 50 = .ok (.putfield 32, 3) := by decide +kernel
theorem dX0_setNumber_53 : decode cX0_setNumber 53 = .ok (.goto 61, 3) := by decide +kernel
theorem dX0_setNumber_56 : decode cX0_setNumber 56 = .ok (.aload_n 0, 1) := by decide +kernel
theorem dX0_setNumber_57 : decode cX0_setNumber 57 = .ok (.iload_n 2, 1) := by decide +kernel
theorem dX0_setNumber_58 : decode cX0_setNumber 58 = .ok (.putfield 38, 3) := by decide +kernel
theorem dX0_setNumber_61 : decode cX0_setNumber 61 = .ok (.goto 53, 3) := by decide +kernel
theorem dX0_setNumber_64 : decode cX0_setNumber 64 = .ok (.aload_n 0, 1) := by decide +kernel
theorem dX0_setNumber_65 : decode cX0_setNumber 65 = .ok (.iload_n 2, 1) := by decide +kernel
theorem dX0_setNumber_66 : decode cX0_setNumber 66 = .ok (.putfield 41, 3) := by decide +kernel
theorem dX0_setNumber_69 : decode cX0_setNumber 69 = .ok (.goto 45, 3) := by decide +kernel
theorem dX0_setNumber_72 : decode cX0_setNumber 72 = .ok (.aload_n 0, 1) := by decide +kernel
theorem dX0_setNumber_73 : decode cX0_setNumber 73 = .ok (.getfield 12, 3) := by decide +kernel
theorem dX0_setNumber_76 : decode cX0_setNumber 76 = .ok (.iload_n 2, 1) := by decide +kernel
theorem dX0_setNumber_77 : decode cX0_setNumber 77 = .ok (.putfield 60, 3) := by decide +kernel
theorem dX0_setNumber_80 : decode cX0_setNumber 80 = .ok (.goto 34, 3) := by decide +kernel
theorem dX0_setNumber_83 : decode cX0_setNumber 83 = .ok (.aload_n 0, 1) := by decide +kernel
theorem dX0_setNumber_84 : decode cX0_setNumber 84 = .ok (.getfield 12, 3) := by decide +kernel
theorem dX0_setNumber_87 : decode cX0_setNumber 87 = .ok (.iload_n 2, 1) := by decide +kernel
theorem dX0_setNumber_88 : decode cX0_setNumber 88 = .ok (.putfield 63, 3) := by decide +kernel
theorem dX0_setNumber_91 : decode cX0_setNumber 91 = .ok (.goto 23, 3) := by decide +kernel
theorem dX0_setNumber_94 : decode cX0_setNumber 94 = .ok (.iload_n 1, 1) := by decide +kernel
theorem dX0_setNumber_95 : decode cX0_setNumber 95 = .ok (.iconst 4, 1) := by decide +kernel
theorem dX0_setNumber_96 : decode cX0_setNumber 96 = .ok (.isub, 1) := by decide +kernel
theorem dX0_setNumber_97 : decode cX0_setNumber 97 = .ok (.iconst 0, 1) := by decide +kernel
theorem dX0_setNumber_98 : decode cX0_setNumber 98 = .ok (.iconst 2, 1) := by decide +kernel
theorem dX0_setNumber_99 : decode cX0_setNumber 99 = .ok (.invokestatic 66, 3) := by decide +kernel
theorem dX0_setNumber_102 : decode cX0_setNumber 102 = .ok (.ifCond .eq 12, 3) := by decide +kernel
theorem dX0_setNumber_105 : decode cX0_setNumber 105 = .ok (.aload_n 0, 1) := by decide +kernel
theorem dX0_setNumber_106 : decode cX0_setNumber 106 = .ok (.getfield 24, 3) := by decide +kernel
theorem dX0_setNumber_109 : decode cX0_setNumber 109 = .ok (.iload_n 1, 1) := by decide +kernel
theorem dX0_setNumber_110 : decode cX0_setNumber 110 = .ok (.iconst 4, 1) := by decide +kernel
theorem dX0_setNumber_111 : decode cX0_setNumber 111 = .ok (.isub, 1) := by decide +kernel
theorem dX0_setNumber_112 : decode cX0_setNumber 112 = .ok (.iload_n 2, 1) := by decide +kernel
theorem dX0_setNumber_113 : decode cX0_setNumber 113 = .ok (.iastore, 1) := by decide +kernel
theorem dX0_setNumber_114 : decode cX0_setNumber 114 = .ok (.return_, 1) := by decide +kernel
set_option maxRecDepth 20000 in
theorem ggX0_pullAt_X7_within : GoodIn wsX0_pullAt wsX7_within := goodIn_r _ [5] (by decide +kernel) (by decide +kernel)
set_option maxRecDepth 20000 in
theorem gX0_pullAt_X7_within_n66 : GoodIn wsX0_pullAt (wsX7_within) := ggX0_pullAt_X7_within
theorem dX0_pullAt_0 : decode cX0_pullAt 0 = .ok (.iload_n 1, 1) := by decide +kernel
theorem dX0_pullAt_1 : decode cX0_pullAt 1 = .ok (.iconst 0, 1) := by decide +kernel
theorem dX0_pullAt_2 : decode cX0_pullAt 2 = .ok (.aload_n 0, 1) := by decide +kernel
theorem dX0_pullAt_3 : decode cX0_pullAt 3 = .ok (.getfield 28, 3) := by decide +kernel
theorem dX0_pullAt_6 : decode cX0_pullAt 6 = .ok (.iconst 1, 1) := by decide +kernel
theorem dX0_pullAt_7 : decode cX0_pullAt 7 = .ok (.isub, 1) := by decide +kernel
theorem dX0_pullAt_8 : decode cX0_pullAt 8 = .ok (.invokestatic 66, 3) := by decide +kernel
theorem dX0_pullAt_11 : decode cX0_pullAt 11 = .ok (.ifCond .eq 18, 3) := by decide +kernel
theorem dX0_pullAt_14 : decode cX0_pullAt 14 = .ok (.iload_n 1, 1) := by decide +kernel
theorem dX0_pullAt_15 : decode cX0_pullAt 15 = .ok (.bipush 8, 2) := by decide +kernel
theorem dX0_pullAt_17 : decode cX0_pullAt 17 = .ok (.if_icmp .ge 12, 3) := by decide +kernel
theorem dX0_pullAt_20 : decode cX0_pullAt 20 = .ok (.aload_n 0, 1) := by decide +kernel
theorem dX0_pullAt_21 : decode cX0_pullAt 21 = .ok (.getfield 20, 3) := by decide +kernel
theorem dX0_pullAt_24 : decode cX0_pullAt 24 = .ok (.iload_n 1, 1) := by decide +kernel
theorem dX0_pullAt_25 : decode cX0_pullAt 25 = .ok (.aaload, 1) := by decide +kernel
theorem dX0_pullAt_26 : decode cX0_pullAt 26 = .ok (.goto 4, 3) := by decide +kernel
theorem dX0_pullAt_29 : decode cX0_pullAt 29 = .ok (.aconst_null, 1) := by decide +kernel
theorem dX0_pullAt_30 : decode cX0_pullAt 30 = .ok (.areturn, 1) := by decide +kernel
set_option maxRecDepth 20000 in
theorem ggX0_addPull_X2_init : GoodIn wsX0_addPull wsX2_init := goodIn_r _ [8, 9, 10, 11, 12, 13, 14, 24, 25, 26] (by decide +kernel) (by decide +kernel)
set_option maxRecDepth 20000 in
theorem gX0_addPull_X2_init : GoodIn wsX0_addPull (wsX2_init) := ggX0_addPull_X2_init
theorem dX0_addPull_0 : decode cX0_addPull 0 = .ok (.aload_n 0, 1) := by decide +kernel
theorem dX0_addPull_1 : decode cX0_addPull 1 = .ok (.getfield 28, 3) := by decide +kernel
theorem dX0_addPull_4 : decode cX0_addPull 4 = .ok (.bipush 8, 2) := by decide +kernel
theorem dX0_addPull_6 : decode cX0_addPull 6 = .ok (.if_icmp .lt 5, 3) := by decide +kernel
theorem dX0_addPull_9 : decode cX0_addPull 9 = .ok (.iconst (-1), 1) := by decide +kernel
theorem dX0_addPull_10 : decode cX0_addPull 10 = .ok (.ireturn, 1) := by decide +kernel
theorem dX0_addPull_11 : decode cX0_addPull 11 = .ok (.aload_n 0, 1) := by decide +kernel
theorem dX0_addPull_12 : decode cX0_addPull 12 = .ok (.getfield 20, 3) := by decide +kernel
theorem dX0_addPull_15 : decode cX0_addPull 15 = .ok (.aload_n 0, 1) := by decide +kernel
theorem dX0_addPull_16 : decode cX0_addPull 16 = .ok (.getfield 28, 3) := by decide +kernel
theorem dX0_addPull_19 : decode cX0_addPull 19 = .ok (.new 18, 3) := by decide +kernel
theorem dX0_addPull_22 : decode cX0_addPull 22 = .ok (.dup, 1) := by decide +kernel
theorem dX0_addPull_23 : decode cX0_addPull 23 = .ok (.iload_n 1, 1) := by decide +kernel
theorem dX0_addPull_24 : decode cX0_addPull 24 = .ok (.iload_n 2, 1) := by decide +kernel
theorem dX0_addPull_25 : decode cX0_addPull 25 = .ok (.iload_n 3, 1) := by decide +kernel
theorem dX0_addPull_26 : decode cX0_addPull 26 = .ok (.invokespecial 70, 3) := by decide +kernel
theorem dX0_addPull_29 : decode cX0_addPull 29 = .ok (.aastore, 1) := by decide +kernel
theorem dX0_addPull_30 : decode cX0_addPull 30 = .ok (.aload_n 0, 1) := by decide +kernel
theorem dX0_addPull_31 : decode cX0_addPull 31 = .ok (.dup, 1) := by decide +kernel
theorem dX0_addPull_32 : decode cX0_addPull 32 = .ok (.getfield 28, 3) := by decide +kernel
theorem dX0_addPull_35 : decode cX0_addPull 35 = .ok (.dup_x1, 1) := by decide +kernel
theorem dX0_addPull_36 : decode cX0_addPull 36 = .ok (.iconst 1, 1) := by decide +kernel
theorem dX0_addPull_37 : decode cX0_addPull 37 = .ok (.iadd, 1) := by decide +kernel
theorem dX0_addPull_38 : decode cX0_addPull 38 = .ok (.putfield 28, 3) := by decide +kernel
theorem dX0_addPull_41 : decode cX0_addPull 41 = .ok (.ireturn, 1) := by decide +kernel
set_option maxRecDepth 20000 in
theorem ggX0_mayBe_X2_mayBe : GoodIn wsX0_mayBe wsX2_mayBe := goodIn_r _ [7, 8, 18, 19, 20] (by decide +kernel) (by decide +kernel)
set_option maxRecDepth 20000 in
theorem gX0_mayBe_X2_mayBe : GoodIn wsX0_mayBe (wsV RX0 73 RX2 yX2_mayBe wsX2_mayBe) := goodIn_app (goodIn_of _ (by decide +kernel)) ggX0_mayBe_X2_mayBe
theorem dX0_mayBe_0 : decode cX0_mayBe 0 = .ok (.aload_n 1, 1) := by decide +kernel
theorem dX0_mayBe_1 : decode cX0_mayBe 1 = .ok (.aload_n 0, 1) := by decide +kernel
theorem dX0_mayBe_2 : decode cX0_mayBe 2 = .ok (.getfield 32, 3) := by decide +kernel
theorem dX0_mayBe_5 : decode cX0_mayBe 5 = .ok (.aload_n 0, 1) := by decide +kernel
theorem dX0_mayBe_6 : decode cX0_mayBe 6 = .ok (.getfield 38, 3) := by decide +kernel
theorem dX0_mayBe_9 : decode cX0_mayBe 9 = .ok (.invokevirtual 73, 3) := by decide +kernel
theorem dX0_mayBe_12 : decode cX0_mayBe 12 = .ok (.ireturn, 1) := by decide +kernel
set_option maxRecDepth 20000 in
theorem ggX0_pullsMaking_X0_pullAt : GoodIn wsX0_pullsMaking wsX0_pullAt := goodIn_r _ [7, 1, 8, 9, 10, 11, 46, 47, 48, 49, 50, 51, 52, 53, 54] (by decide +kernel) (by decide +kernel)
set_option maxRecDepth 20000 in
theorem gX0_pullsMaking_X0_pullAt : GoodIn wsX0_pullsMaking (wsV RX0 77 RX0 yX0_pullAt wsX0_pullAt) := goodIn_app (goodIn_of _ (by decide +kernel)) ggX0_pullsMaking_X0_pullAt
set_option maxRecDepth 20000 in
theorem ggX0_pullsMaking_X2_makes : GoodIn wsX0_pullsMaking wsX2_makes := goodIn_r _ [16, 17, 18, 19, 15, 20, 21, 22, 23, 24, 25, 26, 27, 28, 29, 30, 31, 32, 33, 34, 35, 36, 37, 38, 39, 40, 41, 42, 43, 44, 45, 55, 56, 57] (by decide +kernel) (by decide +kernel)
set_option maxRecDepth 20000 in
theorem gX0_pullsMaking_X2_makes : GoodIn wsX0_pullsMaking (wsV RX0 81 RX2 yX2_makes wsX2_makes) := goodIn_app (goodIn_of _ (by decide +kernel)) ggX0_pullsMaking_X2_makes
theorem dX0_pullsMaking_0 : decode cX0_pullsMaking 0 = .ok (.iconst 0, 1) := by decide +kernel
theorem dX0_pullsMaking_1 : decode cX0_pullsMaking 1 = .ok (.istore_n 3, 1) := by decide +kernel
theorem dX0_pullsMaking_2 : decode cX0_pullsMaking 2 = .ok (.iconst 0, 1) := by decide +kernel
theorem dX0_pullsMaking_3 : decode cX0_pullsMaking 3 = .ok (.istore 4, 2) := by decide +kernel
theorem dX0_pullsMaking_5 : decode cX0_pullsMaking 5 = .ok (.iload 4, 2) := by decide +kernel
theorem dX0_pullsMaking_7 : decode cX0_pullsMaking 7 = .ok (.aload_n 0, 1) := by decide +kernel
theorem dX0_pullsMaking_8 : decode cX0_pullsMaking 8 = .ok (.getfield 28, 3) := by decide +kernel
theorem dX0_pullsMaking_11 : decode cX0_pullsMaking 11 = .ok (.if_icmp .ge 39, 3) := by decide +kernel
theorem dX0_pullsMaking_14 : decode cX0_pullsMaking 14 = .ok (.aload_n 0, 1) := by decide +kernel
theorem dX0_pullsMaking_15 : decode cX0_pullsMaking 15 = .ok (.iload 4, 2) := by decide +kernel
theorem dX0_pullsMaking_17 : decode cX0_pullsMaking 17 = .ok (.invokevirtual 77, 3) := by decide +kernel
theorem dX0_pullsMaking_20 : decode cX0_pullsMaking 20 = .ok (.astore 5, 2) := by decide +kernel
theorem dX0_pullsMaking_22 : decode cX0_pullsMaking 22 = .ok (.aload 5, 2) := by decide +kernel
theorem dX0_pullsMaking_24 : decode cX0_pullsMaking 24 = .ok (.ifnull 20, 3) := by decide +kernel
theorem dX0_pullsMaking_27 : decode cX0_pullsMaking 27 = .ok (.aload 5, 2) := by decide +kernel
theorem dX0_pullsMaking_29 : decode cX0_pullsMaking 29 = .ok (.iload_n 1, 1) := by decide +kernel
theorem dX0_pullsMaking_30 : decode cX0_pullsMaking 30 = .ok (.iload_n 2, 1) := by decide +kernel
theorem dX0_pullsMaking_31 : decode cX0_pullsMaking 31 = .ok (.aload_n 0, 1) := by decide +kernel
theorem dX0_pullsMaking_32 : decode cX0_pullsMaking 32 = .ok (.getfield 41, 3) := by decide +kernel
theorem dX0_pullsMaking_35 : decode cX0_pullsMaking 35 = .ok (.invokevirtual 81, 3) := by decide +kernel
theorem dX0_pullsMaking_38 : decode cX0_pullsMaking 38 = .ok (.ifCond .eq 6, 3) := by decide +kernel
theorem dX0_pullsMaking_41 : decode cX0_pullsMaking 41 = .ok (.iinc 3 1, 3) := by decide +kernel
theorem dX0_pullsMaking_44 : decode cX0_pullsMaking 44 = .ok (.iinc 4 1, 3) := by decide +kernel
theorem dX0_pullsMaking_47 : decode cX0_pullsMaking 47 = .ok (.goto (-42), 3) := by decide +kernel
theorem dX0_pullsMaking_50 : decode cX0_pullsMaking 50 = .ok (.iload_n 3, 1) := by decide +kernel
theorem dX0_pullsMaking_51 : decode cX0_pullsMaking 51 = .ok (.ireturn, 1) := by decide +kernel
set_option maxRecDepth 20000 in
theorem ggX0_firstMaking_X0_pullAt : GoodIn wsX0_firstMaking wsX0_pullAt := goodIn_r _ [7, 1, 8, 9, 10, 11, 46, 47, 48, 49, 50, 51, 52, 53, 54] (by decide +kernel) (by decide +kernel)
set_option maxRecDepth 20000 in
theorem gX0_firstMaking_X0_pullAt : GoodIn wsX0_firstMaking (wsV RX0 77 RX0 yX0_pullAt wsX0_pullAt) := goodIn_app (goodIn_of _ (by decide +kernel)) ggX0_firstMaking_X0_pullAt
set_option maxRecDepth 20000 in
theorem ggX0_firstMaking_X2_makes : GoodIn wsX0_firstMaking wsX2_makes := goodIn_r _ [16, 17, 18, 19, 15, 20, 21, 22, 23, 24, 25, 26, 27, 28, 29, 30, 31, 32, 33, 34, 35, 36, 37, 38, 39, 40, 41, 42, 43, 44, 45, 55, 56, 57] (by decide +kernel) (by decide +kernel)
set_option maxRecDepth 20000 in
theorem gX0_firstMaking_X2_makes : GoodIn wsX0_firstMaking (wsV RX0 81 RX2 yX2_makes wsX2_makes) := goodIn_app (goodIn_of _ (by decide +kernel)) ggX0_firstMaking_X2_makes
theorem dX0_firstMaking_0 : decode cX0_firstMaking 0 = .ok (.iconst 0, 1) := by decide +kernel
theorem dX0_firstMaking_1 : decode cX0_firstMaking 1 = .ok (.istore_n 3, 1) := by decide +kernel
theorem dX0_firstMaking_2 : decode cX0_firstMaking 2 = .ok (.iload_n 3, 1) := by decide +kernel
theorem dX0_firstMaking_3 : decode cX0_firstMaking 3 = .ok (.aload_n 0, 1) := by decide +kernel
theorem dX0_firstMaking_4 : decode cX0_firstMaking 4 = .ok (.getfield 28, 3) := by decide +kernel
theorem dX0_firstMaking_7 : decode cX0_firstMaking 7 = .ok (.if_icmp .ge 37, 3) := by decide +kernel
theorem dX0_firstMaking_10 : decode cX0_firstMaking 10 = .ok (.aload_n 0, 1) := by decide +kernel
theorem dX0_firstMaking_11 : decode cX0_firstMaking 11 = .ok (.iload_n 3, 1) := by decide +kernel
theorem dX0_firstMaking_12 : decode cX0_firstMaking 12 = .ok (.invokevirtual 77, 3) := by decide +kernel
theorem dX0_firstMaking_15 : decode cX0_firstMaking 15 = .ok (.astore 4, 2) := by decide +kernel
theorem dX0_firstMaking_17 : decode cX0_firstMaking 17 = .ok (.aload 4, 2) := by decide +kernel
theorem dX0_firstMaking_19 : decode cX0_firstMaking 19 = .ok (.ifnull 19, 3) := by decide +kernel
theorem dX0_firstMaking_22 : decode cX0_firstMaking 22 = .ok (.aload 4, 2) := by decide +kernel
theorem dX0_firstMaking_24 : decode cX0_firstMaking 24 = .ok (.iload_n 1, 1) := by decide +kernel
theorem dX0_firstMaking_25 : decode cX0_firstMaking 25 = .ok (.iload_n 2, 1) := by decide +kernel
theorem dX0_firstMaking_26 : decode cX0_firstMaking 26 = .ok (.aload_n 0, 1) := by decide +kernel
theorem dX0_firstMaking_27 : decode cX0_firstMaking 27 = .ok (.getfield 41, 3) := by decide +kernel
theorem dX0_firstMaking_30 : decode cX0_firstMaking 30 = .ok (.invokevirtual 81, 3) := by decide +kernel
theorem dX0_firstMaking_33 : decode cX0_firstMaking 33 = .ok (.ifCond .eq 5, 3) := by decide +kernel
theorem dX0_firstMaking_36 : decode cX0_firstMaking 36 = .ok (.iload_n 3, 1) := by decide +kernel
theorem dX0_firstMaking_37 : decode cX0_firstMaking 37 = .ok (.ireturn, 1) := by decide +kernel
theorem dX0_firstMaking_38 : decode cX0_firstMaking 38 = .ok (.iinc 3 1, 3) := by decide +kernel
theorem dX0_firstMaking_41 : decode cX0_firstMaking 41 = .ok (.goto (-39), 3) := by decide +kernel
theorem dX0_firstMaking_44 : decode cX0_firstMaking 44 = .ok (.iconst (-1), 1) := by decide +kernel
theorem dX0_firstMaking_45 : decode cX0_firstMaking 45 = .ok (.ireturn, 1) := by decide +kernel
theorem dX0_draw_0 : decode cX0_draw 0 = .ok (.aload_n 0, 1) := by decide +kernel
theorem dX0_draw_1 : decode cX0_draw 1 = .ok (.aload_n 0, 1) := by decide +kernel
theorem dX0_draw_2 : decode cX0_draw 2 = .ok (.getfield 44, 3) := by decide +kernel
theorem dX0_draw_5 : decode cX0_draw 5 = .ok (.ldc 84, 2) := by decide +kernel
theorem dX0_draw_7 : decode cX0_draw 7 = .ok (.imul, 1) := by decide +kernel
theorem dX0_draw_8 : decode cX0_draw 8 = .ok (.sipush 12345, 3) := by decide +kernel
theorem dX0_draw_11 : decode cX0_draw 11 = .ok (.iadd, 1) := by decide +kernel
theorem dX0_draw_12 : decode cX0_draw 12 = .ok (.putfield 44, 3) := by decide +kernel
theorem dX0_draw_15 : decode cX0_draw 15 = .ok (.iload_n 1, 1) := by decide +kernel
theorem dX0_draw_16 : decode cX0_draw 16 = .ok (.iconst 1, 1) := by decide +kernel
theorem dX0_draw_17 : decode cX0_draw 17 = .ok (.if_icmp .ge 7, 3) := by decide +kernel
theorem dX0_draw_20 : decode cX0_draw 20 = .ok (.iconst 0, 1) := by decide +kernel
theorem dX0_draw_21 : decode cX0_draw 21 = .ok (.goto 12, 3) := by decide +kernel
theorem dX0_draw_24 : decode cX0_draw 24 = .ok (.aload_n 0, 1) := by decide +kernel
theorem dX0_draw_25 : decode cX0_draw 25 = .ok (.getfield 44, 3) := by decide +kernel
theorem dX0_draw_28 : decode cX0_draw 28 = .ok (.bipush 16, 2) := by decide +kernel
theorem dX0_draw_30 : decode cX0_draw 30 = .ok (.iushr, 1) := by decide +kernel
theorem dX0_draw_31 : decode cX0_draw 31 = .ok (.iload_n 1, 1) := by decide +kernel
theorem dX0_draw_32 : decode cX0_draw 32 = .ok (.irem, 1) := by decide +kernel
theorem dX0_draw_33 : decode cX0_draw 33 = .ok (.ireturn, 1) := by decide +kernel
set_option maxRecDepth 20000 in
theorem ggX0_pullInTruth_X0_draw : GoodIn wsX0_pullInTruth wsX0_draw := goodIn_r _ [11, 12, 13, 44, 45, 46, 47, 48, 49, 50, 51, 52] (by decide +kernel) (by decide +kernel)
set_option maxRecDepth 20000 in
theorem gX0_pullInTruth_X0_draw : GoodIn wsX0_pullInTruth (wsV RX0 85 RX0 yX0_draw wsX0_draw) := goodIn_app (goodIn_of _ (by decide +kernel)) ggX0_pullInTruth_X0_draw
set_option maxRecDepth 20000 in
theorem ggX0_pullInTruth_X2_waysAt : GoodIn wsX0_pullInTruth wsX2_waysAt := goodIn_r _ [18, 19, 20, 21, 22, 23, 24, 25, 26, 27, 28, 29, 17, 30, 31, 53, 54, 55] (by decide +kernel) (by decide +kernel)
set_option maxRecDepth 20000 in
theorem gX0_pullInTruth_X2_waysAt : GoodIn wsX0_pullInTruth (wsV RX0 89 RX2 yX2_waysAt wsX2_waysAt) := goodIn_app (goodIn_of _ (by decide +kernel)) ggX0_pullInTruth_X2_waysAt
set_option maxRecDepth 20000 in
theorem ggX0_pullInTruth_X2_shallower : GoodIn wsX0_pullInTruth wsX2_shallower := goodIn_r _ [35, 24, 25, 22, 26, 36, 37, 38, 17, 39, 19, 31, 53, 54, 55] (by decide +kernel) (by decide +kernel)
set_option maxRecDepth 20000 in
theorem gX0_pullInTruth_X2_shallower : GoodIn wsX0_pullInTruth (wsV RX0 93 RX2 yX2_shallower wsX2_shallower) := goodIn_app (goodIn_of _ (by decide +kernel)) ggX0_pullInTruth_X2_shallower
set_option maxRecDepth 20000 in
theorem ggX0_pullInTruth_X2_deeper : GoodIn wsX0_pullInTruth wsX2_deeper := goodIn_r _ [43, 19, 31, 20, 21, 22, 23, 53, 54, 55] (by decide +kernel) (by decide +kernel)
set_option maxRecDepth 20000 in
theorem gX0_pullInTruth_X2_deeper : GoodIn wsX0_pullInTruth (wsV RX0 96 RX2 yX2_deeper wsX2_deeper) := goodIn_app (goodIn_of _ (by decide +kernel)) ggX0_pullInTruth_X2_deeper
theorem dX0_pullInTruth_0 : decode cX0_pullInTruth 0 = .ok (.aload_n 0, 1) := by decide +kernel
theorem dX0_pullInTruth_1 : decode cX0_pullInTruth 1 = .ok (.bipush 12, 2) := by decide +kernel
theorem dX0_pullInTruth_3 : decode cX0_pullInTruth 3 = .ok (.invokevirtual 85, 3) := by decide +kernel
theorem dX0_pullInTruth_6 : decode cX0_pullInTruth 6 = .ok (.aload_n 1, 1) := by decide +kernel
theorem dX0_pullInTruth_7 : decode cX0_pullInTruth 7 = .ok (.aload_n 0, 1) := by decide +kernel
theorem dX0_pullInTruth_8 : decode cX0_pullInTruth 8 = .ok (.getfield 32, 3) := by decide +kernel
theorem dX0_pullInTruth_11 : decode cX0_pullInTruth 11 = .ok (.aload_n 0, 1) := by decide +kernel
theorem dX0_pullInTruth_12 : decode cX0_pullInTruth 12 = .ok (.getfield 41, 3) := by decide +kernel
theorem dX0_pullInTruth_15 : decode cX0_pullInTruth 15 = .ok (.invokevirtual 89, 3) := by decide +kernel
theorem dX0_pullInTruth_18 : decode cX0_pullInTruth 18 = .ok (.if_icmp .ge 7, 3) := by decide +kernel
theorem dX0_pullInTruth_21 : decode cX0_pullInTruth 21 = .ok (.iconst 1, 1) := by decide +kernel
theorem dX0_pullInTruth_22 : decode cX0_pullInTruth 22 = .ok (.goto 4, 3) := by decide +kernel
theorem dX0_pullInTruth_25 : decode cX0_pullInTruth 25 = .ok (.iconst 0, 1) := by decide +kernel
theorem dX0_pullInTruth_26 : decode cX0_pullInTruth 26 = .ok (.istore_n 2, 1) := by decide +kernel
theorem dX0_pullInTruth_27 : decode cX0_pullInTruth 27 = .ok (.aload_n 0, 1) := by decide +kernel
theorem dX0_pullInTruth_28 : decode cX0_pullInTruth 28 = .ok (.iload_n 2, 1) := by decide +kernel
theorem dX0_pullInTruth_29 : decode cX0_pullInTruth 29 = .ok (.ifCond .eq 14, 3) := by decide +kernel
theorem dX0_pullInTruth_32 : decode cX0_pullInTruth 32 = .ok (.aload_n 1, 1) := by decide +kernel
theorem dX0_pullInTruth_33 : decode cX0_pullInTruth 33 = .ok (.aload_n 0, 1) := by decide +kernel
theorem dX0_pullInTruth_34 : decode cX0_pullInTruth 34 = .ok (.getfield 32, 3) := by decide +kernel
theorem dX0_pullInTruth_37 : decode cX0_pullInTruth 37 = .ok (.invokevirtual 93, 3) := by decide +kernel
theorem dX0_pullInTruth_40 : decode cX0_pullInTruth 40 = .ok (.goto 15, 3) := by decide +kernel
theorem dX0_pullInTruth_43 : decode cX0_pullInTruth 43 = .ok (.aload_n 1, 1) := by decide +kernel
theorem dX0_pullInTruth_44 : decode cX0_pullInTruth 44 = .ok (.aload_n 0, 1) := by decide +kernel
theorem dX0_pullInTruth_45 : decode cX0_pullInTruth 45 = .ok (.getfield 32, 3) := by decide +kernel
theorem dX0_pullInTruth_48 : decode cX0_pullInTruth 48 = .ok (.aload_n 0, 1) := by decide +kernel
theorem dX0_pullInTruth_49 : decode cX0_pullInTruth 49 = .ok (.getfield 41, 3) := by decide +kernel
theorem dX0_pullInTruth_52 : decode cX0_pullInTruth 52 = .ok (.invokevirtual 96, 3) := by decide +kernel
theorem dX0_pullInTruth_55 : decode cX0_pullInTruth 55 = .ok (.putfield 32, 3) := by decide +kernel
theorem dX0_pullInTruth_58 : decode cX0_pullInTruth 58 = .ok (.aload_n 0, 1) := by decide +kernel
theorem dX0_pullInTruth_59 : decode cX0_pullInTruth 59 = .ok (.dup, 1) := by decide +kernel
theorem dX0_pullInTruth_60 : decode cX0_pullInTruth 60 = .ok (.getfield 38, 3) := by decide +kernel
theorem dX0_pullInTruth_63 : decode cX0_pullInTruth 63 = .ok (.aload_n 1, 1) := by decide +kernel
theorem dX0_pullInTruth_64 : decode cX0_pullInTruth 64 = .ok (.getfield 99, 3) := by decide +kernel
theorem dX0_pullInTruth_67 : decode cX0_pullInTruth 67 = .ok (.isub, 1) := by decide +kernel
theorem dX0_pullInTruth_68 : decode cX0_pullInTruth 68 = .ok (.putfield 38, 3) := by decide +kernel
theorem dX0_pullInTruth_71 : decode cX0_pullInTruth 71 = .ok (.aload_n 1, 1) := by decide +kernel
theorem dX0_pullInTruth_72 : decode cX0_pullInTruth 72 = .ok (.getfield 102, 3) := by decide +kernel
theorem dX0_pullInTruth_75 : decode cX0_pullInTruth 75 = .ok (.iconst 5, 1) := by decide +kernel
theorem dX0_pullInTruth_76 : decode cX0_pullInTruth 76 = .ok (.if_icmp .ne 13, 3) := by decide +kernel
theorem dX0_pullInTruth_79 : decode cX0_pullInTruth 79 = .ok (.aload_n 0, 1) := by decide +kernel
theorem dX0_pullInTruth_80 : decode cX0_pullInTruth 80 = .ok (.dup, 1) := by decide +kernel
theorem dX0_pullInTruth_81 : decode cX0_pullInTruth 81 = .ok (.getfield 35, 3) := by decide +kernel
theorem dX0_pullInTruth_84 : decode cX0_pullInTruth 84 = .ok (.iconst 1, 1) := by decide +kernel
theorem dX0_pullInTruth_85 : decode cX0_pullInTruth 85 = .ok (.iadd, 1) := by decide +kernel
theorem dX0_pullInTruth_86 : decode cX0_pullInTruth 86 = .ok (.putfield 35, 3) := by decide +kernel
theorem dX0_pullInTruth_89 : decode cX0_pullInTruth 89 = .ok (.return_, 1) := by decide +kernel
set_option maxRecDepth 20000 in
theorem ggX0_closeInTruth_X6_catchesAt : GoodIn wsX0_closeInTruth wsX6_catchesAt := goodIn_r _ [11, 12, 13, 14, 15, 16, 17, 10, 18, 19, 44, 45, 46, 47, 48] (by decide +kernel) (by decide +kernel)
set_option maxRecDepth 20000 in
theorem gX0_closeInTruth_X6_catchesAt : GoodIn wsX0_closeInTruth (wsV RX0 105 RX6 yX6_catchesAt wsX6_catchesAt) := goodIn_app (goodIn_of _ (by decide +kernel)) ggX0_closeInTruth_X6_catchesAt
set_option maxRecDepth 20000 in
theorem ggX0_closeInTruth_X0_draw : GoodIn wsX0_closeInTruth wsX0_draw := goodIn_r _ [24, 25, 26, 35, 36, 37, 38, 39, 40, 41, 42, 43] (by decide +kernel) (by decide +kernel)
set_option maxRecDepth 20000 in
theorem gX0_closeInTruth_X0_draw : GoodIn wsX0_closeInTruth (wsV RX0 85 RX0 yX0_draw wsX0_draw) := goodIn_app (goodIn_of _ (by decide +kernel)) ggX0_closeInTruth_X0_draw
set_option maxRecDepth 20000 in
theorem ggX0_closeInTruth_X6_lacksThreeFrom : GoodIn wsX0_closeInTruth wsX6_lacksThreeFrom := goodIn_r _ [30, 31, 32, 33, 10, 34, 12, 15, 16, 17, 18, 19, 44, 45, 46, 47, 48] (by decide +kernel) (by decide +kernel)
set_option maxRecDepth 20000 in
theorem gX0_closeInTruth_X6_lacksThreeFrom : GoodIn wsX0_closeInTruth (wsV RX0 112 RX6 yX6_lacksThreeFrom wsX6_lacksThreeFrom) := goodIn_app (goodIn_of _ (by decide +kernel)) ggX0_closeInTruth_X6_lacksThreeFrom
theorem dX0_closeInTruth_0 : decode cX0_closeInTruth 0 = .ok (.aload_n 0, 1) := by decide +kernel
theorem dX0_closeInTruth_1 : decode cX0_closeInTruth 1 = .ok (.getfield 12, 3) := by decide +kernel
theorem dX0_closeInTruth_4 : decode cX0_closeInTruth 4 = .ok (.getfield 63, 3) := by decide +kernel
theorem dX0_closeInTruth_7 : decode cX0_closeInTruth 7 = .ok (.istore_n 1, 1) := by decide +kernel
theorem dX0_closeInTruth_8 : decode cX0_closeInTruth 8 = .ok (.iload_n 1, 1) := by decide +kernel
theorem dX0_closeInTruth_9 : decode cX0_closeInTruth 9 = .ok (.aload_n 0, 1) := by decide +kernel
theorem dX0_closeInTruth_10 : decode cX0_closeInTruth 10 = .ok (.getfield 12, 3) := by decide +kernel
theorem dX0_closeInTruth_13 : decode cX0_closeInTruth 13 = .ok (.getfield 57, 3) := by decide +kernel
theorem dX0_closeInTruth_16 : decode cX0_closeInTruth 16 = .ok (.if_icmp .ge 81, 3) := by decide +kernel
theorem dX0_closeInTruth_19 : decode cX0_closeInTruth 19 = .ok (.aload_n 0, 1) := by decide +kernel
theorem dX0_closeInTruth_20 : decode cX0_closeInTruth 20 = .ok (.getfield 12, 3) := by decide +kernel
theorem dX0_closeInTruth_23 : decode cX0_closeInTruth 23 = .ok (.iload_n 1, 1) := by decide +kernel
theorem dX0_closeInTruth_24 : decode cX0_closeInTruth 24 = .ok (.putfield 63, 3) := by decide +kernel
theorem dX0_closeInTruth_27 : decode cX0_closeInTruth 27 = .ok (.aload_n 0, 1) := by decide +kernel
theorem dX0_closeInTruth_28 : decode cX0_closeInTruth 28 = .ok (.getfield 12, 3) := by decide +kernel
theorem dX0_closeInTruth_31 : decode cX0_closeInTruth 31 = .ok (.iload_n 1, 1) := by decide +kernel
theorem dX0_closeInTruth_32 : decode cX0_closeInTruth 32 = .ok (.invokevirtual 105, 3) := by decide +kernel
theorem dX0_closeInTruth_35 : decode cX0_closeInTruth 35 = .ok (.ifCond .eq 44, 3) := by decide +kernel
theorem dX0_closeInTruth_38 : decode cX0_closeInTruth 38 = .ok (.aload_n 0, 1) := by decide +kernel
theorem dX0_closeInTruth_39 : decode cX0_closeInTruth 39 = .ok (.bipush 10, 2) := by decide +kernel
theorem dX0_closeInTruth_41 : decode cX0_closeInTruth 41 = .ok (.invokevirtual 85, 3) := by decide +kernel
theorem dX0_closeInTruth_44 : decode cX0_closeInTruth 44 = .ok (.aload_n 0, 1) := by decide +kernel
theorem dX0_closeInTruth_45 : decode cX0_closeInTruth 45 = .ok (.getfield 12, 3) := by decide +kernel
theorem dX0_closeInTruth_48 : decode cX0_closeInTruth 48 = .ok (.getfield 109, 3) := by decide +kernel
theorem dX0_closeInTruth_51 : decode cX0_closeInTruth 51 = .ok (.iload_n 1, 1) := by decide +kernel
theorem dX0_closeInTruth_52 : decode cX0_closeInTruth 52 = .ok (.iaload, 1) := by decide +kernel
theorem dX0_closeInTruth_53 : decode cX0_closeInTruth 53 = .ok (.aload_n 0, 1) := by decide +kernel
theorem dX0_closeInTruth_54 : decode cX0_closeInTruth 54 = .ok (.getfield 12, 3) := by decide +kernel
theorem dX0_closeInTruth_57 : decode cX0_closeInTruth 57 = .ok (.getfield 60, 3) := by decide +kernel
theorem dX0_closeInTruth_60 : decode cX0_closeInTruth 60 = .ok (.isub, 1) := by decide +kernel
theorem dX0_closeInTruth_61 : decode cX0_closeInTruth 61 = .ok (.iconst 1, 1) := by decide +kernel
theorem dX0_closeInTruth_62 : decode cX0_closeInTruth 62 = .ok (.iadd, 1) := by decide +kernel
theorem dX0_closeInTruth_63 : decode cX0_closeInTruth 63 = .ok (.if_icmp .ge 16, 3) := by decide +kernel
theorem dX0_closeInTruth_66 : decode cX0_closeInTruth 66 = .ok (.aload_n 0, 1) := by decide +kernel
theorem dX0_closeInTruth_67 : decode cX0_closeInTruth 67 = .ok (.iconst 1, 1) := by decide +kernel
theorem dX0_closeInTruth_68 : decode cX0_closeInTruth 68 = .ok (.aload_n 0, 1) := by decide +kernel
theorem dX0_closeInTruth_69 : decode cX0_closeInTruth 69 = .ok (.bipush 6, 2) := by decide +kernel
theorem dX0_closeInTruth_71 : decode cX0_closeInTruth 71 = .ok (.invokevirtual 85, 3) := by decide +kernel
theorem dX0_closeInTruth_74 : decode cX0_closeInTruth 74 = .ok (.iadd, 1) := by decide +kernel
theorem dX0_closeInTruth_75 : decode cX0_closeInTruth 75 = .ok (.putfield 32, 3) := by decide +kernel
theorem dX0_closeInTruth_78 : decode cX0_closeInTruth 78 = .ok (.return_, 1) := by decide +kernel
theorem dX0_closeInTruth_79 : decode cX0_closeInTruth 79 = .ok (.aload_n 0, 1) := by decide +kernel
theorem dX0_closeInTruth_80 : decode cX0_closeInTruth 80 = .ok (.getfield 12, 3) := by decide +kernel
theorem dX0_closeInTruth_83 : decode cX0_closeInTruth 83 = .ok (.iload_n 1, 1) := by decide +kernel
theorem dX0_closeInTruth_84 : decode cX0_closeInTruth 84 = .ok (.invokevirtual 112, 3) := by decide +kernel
theorem dX0_closeInTruth_87 : decode cX0_closeInTruth 87 = .ok (.ifCond .eq 4, 3) := by decide +kernel
theorem dX0_closeInTruth_90 : decode cX0_closeInTruth 90 = .ok (.return_, 1) := by decide +kernel
theorem dX0_closeInTruth_91 : decode cX0_closeInTruth 91 = .ok (.iinc 1 1, 3) := by decide +kernel
theorem dX0_closeInTruth_94 : decode cX0_closeInTruth 94 = .ok (.goto (-86), 3) := by decide +kernel
theorem dX0_closeInTruth_97 : decode cX0_closeInTruth 97 = .ok (.aload_n 0, 1) := by decide +kernel
theorem dX0_closeInTruth_98 : decode cX0_closeInTruth 98 = .ok (.getfield 12, 3) := by decide +kernel
theorem dX0_closeInTruth_101 : decode cX0_closeInTruth 101 = .ok (.aload_n 0, 1) := by decide +kernel
theorem dX0_closeInTruth_102 : decode cX0_closeInTruth 102 = .ok (.getfield 12, 3) := by decide +kernel
theorem dX0_closeInTruth_105 : decode cX0_closeInTruth 105 = .ok (.getfield 57, 3) := by decide +kernel
theorem dX0_closeInTruth_108 : decode cX0_closeInTruth 108 = .ok (.putfield 63, 3) := by decide +kernel
theorem dX0_closeInTruth_111 : decode cX0_closeInTruth 111 = .ok (.return_, 1) := by decide +kernel
set_option maxRecDepth 20000 in
theorem ggX0_dayInTruth_X0_closeInTruth : GoodIn wsX0_dayInTruth wsX0_closeInTruth := goodIn_r _ [10, 1, 2, 5, 11, 12, 3, 13, 14, 15, 16, 17, 18, 19, 20, 21, 22, 23, 24, 25, 26, 27, 28, 9, 29, 30, 31, 32, 33, 34, 35, 36, 37, 38, 39, 124, 125, 126, 127, 128, 129, 130, 131, 132, 133, 134, 135, 136, 137] (by decide +kernel) (by decide +kernel)
set_option maxRecDepth 20000 in
theorem gX0_dayInTruth_X0_closeInTruth : GoodIn wsX0_dayInTruth (wsV RX0 115 RX0 yX0_closeInTruth wsX0_closeInTruth) := goodIn_app (goodIn_of _ (by decide +kernel)) ggX0_dayInTruth_X0_closeInTruth
set_option maxRecDepth 20000 in
theorem ggX0_dayInTruth_X0_pullFreeInTruth : GoodIn wsX0_dayInTruth wsX0_pullFreeInTruth := goodIn_r _ [43, 3, 4, 44, 45, 46, 47, 48, 49, 50, 51, 52, 53, 54, 55, 56, 57, 58, 59, 60, 61, 62, 63, 64, 65, 66, 67, 68, 69, 70, 71, 72, 73, 74, 75, 76, 77, 78, 79, 80, 81, 82, 83, 84, 85, 86, 87, 88, 89, 90, 91, 92, 93, 94, 95, 96, 97, 98, 99, 100, 101, 102, 103, 104, 105, 106, 107, 108, 109, 9, 110, 111, 112, 113, 114, 115, 116, 117, 118, 119, 120, 26, 27, 28, 29, 30, 31, 121, 122, 123, 124, 125, 126, 127, 128, 129, 130, 131, 132, 138, 139, 140, 141, 142, 143, 144, 145, 146, 147] (by decide +kernel) (by decide +kernel)
set_option maxRecDepth 20000 in
theorem gX0_dayInTruth_X0_pullFreeInTruth : GoodIn wsX0_dayInTruth (wsV RX0 118 RX0 yX0_pullFreeInTruth wsX0_pullFreeInTruth) := goodIn_app (goodIn_of _ (by decide +kernel)) ggX0_dayInTruth_X0_pullFreeInTruth
theorem dX0_dayInTruth_0 : decode cX0_dayInTruth 0 = .ok (.aload_n 0, 1) := by decide +kernel
theorem dX0_dayInTruth_1 : decode cX0_dayInTruth 1 = .ok (.getfield 12, 3) := by decide +kernel
theorem dX0_dayInTruth_4 : decode cX0_dayInTruth 4 = .ok (.iconst 0, 1) := by decide +kernel
theorem dX0_dayInTruth_5 : decode cX0_dayInTruth 5 = .ok (.putfield 63, 3) := by decide +kernel
theorem dX0_dayInTruth_8 : decode cX0_dayInTruth 8 = .ok (.aload_n 0, 1) := by decide +kernel
theorem dX0_dayInTruth_9 : decode cX0_dayInTruth 9 = .ok (.iconst 0, 1) := by decide +kernel
theorem dX0_dayInTruth_10 : decode cX0_dayInTruth 10 = .ok (.putfield 32, 3) := by decide +kernel
theorem dX0_dayInTruth_13 : decode cX0_dayInTruth 13 = .ok (.aload_n 0, 1) := by decide +kernel
theorem dX0_dayInTruth_14 : decode cX0_dayInTruth 14 = .ok (.bipush 60, 2) := by decide +kernel
theorem dX0_dayInTruth_16 : decode cX0_dayInTruth 16 = .ok (.putfield 38, 3) := by decide +kernel
theorem dX0_dayInTruth_19 : decode cX0_dayInTruth 19 = .ok (.iconst 0, 1) := by decide +kernel
theorem dX0_dayInTruth_20 : decode cX0_dayInTruth 20 = .ok (.istore_n 2, 1) := by decide +kernel
theorem dX0_dayInTruth_21 : decode cX0_dayInTruth 21 = .ok (.iload_n 2, 1) := by decide +kernel
theorem dX0_dayInTruth_22 : decode cX0_dayInTruth 22 = .ok (.iconst 3, 1) := by decide +kernel
theorem dX0_dayInTruth_23 : decode cX0_dayInTruth 23 = .ok (.if_icmp .ge 44, 3) := by decide +kernel
theorem dX0_dayInTruth_26 : decode cX0_dayInTruth 26 = .ok (.aload_n 0, 1) := by decide +kernel
theorem dX0_dayInTruth_27 : decode cX0_dayInTruth 27 = .ok (.getfield 32, 3) := by decide +kernel
theorem dX0_dayInTruth_30 : decode cX0_dayInTruth 30 = .ok (.ifCond .ne 37, 3) := by decide +kernel
theorem dX0_dayInTruth_33 : decode cX0_dayInTruth 33 = .ok (.aload_n 0, 1) := by decide +kernel
theorem dX0_dayInTruth_34 : decode cX0_dayInTruth 34 = .ok (.invokevirtual 115, 3) := by decide +kernel
theorem dX0_dayInTruth_37 : decode cX0_dayInTruth 37 = .ok (.aload_n 0, 1) := by decide +kernel
theorem dX0_dayInTruth_38 : decode cX0_dayInTruth 38 = .ok (.getfield 12, 3) := by decide +kernel
theorem dX0_dayInTruth_41 : decode cX0_dayInTruth 41 = .ok (.getfield 63, 3) := by decide +kernel
theorem dX0_dayInTruth_44 : decode cX0_dayInTruth 44 = .ok (.aload_n 0, 1) := by decide +kernel
theorem dX0_dayInTruth_45 : decode cX0_dayInTruth 45 = .ok (.getfield 12, 3) := by decide +kernel
theorem dX0_dayInTruth_48 : decode cX0_dayInTruth 48 = .ok (.getfield 57, 3) := by decide +kernel
theorem dX0_dayInTruth_51 : decode cX0_dayInTruth 51 = .ok (.if_icmp .ne 5, 3) := by decide +kernel
theorem dX0_dayInTruth_54 : decode cX0_dayInTruth 54 = .ok (.iconst 1, 1) := by decide +kernel
theorem dX0_dayInTruth_55 : decode cX0_dayInTruth 55 = .ok (.ireturn, 1) := by decide +kernel
theorem dX0_dayInTruth_56 : decode cX0_dayInTruth 56 = .ok (.aload_n 0, 1) := by decide +kernel
theorem dX0_dayInTruth_57 : decode cX0_dayInTruth 57 = .ok (.aload_n 1, 1) := by decide +kernel
theorem dX0_dayInTruth_58 : decode cX0_dayInTruth 58 = .ok (.invokevirtual 118, 3) := by decide +kernel
theorem dX0_dayInTruth_61 : decode cX0_dayInTruth 61 = .ok (.iinc 2 1, 3) := by decide +kernel
theorem dX0_dayInTruth_64 : decode cX0_dayInTruth 64 = .ok (.goto (-43), 3) := by decide +kernel
theorem dX0_dayInTruth_67 : decode cX0_dayInTruth 67 = .ok (.iconst 0, 1) := by decide +kernel
theorem dX0_dayInTruth_68 : decode cX0_dayInTruth 68 = .ok (.ireturn, 1) := by decide +kernel
set_option maxRecDepth 20000 in
theorem ggX0_pullFreeInTruth_X5_next : GoodIn wsX0_pullFreeInTruth wsX5_next := goodIn_r _ [7, 8, 9, 10, 11, 6, 12, 13, 14, 15, 16, 17, 18, 19, 20, 21, 22, 23, 24, 25, 26, 27, 28, 29, 30, 31, 32, 33, 34, 35, 36, 37, 38, 39, 40, 41, 42, 43, 44, 45, 46, 47, 48, 49, 50, 51, 52, 53, 54, 55, 56, 57, 58, 59, 60, 61, 62, 63, 64, 65, 99, 100, 101, 102, 103, 104, 105, 106, 107, 108] (by decide +kernel) (by decide +kernel)
set_option maxRecDepth 20000 in
theorem gX0_pullFreeInTruth_X5_next : GoodIn wsX0_pullFreeInTruth (wsV RX0 122 RX5 yX5_next wsX5_next) := goodIn_app (goodIn_of _ (by decide +kernel)) ggX0_pullFreeInTruth_X5_next
set_option maxRecDepth 20000 in
theorem ggX0_pullFreeInTruth_X0_pullAt : GoodIn wsX0_pullFreeInTruth wsX0_pullAt := goodIn_r _ [70, 71, 72, 14, 15, 16, 90, 91, 92, 93, 94, 95, 96, 97, 98] (by decide +kernel) (by decide +kernel)
set_option maxRecDepth 20000 in
theorem gX0_pullFreeInTruth_X0_pullAt : GoodIn wsX0_pullFreeInTruth (wsV RX0 77 RX0 yX0_pullAt wsX0_pullAt) := goodIn_app (goodIn_of _ (by decide +kernel)) ggX0_pullFreeInTruth_X0_pullAt
set_option maxRecDepth 20000 in
theorem ggX0_pullFreeInTruth_X0_pullInTruth : GoodIn wsX0_pullFreeInTruth wsX0_pullInTruth := goodIn_r _ [76, 1, 77, 2, 78, 79, 80, 81, 82, 83, 69, 84, 85, 86, 87, 30, 31, 20, 32, 33, 34, 35, 36, 37, 38, 39, 40, 41, 42, 43, 44, 45, 88, 47, 48, 49, 50, 51, 52, 53, 89, 58, 59, 60, 90, 91, 92, 93, 94, 95, 96, 97, 98, 106, 107, 108] (by decide +kernel) (by decide +kernel)
set_option maxRecDepth 20000 in
theorem gX0_pullFreeInTruth_X0_pullInTruth : GoodIn wsX0_pullFreeInTruth (wsV RX0 128 RX0 yX0_pullInTruth wsX0_pullInTruth) := goodIn_app (goodIn_of _ (by decide +kernel)) ggX0_pullFreeInTruth_X0_pullInTruth
theorem dX0_pullFreeInTruth_0 : decode cX0_pullFreeInTruth 0 = .ok (.iconst 0, 1) := by decide +kernel
theorem dX0_pullFreeInTruth_1 : decode cX0_pullFreeInTruth 1 = .ok (.istore_n 2, 1) := by decide +kernel
theorem dX0_pullFreeInTruth_2 : decode cX0_pullFreeInTruth 2 = .ok (.iload_n 2, 1) := by decide +kernel
theorem dX0_pullFreeInTruth_3 : decode cX0_pullFreeInTruth 3 = .ok (.bipush 12, 2) := by decide +kernel
theorem dX0_pullFreeInTruth_5 : decode cX0_pullFreeInTruth 5 = .ok (.if_icmp .ge 44, 3) := by decide +kernel
theorem dX0_pullFreeInTruth_8 : decode cX0_pullFreeInTruth 8 = .ok (.aload_n 0, 1) := by decide +kernel
theorem dX0_pullFreeInTruth_9 : decode cX0_pullFreeInTruth 9 = .ok (.getfield 32, 3) := by decide +kernel
theorem dX0_pullFreeInTruth_12 : decode cX0_pullFreeInTruth 12 = .ok (.ifCond .eq 37, 3) := by decide +kernel
theorem dX0_pullFreeInTruth_15 : decode cX0_pullFreeInTruth 15 = .ok (.aload_n 0, 1) := by decide +kernel
theorem dX0_pullFreeInTruth_16 : decode cX0_pullFreeInTruth 16 = .ok (.aload_n 1, 1) := by decide +kernel
theorem dX0_pullFreeInTruth_17 : decode cX0_pullFreeInTruth 17 = .ok (.iconst 2, 1) := by decide +kernel
theorem dX0_pullFreeInTruth_18 : decode cX0_pullFreeInTruth 18 = .ok (.aload_n 0, 1) := by decide +kernel
theorem dX0_pullFreeInTruth_19 : decode cX0_pullFreeInTruth 19 = .ok (.getfield 32, 3) := by decide +kernel
theorem dX0_pullFreeInTruth_22 : decode cX0_pullFreeInTruth 22 = .ok (.aload_n 0, 1) := by decide +kernel
theorem dX0_pullFreeInTruth_23 : decode cX0_pullFreeInTruth 23 = .ok (.getfield 38, 3) := by decide +kernel
theorem dX0_pullFreeInTruth_26 : decode cX0_pullFreeInTruth 26 = .ok (.invokevirtual 122, 3) := by decide +kernel
theorem dX0_pullFreeInTruth_29 : decode cX0_pullFreeInTruth 29 = .ok (.invokevirtual 77, 3) := by decide +kernel
theorem dX0_pullFreeInTruth_32 : decode cX0_pullFreeInTruth 32 = .ok (.astore_n 3, 1) := by decide +kernel
theorem dX0_pullFreeInTruth_33 : decode cX0_pullFreeInTruth 33 = .ok (.aload_n 3, 1) := by decide +kernel
theorem dX0_pullFreeInTruth_34 : decode cX0_pullFreeInTruth 34 = .ok (.ifnonnull 4, 3) := by decide +kernel
theorem dX0_pullFreeInTruth_37 : decode cX0_pullFreeInTruth 37 = .ok (.return_, 1) := by decide +kernel
theorem dX0_pullFreeInTruth_38 : decode cX0_pullFreeInTruth 38 = .ok (.aload_n 0, 1) := by decide +kernel
theorem dX0_pullFreeInTruth_39 : decode cX0_pullFreeInTruth 39 = .ok (.aload_n 3, 1) := by decide +kernel
theorem dX0_pullFreeInTruth_40 : decode cX0_pullFreeInTruth 40 = .ok (.invokevirtual 128, 3) := by decide +kernel
theorem dX0_pullFreeInTruth_43 : decode cX0_pullFreeInTruth 43 = .ok (.iinc 2 1, 3) := by decide +kernel
theorem dX0_pullFreeInTruth_46 : decode cX0_pullFreeInTruth 46 = .ok (.goto (-44), 3) := by decide +kernel
theorem dX0_pullFreeInTruth_49 : decode cX0_pullFreeInTruth 49 = .ok (.return_, 1) := by decide +kernel
theorem dX1_init_0 : decode cX1_init 0 = .ok (.aload_n 0, 1) := by decide +kernel
theorem dX1_init_1 : decode cX1_init 1 = .ok (.invokespecial 3, 3) := by decide +kernel
theorem dX1_init_4 : decode cX1_init 4 = .ok (.aload_n 0, 1) := by decide +kernel
theorem dX1_init_5 : decode cX1_init 5 = .ok (.bipush 20, 2) := by decide +kernel
theorem dX1_init_7 : decode cX1_init 7 = .ok (.newarray .int, 2) := by decide +kernel
theorem dX1_init_9 : decode cX1_init 9 = .ok (.putfield 11, 3) := by decide +kernel
theorem dX1_init_12 : decode cX1_init 12 = .ok (.aload_n 0, 1) := by decide +kernel
theorem dX1_init_13 : decode cX1_init 13 = .ok (.iconst 0, 1) := by decide +kernel
theorem dX1_init_14 : decode cX1_init 14 = .ok (.putfield 15, 3) := by decide +kernel
theorem dX1_init_17 : decode cX1_init 17 = .ok (.aload_n 0, 1) := by decide +kernel
theorem dX1_init_18 : decode cX1_init 18 = .ok (.iconst 0, 1) := by decide +kernel
theorem dX1_init_19 : decode cX1_init 19 = .ok (.putfield 19, 3) := by decide +kernel
theorem dX1_init_22 : decode cX1_init 22 = .ok (.aload_n 0, 1) := by decide +kernel
theorem dX1_init_23 : decode cX1_init 23 = .ok (.iconst 0, 1) := by decide +kernel
theorem dX1_init_24 : decode cX1_init 24 = .ok (.putfield 22, 3) := by decide +kernel
theorem dX1_init_27 : decode cX1_init 27 = .ok (.aload_n 0, 1) := by decide +kernel
theorem dX1_init_28 : decode cX1_init 28 = .ok (.iconst 0, 1) := by decide +kernel
theorem dX1_init_29 : decode cX1_init 29 = .ok (.putfield 25, 3) := by decide +kernel
theorem dX1_init_32 : decode cX1_init 32 = .ok (.return_, 1) := by decide +kernel
set_option maxRecDepth 20000 in
theorem ggX1_begin_X1_run : GoodIn wsX1_begin wsX1_run := goodIn_r _ [10, 3, 2, 5, 11, 12, 9, 13, 14, 15, 16, 17, 18, 19, 20, 21, 22, 23, 24, 25, 6, 7, 8, 29, 30, 31, 32, 33] (by decide +kernel) (by decide +kernel)
set_option maxRecDepth 20000 in
theorem gX1_begin_X1_run : GoodIn wsX1_begin (wsV RX1 34 RX1 yX1_run wsX1_run) := goodIn_app (goodIn_of _ (by decide +kernel)) ggX1_begin_X1_run
theorem dX1_begin_0 : decode cX1_begin 0 = .ok (.aload_n 0, 1) := by decide +kernel
theorem dX1_begin_1 : decode cX1_begin 1 = .ok (.aload_n 1, 1) := by decide +kernel
theorem dX1_begin_2 : decode cX1_begin 2 = .ok (.getfield 28, 3) := by decide +kernel
theorem dX1_begin_5 : decode cX1_begin 5 = .ok (.putfield 19, 3) := by decide +kernel
theorem dX1_begin_8 : decode cX1_begin 8 = .ok (.aload_n 0, 1) := by decide +kernel
theorem dX1_begin_9 : decode cX1_begin 9 = .ok (.iload_n 2, 1) := by decide +kernel
theorem dX1_begin_10 : decode cX1_begin 10 = .ok (.putfield 22, 3) := by decide +kernel
theorem dX1_begin_13 : decode cX1_begin 13 = .ok (.aload_n 0, 1) := by decide +kernel
theorem dX1_begin_14 : decode cX1_begin 14 = .ok (.aload_n 1, 1) := by decide +kernel
theorem dX1_begin_15 : decode cX1_begin 15 = .ok (.getfield 31, 3) := by decide +kernel
theorem dX1_begin_18 : decode cX1_begin 18 = .ok (.putfield 25, 3) := by decide +kernel
theorem dX1_begin_21 : decode cX1_begin 21 = .ok (.aload_n 0, 1) := by decide +kernel
theorem dX1_begin_22 : decode cX1_begin 22 = .ok (.aload_n 0, 1) := by decide +kernel
theorem dX1_begin_23 : decode cX1_begin 23 = .ok (.getfield 19, 3) := by decide +kernel
theorem dX1_begin_26 : decode cX1_begin 26 = .ok (.iload_n 3, 1) := by decide +kernel
theorem dX1_begin_27 : decode cX1_begin 27 = .ok (.iload 4, 2) := by decide +kernel
theorem dX1_begin_29 : decode cX1_begin 29 = .ok (.iconst 0, 1) := by decide +kernel
theorem dX1_begin_30 : decode cX1_begin 30 = .ok (.invokevirtual 34, 3) := by decide +kernel
theorem dX1_begin_33 : decode cX1_begin 33 = .ok (.ireturn, 1) := by decide +kernel
set_option maxRecDepth 20000 in
theorem ggX1_bodyAt_X7_within : GoodIn wsX1_bodyAt wsX7_within := goodIn_r _ [9] (by decide +kernel) (by decide +kernel)
set_option maxRecDepth 20000 in
theorem gX1_bodyAt_X7_within_n44 : GoodIn wsX1_bodyAt (wsX7_within) := ggX1_bodyAt_X7_within
theorem dX1_bodyAt_0 : decode cX1_bodyAt 0 = .ok (.iload_n 1, 1) := by decide +kernel
theorem dX1_bodyAt_1 : decode cX1_bodyAt 1 = .ok (.iconst 0, 1) := by decide +kernel
theorem dX1_bodyAt_2 : decode cX1_bodyAt 2 = .ok (.aload_n 0, 1) := by decide +kernel
theorem dX1_bodyAt_3 : decode cX1_bodyAt 3 = .ok (.getfield 15, 3) := by decide +kernel
theorem dX1_bodyAt_6 : decode cX1_bodyAt 6 = .ok (.bipush 20, 2) := by decide +kernel
theorem dX1_bodyAt_8 : decode cX1_bodyAt 8 = .ok (.invokestatic 38, 3) := by decide +kernel
theorem dX1_bodyAt_11 : decode cX1_bodyAt 11 = .ok (.iconst 1, 1) := by decide +kernel
theorem dX1_bodyAt_12 : decode cX1_bodyAt 12 = .ok (.isub, 1) := by decide +kernel
theorem dX1_bodyAt_13 : decode cX1_bodyAt 13 = .ok (.invokestatic 44, 3) := by decide +kernel
theorem dX1_bodyAt_16 : decode cX1_bodyAt 16 = .ok (.ifCond .eq 12, 3) := by decide +kernel
theorem dX1_bodyAt_19 : decode cX1_bodyAt 19 = .ok (.aload_n 0, 1) := by decide +kernel
theorem dX1_bodyAt_20 : decode cX1_bodyAt 20 = .ok (.getfield 11, 3) := by decide +kernel
theorem dX1_bodyAt_23 : decode cX1_bodyAt 23 = .ok (.iload_n 1, 1) := by decide +kernel
theorem dX1_bodyAt_24 : decode cX1_bodyAt 24 = .ok (.iaload, 1) := by decide +kernel
theorem dX1_bodyAt_25 : decode cX1_bodyAt 25 = .ok (.goto 4, 3) := by decide +kernel
theorem dX1_bodyAt_28 : decode cX1_bodyAt 28 = .ok (.iconst (-1), 1) := by decide +kernel
theorem dX1_bodyAt_29 : decode cX1_bodyAt 29 = .ok (.ireturn, 1) := by decide +kernel
theorem dX1_note_0 : decode cX1_note 0 = .ok (.aload_n 0, 1) := by decide +kernel
theorem dX1_note_1 : decode cX1_note 1 = .ok (.getfield 15, 3) := by decide +kernel
theorem dX1_note_4 : decode cX1_note 4 = .ok (.bipush 20, 2) := by decide +kernel
theorem dX1_note_6 : decode cX1_note 6 = .ok (.if_icmp .ge 13, 3) := by decide +kernel
theorem dX1_note_9 : decode cX1_note 9 = .ok (.aload_n 0, 1) := by decide +kernel
theorem dX1_note_10 : decode cX1_note 10 = .ok (.getfield 11, 3) := by decide +kernel
theorem dX1_note_13 : decode cX1_note 13 = .ok (.aload_n 0, 1) := by decide +kernel
theorem dX1_note_14 : decode cX1_note 14 = .ok (.getfield 15, 3) := by decide +kernel
theorem dX1_note_17 : decode cX1_note 17 = .ok (.iload_n 1, 1) := by decide +kernel
theorem dX1_note_18 : decode cX1_note 18 = .ok (.iastore, 1) := by decide +kernel
theorem dX1_note_19 : decode cX1_note 19 = .ok (.aload_n 0, 1) := by decide +kernel
theorem dX1_note_20 : decode cX1_note 20 = .ok (.dup, 1) := by decide +kernel
theorem dX1_note_21 : decode cX1_note 21 = .ok (.getfield 15, 3) := by decide +kernel
theorem dX1_note_24 : decode cX1_note 24 = .ok (.iconst 1, 1) := by decide +kernel
theorem dX1_note_25 : decode cX1_note 25 = .ok (.iadd, 1) := by decide +kernel
theorem dX1_note_26 : decode cX1_note 26 = .ok (.putfield 15, 3) := by decide +kernel
theorem dX1_note_29 : decode cX1_note 29 = .ok (.return_, 1) := by decide +kernel
set_option maxRecDepth 20000 in
theorem ggX1_run_X1_bodyFor : GoodIn wsX1_run wsX1_bodyFor := goodIn_r _ [7, 8, 9, 10, 11, 12, 6, 13] (by decide +kernel) (by decide +kernel)
set_option maxRecDepth 20000 in
theorem gX1_run_X1_bodyFor : GoodIn wsX1_run (va_wsS RX1 48 yX1_bodyFor wsX1_bodyFor) := goodIn_app (goodIn_of _ (by decide +kernel)) ggX1_run_X1_bodyFor
set_option maxRecDepth 20000 in
theorem ggX1_run_X1_note : GoodIn wsX1_run wsX1_note := goodIn_r _ [17, 18, 19, 23, 24, 25, 26, 27] (by decide +kernel) (by decide +kernel)
set_option maxRecDepth 20000 in
theorem gX1_run_X1_note : GoodIn wsX1_run (wsV RX1 51 RX1 yX1_note wsX1_note) := goodIn_app (goodIn_of _ (by decide +kernel)) ggX1_run_X1_note
set_option maxRecDepth 20000 in
theorem ggX1_run_X1_run : GoodIn wsX1_run wsX1_run := goodIn_r _ [0, 1, 2, 3, 4, 5, 6, 7, 8, 9, 10, 11, 12, 13, 14, 15, 16, 17, 18, 19, 20, 21, 22, 23, 24, 25, 26, 27] (by decide +kernel) (by decide +kernel)
set_option maxRecDepth 20000 in
theorem gX1_run_X1_run : GoodIn wsX1_run (wsV RX1 34 RX1 yX1_run wsX1_run) := goodIn_app (goodIn_of _ (by decide +kernel)) ggX1_run_X1_run
theorem dX1_run_0 : decode cX1_run 0 = .ok (.iload_n 1, 1) := by decide +kernel
theorem dX1_run_1 : decode cX1_run 1 = .ok (.iload_n 2, 1) := by decide +kernel
theorem dX1_run_2 : decode cX1_run 2 = .ok (.invokestatic 48, 3) := by decide +kernel
theorem dX1_run_5 : decode cX1_run 5 = .ok (.istore 5, 2) := by decide +kernel
theorem dX1_run_7 : decode cX1_run 7 = .ok (.iload 5, 2) := by decide +kernel
theorem dX1_run_9 : decode cX1_run 9 = .ok (.iconst (-1), 1) := by decide +kernel
theorem dX1_run_10 : decode cX1_run 10 = .ok (.if_icmp .eq 10, 3) := by decide +kernel
theorem dX1_run_13 : decode cX1_run 13 = .ok (.iload 4, 2) := by decide +kernel
theorem dX1_run_15 : decode cX1_run 15 = .ok (.bipush 40, 2) := by decide +kernel
theorem dX1_run_17 : decode cX1_run 17 = .ok (.if_icmp .lt 5, 3) := by decide +kernel
theorem dX1_run_20 : decode cX1_run 20 = .ok (.iconst 0, 1) := by decide +kernel
theorem dX1_run_21 : decode cX1_run 21 = .ok (.ireturn, 1) := by decide +kernel
theorem dX1_run_22 : decode cX1_run 22 = .ok (.aload_n 0, 1) := by decide +kernel
theorem dX1_run_23 : decode cX1_run 23 = .ok (.iload 5, 2) := by decide +kernel
theorem dX1_run_25 : decode cX1_run 25 = .ok (.invokevirtual 51, 3) := by decide +kernel
theorem dX1_run_28 : decode cX1_run 28 = .ok (.iload 4, 2) := by decide +kernel
theorem dX1_run_30 : decode cX1_run 30 = .ok (.iconst 1, 1) := by decide +kernel
theorem dX1_run_31 : decode cX1_run 31 = .ok (.iadd, 1) := by decide +kernel
theorem dX1_run_32 : decode cX1_run 32 = .ok (.istore 6, 2) := by decide +kernel
theorem dX1_run_34 : decode cX1_run 34 = .ok (.iload 5, 2) := by decide +kernel
theorem dX1_run_36 : decode cX1_run 36 = .ok (.lookupswitch 234 #[(10, 92), (11, 99), (12, 114), (20, 145), (30, 160), (40, 172), (50, 184), (51, 195), (60, 210), (70, 222)], 92) := by decide +kernel
theorem dX1_run_128 : decode cX1_run 128 = .ok (.iload_n 3, 1) := by decide +kernel
theorem dX1_run_129 : decode cX1_run 129 = .ok (.aload_n 0, 1) := by decide +kernel
theorem dX1_run_130 : decode cX1_run 130 = .ok (.getfield 22, 3) := by decide +kernel
theorem dX1_run_133 : decode cX1_run 133 = .ok (.iadd, 1) := by decide +kernel
theorem dX1_run_134 : decode cX1_run 134 = .ok (.ireturn, 1) := by decide +kernel
theorem dX1_run_135 : decode cX1_run 135 = .ok (.aload_n 0, 1) := by decide +kernel
theorem dX1_run_136 : decode cX1_run 136 = .ok (.aload_n 0, 1) := by decide +kernel
theorem dX1_run_137 : decode cX1_run 137 = .ok (.getfield 19, 3) := by decide +kernel
theorem dX1_run_140 : decode cX1_run 140 = .ok (.iconst 0, 1) := by decide +kernel
theorem dX1_run_141 : decode cX1_run 141 = .ok (.iload_n 3, 1) := by decide +kernel
theorem dX1_run_142 : decode cX1_run 142 = .ok (.iload 6, 2) := by decide +kernel
theorem dX1_run_144 : decode cX1_run 144 = .ok (.invokevirtual 34, 3) := by decide +kernel
theorem dX1_run_147 : decode cX1_run 147 = .ok (.iconst 2, 1) := by decide +kernel
theorem dX1_run_148 : decode cX1_run 148 = .ok (.imul, 1) := by decide +kernel
theorem dX1_run_149 : decode cX1_run 149 = .ok (.ireturn, 1) := by decide +kernel
theorem dX1_run_150 : decode cX1_run 150 = .ok (.aload_n 0, 1) := by decide +kernel
theorem dX1_run_151 : decode cX1_run 151 = .ok (.aload_n 0, 1) := by decide +kernel
theorem dX1_run_152 : decode cX1_run 152 = .ok (.getfield 19, 3) := by decide +kernel
theorem dX1_run_155 : decode cX1_run 155 = .ok (.iconst 1, 1) := by decide +kernel
theorem dX1_run_156 : decode cX1_run 156 = .ok (.iload_n 3, 1) := by decide +kernel
theorem dX1_run_157 : decode cX1_run 157 = .ok (.iload 6, 2) := by decide +kernel
theorem dX1_run_159 : decode cX1_run 159 = .ok (.invokevirtual 34, 3) := by decide +kernel
theorem dX1_run_162 : decode cX1_run 162 = .ok (.aload_n 0, 1) := by decide +kernel
theorem dX1_run_163 : decode cX1_run 163 = .ok (.aload_n 0, 1) := by decide +kernel
theorem dX1_run_164 : decode cX1_run 164 = .ok (.getfield 19, 3) := by decide +kernel
theorem dX1_run_167 : decode cX1_run 167 = .ok (.iconst 0, 1) := by decide +kernel
theorem dX1_run_168 : decode cX1_run 168 = .ok (.iload_n 3, 1) := by decide +kernel
theorem dX1_run_169 : decode cX1_run 169 = .ok (.aload_n 0, 1) := by decide +kernel
theorem dX1_run_170 : decode cX1_run 170 = .ok (.getfield 25, 3) := by decide +kernel
theorem dX1_run_173 : decode cX1_run 173 = .ok (.isub, 1) := by decide +kernel
theorem dX1_run_174 : decode cX1_run 174 = .ok (.iload 6, 2) := by decide +kernel
theorem dX1_run_176 : decode cX1_run 176 = .ok (.invokevirtual 34, 3) := by decide +kernel
theorem dX1_run_179 : decode cX1_run 179 = .ok (.ixor, 1) := by decide +kernel
theorem dX1_run_180 : decode cX1_run 180 = .ok (.ireturn, 1) := by decide +kernel
theorem dX1_run_181 : decode cX1_run 181 = .ok (.aload_n 0, 1) := by decide +kernel
theorem dX1_run_182 : decode cX1_run 182 = .ok (.iconst 0, 1) := by decide +kernel
theorem dX1_run_183 : decode cX1_run 183 = .ok (.iconst 0, 1) := by decide +kernel
theorem dX1_run_184 : decode cX1_run 184 = .ok (.iload_n 3, 1) := by decide +kernel
theorem dX1_run_185 : decode cX1_run 185 = .ok (.iload 6, 2) := by decide +kernel
theorem dX1_run_187 : decode cX1_run 187 = .ok (.invokevirtual 34, 3) := by decide +kernel
theorem dX1_run_190 : decode cX1_run 190 = .ok (.aload_n 0, 1) := by decide +kernel
theorem dX1_run_191 : decode cX1_run 191 = .ok (.getfield 25, 3) := by decide +kernel
theorem dX1_run_194 : decode cX1_run 194 = .ok (.iadd, 1) := by decide +kernel
theorem dX1_run_195 : decode cX1_run 195 = .ok (.ireturn, 1) := by decide +kernel
theorem dX1_run_196 : decode cX1_run 196 = .ok (.aload_n 0, 1) := by decide +kernel
theorem dX1_run_197 : decode cX1_run 197 = .ok (.iconst 0, 1) := by decide +kernel
theorem dX1_run_198 : decode cX1_run 198 = .ok (.iconst 1, 1) := by decide +kernel
theorem dX1_run_199 : decode cX1_run 199 = .ok (.iload_n 3, 1) := by decide +kernel
theorem dX1_run_200 : decode cX1_run 200 = .ok (.iload 6, 2) := by decide +kernel
theorem dX1_run_202 : decode cX1_run 202 = .ok (.invokevirtual 34, 3) := by decide +kernel
theorem dX1_run_205 : decode cX1_run 205 = .ok (.iconst 3, 1) := by decide +kernel
theorem dX1_run_206 : decode cX1_run 206 = .ok (.imul, 1) := by decide +kernel
theorem dX1_run_207 : decode cX1_run 207 = .ok (.ireturn, 1) := by decide +kernel
theorem dX1_run_208 : decode cX1_run 208 = .ok (.aload_n 0, 1) := by decide +kernel
theorem dX1_run_209 : decode cX1_run 209 = .ok (.iconst 1, 1) := by decide +kernel
theorem dX1_run_210 : decode cX1_run 210 = .ok (.iconst 1, 1) := by decide +kernel
theorem dX1_run_211 : decode cX1_run 211 = .ok (.iload_n 3, 1) := by decide +kernel
theorem dX1_run_212 : decode cX1_run 212 = .ok (.iconst 1, 1) := by decide +kernel
theorem dX1_run_213 : decode cX1_run 213 = .ok (.iadd, 1) := by decide +kernel
theorem dX1_run_214 : decode cX1_run 214 = .ok (.iload 6, 2) := by decide +kernel
theorem dX1_run_216 : decode cX1_run 216 = .ok (.invokevirtual 34, 3) := by decide +kernel
theorem dX1_run_219 : decode cX1_run 219 = .ok (.ireturn, 1) := by decide +kernel
theorem dX1_run_220 : decode cX1_run 220 = .ok (.aload_n 0, 1) := by decide +kernel
theorem dX1_run_221 : decode cX1_run 221 = .ok (.iconst 0, 1) := by decide +kernel
theorem dX1_run_222 : decode cX1_run 222 = .ok (.iconst 2, 1) := by decide +kernel
theorem dX1_run_223 : decode cX1_run 223 = .ok (.iload_n 3, 1) := by decide +kernel
theorem dX1_run_224 : decode cX1_run 224 = .ok (.iload 6, 2) := by decide +kernel
theorem dX1_run_226 : decode cX1_run 226 = .ok (.invokevirtual 34, 3) := by decide +kernel
theorem dX1_run_229 : decode cX1_run 229 = .ok (.ineg, 1) := by decide +kernel
theorem dX1_run_230 : decode cX1_run 230 = .ok (.ireturn, 1) := by decide +kernel
theorem dX1_run_231 : decode cX1_run 231 = .ok (.aload_n 0, 1) := by decide +kernel
theorem dX1_run_232 : decode cX1_run 232 = .ok (.iconst 0, 1) := by decide +kernel
theorem dX1_run_233 : decode cX1_run 233 = .ok (.iconst 0, 1) := by decide +kernel
theorem dX1_run_234 : decode cX1_run 234 = .ok (.iload_n 3, 1) := by decide +kernel
theorem dX1_run_235 : decode cX1_run 235 = .ok (.iload 6, 2) := by decide +kernel
theorem dX1_run_237 : decode cX1_run 237 = .ok (.invokevirtual 34, 3) := by decide +kernel
theorem dX1_run_240 : decode cX1_run 240 = .ok (.aload_n 0, 1) := by decide +kernel
theorem dX1_run_241 : decode cX1_run 241 = .ok (.getfield 22, 3) := by decide +kernel
theorem dX1_run_244 : decode cX1_run 244 = .ok (.isub, 1) := by decide +kernel
theorem dX1_run_245 : decode cX1_run 245 = .ok (.ireturn, 1) := by decide +kernel
theorem dX1_run_246 : decode cX1_run 246 = .ok (.aload_n 0, 1) := by decide +kernel
theorem dX1_run_247 : decode cX1_run 247 = .ok (.iconst 2, 1) := by decide +kernel
theorem dX1_run_248 : decode cX1_run 248 = .ok (.iconst 2, 1) := by decide +kernel
theorem dX1_run_249 : decode cX1_run 249 = .ok (.iload_n 3, 1) := by decide +kernel
theorem dX1_run_250 : decode cX1_run 250 = .ok (.iload 6, 2) := by decide +kernel
theorem dX1_run_252 : decode cX1_run 252 = .ok (.invokevirtual 34, 3) := by decide +kernel
theorem dX1_run_255 : decode cX1_run 255 = .ok (.iconst 5, 1) := by decide +kernel
theorem dX1_run_256 : decode cX1_run 256 = .ok (.ixor, 1) := by decide +kernel
theorem dX1_run_257 : decode cX1_run 257 = .ok (.ireturn, 1) := by decide +kernel
theorem dX1_run_258 : decode cX1_run 258 = .ok (.aload_n 0, 1) := by decide +kernel
theorem dX1_run_259 : decode cX1_run 259 = .ok (.iconst 4, 1) := by decide +kernel
theorem dX1_run_260 : decode cX1_run 260 = .ok (.iconst 0, 1) := by decide +kernel
theorem dX1_run_261 : decode cX1_run 261 = .ok (.iload_n 3, 1) := by decide +kernel
theorem dX1_run_262 : decode cX1_run 262 = .ok (.iload 6, 2) := by decide +kernel
theorem dX1_run_264 : decode cX1_run 264 = .ok (.invokevirtual 34, 3) := by decide +kernel
theorem dX1_run_267 : decode cX1_run 267 = .ok (.iconst 2, 1) := by decide +kernel
theorem dX1_run_268 : decode cX1_run 268 = .ok (.imul, 1) := by decide +kernel
theorem dX1_run_269 : decode cX1_run 269 = .ok (.ireturn, 1) := by decide +kernel
theorem dX1_run_270 : decode cX1_run 270 = .ok (.aload_n 0, 1) := by decide +kernel
theorem dX1_run_271 : decode cX1_run 271 = .ok (.iconst 4, 1) := by decide +kernel
theorem dX1_run_272 : decode cX1_run 272 = .ok (.iconst 1, 1) := by decide +kernel
theorem dX1_run_273 : decode cX1_run 273 = .ok (.iload_n 3, 1) := by decide +kernel
theorem dX1_run_274 : decode cX1_run 274 = .ok (.aload_n 0, 1) := by decide +kernel
theorem dX1_run_275 : decode cX1_run 275 = .ok (.getfield 25, 3) := by decide +kernel
theorem dX1_run_278 : decode cX1_run 278 = .ok (.isub, 1) := by decide +kernel
theorem dX1_run_279 : decode cX1_run 279 = .ok (.iload 6, 2) := by decide +kernel
theorem dX1_run_281 : decode cX1_run 281 = .ok (.invokevirtual 34, 3) := by decide +kernel
theorem dX1_run_284 : decode cX1_run 284 = .ok (.ireturn, 1) := by decide +kernel
set_option maxRecDepth 20000 in
theorem ggX1_bodyFor_X7_within : GoodIn wsX1_bodyFor wsX7_within := goodIn_r _ [3] (by decide +kernel) (by decide +kernel)
set_option maxRecDepth 20000 in
theorem gX1_bodyFor_X7_within_n44 : GoodIn wsX1_bodyFor (wsX7_within) := ggX1_bodyFor_X7_within
set_option maxRecDepth 20000 in
theorem ggX1_bodyFor_X1_ownBody : GoodIn wsX1_bodyFor wsX1_ownBody := goodIn_r _ [7] (by decide +kernel) (by decide +kernel)
set_option maxRecDepth 20000 in
theorem gX1_bodyFor_X1_ownBody : GoodIn wsX1_bodyFor (va_wsS RX1 55 yX1_ownBody wsX1_ownBody) := goodIn_app (goodIn_of _ (by decide +kernel)) ggX1_bodyFor_X1_ownBody
theorem dX1_bodyFor_0 : decode cX1_bodyFor 0 = .ok (.iload_n 0, 1) := by decide +kernel
theorem dX1_bodyFor_1 : decode cX1_bodyFor 1 = .ok (.istore_n 2, 1) := by decide +kernel
theorem dX1_bodyFor_2 : decode cX1_bodyFor 2 = .ok (.iconst 0, 1) := by decide +kernel
theorem dX1_bodyFor_3 : decode cX1_bodyFor 3 = .ok (.istore_n 3, 1) := by decide +kernel
theorem dX1_bodyFor_4 : decode cX1_bodyFor 4 = .ok (.iload_n 3, 1) := by decide +kernel
theorem dX1_bodyFor_5 : decode cX1_bodyFor 5 = .ok (.bipush 7, 2) := by decide +kernel
theorem dX1_bodyFor_7 : decode cX1_bodyFor 7 = .ok (.if_icmp .ge 41, 3) := by decide +kernel
theorem dX1_bodyFor_10 : decode cX1_bodyFor 10 = .ok (.iload_n 2, 1) := by decide +kernel
theorem dX1_bodyFor_11 : decode cX1_bodyFor 11 = .ok (.iconst 0, 1) := by decide +kernel
theorem dX1_bodyFor_12 : decode cX1_bodyFor 12 = .ok (.bipush 6, 2) := by decide +kernel
theorem dX1_bodyFor_14 : decode cX1_bodyFor 14 = .ok (.invokestatic 44, 3) := by decide +kernel
theorem dX1_bodyFor_17 : decode cX1_bodyFor 17 = .ok (.ifCond .eq 31, 3) := by decide +kernel
theorem dX1_bodyFor_20 : decode cX1_bodyFor 20 = .ok (.iload_n 2, 1) := by decide +kernel
theorem dX1_bodyFor_21 : decode cX1_bodyFor 21 = .ok (.iload_n 1, 1) := by decide +kernel
theorem dX1_bodyFor_22 : decode cX1_bodyFor 22 = .ok (.invokestatic 55, 3) := by decide +kernel
theorem dX1_bodyFor_25 : decode cX1_bodyFor 25 = .ok (.istore 4, 2) := by decide +kernel
theorem dX1_bodyFor_27 : decode cX1_bodyFor 27 = .ok (.iload 4, 2) := by decide +kernel
theorem dX1_bodyFor_29 : decode cX1_bodyFor 29 = .ok (.iconst (-1), 1) := by decide +kernel
theorem dX1_bodyFor_30 : decode cX1_bodyFor 30 = .ok (.if_icmp .eq 6, 3) := by decide +kernel
theorem dX1_bodyFor_33 : decode cX1_bodyFor 33 = .ok (.iload 4, 2) := by decide +kernel
theorem dX1_bodyFor_35 : decode cX1_bodyFor 35 = .ok (.ireturn, 1) := by decide +kernel
theorem dX1_bodyFor_36 : decode cX1_bodyFor 36 = .ok (.getstatic 58, 3) := by decide +kernel
theorem dX1_bodyFor_39 : decode cX1_bodyFor 39 = .ok (.iload_n 2, 1) := by decide +kernel
theorem dX1_bodyFor_40 : decode cX1_bodyFor 40 = .ok (.iaload, 1) := by decide +kernel
theorem dX1_bodyFor_41 : decode cX1_bodyFor 41 = .ok (.istore_n 2, 1) := by decide +kernel
theorem dX1_bodyFor_42 : decode cX1_bodyFor 42 = .ok (.iinc 3 1, 3) := by decide +kernel
theorem dX1_bodyFor_45 : decode cX1_bodyFor 45 = .ok (.goto (-41), 3) := by decide +kernel
theorem dX1_bodyFor_48 : decode cX1_bodyFor 48 = .ok (.iconst (-1), 1) := by decide +kernel
theorem dX1_bodyFor_49 : decode cX1_bodyFor 49 = .ok (.ireturn, 1) := by decide +kernel
theorem dX1_ownBody_0 : decode cX1_ownBody 0 = .ok (.iload_n 0, 1) := by decide +kernel
theorem dX1_ownBody_1 : decode cX1_ownBody 1 = .ok (.tableswitch 112 0 5 #[39, 44, 55, 67, 79, 100], 39) := by decide +kernel
theorem dX1_ownBody_40 : decode cX1_ownBody 40 = .ok (.bipush 10, 2) := by decide +kernel
theorem dX1_ownBody_42 : decode cX1_ownBody 42 = .ok (.iload_n 1, 1) := by decide +kernel
theorem dX1_ownBody_43 : decode cX1_ownBody 43 = .ok (.iadd, 1) := by decide +kernel
theorem dX1_ownBody_44 : decode cX1_ownBody 44 = .ok (.ireturn, 1) := by decide +kernel
theorem dX1_ownBody_45 : decode cX1_ownBody 45 = .ok (.iload_n 1, 1) := by decide +kernel
theorem dX1_ownBody_46 : decode cX1_ownBody 46 = .ok (.ifCond .ne 8, 3) := by decide +kernel
theorem dX1_ownBody_49 : decode cX1_ownBody 49 = .ok (.bipush 20, 2) := by decide +kernel
theorem dX1_ownBody_51 : decode cX1_ownBody 51 = .ok (.goto 4, 3) := by decide +kernel
theorem dX1_ownBody_54 : decode cX1_ownBody 54 = .ok (.iconst (-1), 1) := by decide +kernel
theorem dX1_ownBody_55 : decode cX1_ownBody 55 = .ok (.ireturn, 1) := by decide +kernel
theorem dX1_ownBody_56 : decode cX1_ownBody 56 = .ok (.iload_n 1, 1) := by decide +kernel
theorem dX1_ownBody_57 : decode cX1_ownBody 57 = .ok (.iconst 1, 1) := by decide +kernel
theorem dX1_ownBody_58 : decode cX1_ownBody 58 = .ok (.if_icmp .ne 8, 3) := by decide +kernel
theorem dX1_ownBody_61 : decode cX1_ownBody 61 = .ok (.bipush 30, 2) := by decide +kernel
theorem dX1_ownBody_63 : decode cX1_ownBody 63 = .ok (.goto 4, 3) := by decide +kernel
theorem dX1_ownBody_66 : decode cX1_ownBody 66 = .ok (.iconst (-1), 1) := by decide +kernel
theorem dX1_ownBody_67 : decode cX1_ownBody 67 = .ok (.ireturn, 1) := by decide +kernel
theorem dX1_ownBody_68 : decode cX1_ownBody 68 = .ok (.iload_n 1, 1) := by decide +kernel
theorem dX1_ownBody_69 : decode cX1_ownBody 69 = .ok (.iconst 1, 1) := by decide +kernel
theorem dX1_ownBody_70 : decode cX1_ownBody 70 = .ok (.if_icmp .ne 8, 3) := by decide +kernel
theorem dX1_ownBody_73 : decode cX1_ownBody 73 = .ok (.bipush 40, 2) := by decide +kernel
theorem dX1_ownBody_75 : decode cX1_ownBody 75 = .ok (.goto 4, 3) := by decide +kernel
theorem dX1_ownBody_78 : decode cX1_ownBody 78 = .ok (.iconst (-1), 1) := by decide +kernel
theorem dX1_ownBody_79 : decode cX1_ownBody 79 = .ok (.ireturn, 1) := by decide +kernel
theorem dX1_ownBody_80 : decode cX1_ownBody 80 = .ok (.iload_n 1, 1) := by decide +kernel
theorem dX1_ownBody_81 : decode cX1_ownBody 81 = .ok (.iconst 2, 1) := by decide +kernel
theorem dX1_ownBody_82 : decode cX1_ownBody 82 = .ok (.if_icmp .ne 8, 3) := by decide +kernel
theorem dX1_ownBody_85 : decode cX1_ownBody 85 = .ok (.bipush 50, 2) := by decide +kernel
theorem dX1_ownBody_87 : decode cX1_ownBody 87 = .ok (.goto 13, 3) := by decide +kernel
theorem dX1_ownBody_90 : decode cX1_ownBody 90 = .ok (.iload_n 1, 1) := by decide +kernel
theorem dX1_ownBody_91 : decode cX1_ownBody 91 = .ok (.ifCond .ne 8, 3) := by decide +kernel
theorem dX1_ownBody_94 : decode cX1_ownBody 94 = .ok (.bipush 51, 2) := by decide +kernel
theorem dX1_ownBody_96 : decode cX1_ownBody 96 = .ok (.goto 4, 3) := by decide +kernel
theorem dX1_ownBody_99 : decode cX1_ownBody 99 = .ok (.iconst (-1), 1) := by decide +kernel
theorem dX1_ownBody_100 : decode cX1_ownBody 100 = .ok (.ireturn, 1) := by decide +kernel
theorem dX1_ownBody_101 : decode cX1_ownBody 101 = .ok (.iload_n 1, 1) := by decide +kernel
theorem dX1_ownBody_102 : decode cX1_ownBody 102 = .ok (.iconst 2, 1) := by decide +kernel
theorem dX1_ownBody_103 : decode cX1_ownBody 103 = .ok (.if_icmp .ne 8, 3) := by decide +kernel
theorem dX1_ownBody_106 : decode cX1_ownBody 106 = .ok (.bipush 60, 2) := by decide +kernel
theorem dX1_ownBody_108 : decode cX1_ownBody 108 = .ok (.goto 4, 3) := by decide +kernel
theorem dX1_ownBody_111 : decode cX1_ownBody 111 = .ok (.iconst (-1), 1) := by decide +kernel
theorem dX1_ownBody_112 : decode cX1_ownBody 112 = .ok (.ireturn, 1) := by decide +kernel
theorem dX1_ownBody_113 : decode cX1_ownBody 113 = .ok (.iload_n 1, 1) := by decide +kernel
theorem dX1_ownBody_114 : decode cX1_ownBody 114 = .ok (.ifCond .ne 8, 3) := by decide +kernel
theorem dX1_ownBody_117 : decode cX1_ownBody 117 = .ok (.bipush 70, 2) := by decide +kernel
theorem dX1_ownBody_119 : decode cX1_ownBody 119 = .ok (.goto 14, 3) := by decide +kernel
theorem dX1_ownBody_122 : decode cX1_ownBody 122 = .ok (.iload_n 1, 1) := by decide +kernel
theorem dX1_ownBody_123 : decode cX1_ownBody 123 = .ok (.iconst 1, 1) := by decide +kernel
theorem dX1_ownBody_124 : decode cX1_ownBody 124 = .ok (.if_icmp .ne 8, 3) := by decide +kernel
theorem dX1_ownBody_127 : decode cX1_ownBody 127 = .ok (.bipush 71, 2) := by decide +kernel
theorem dX1_ownBody_129 : decode cX1_ownBody 129 = .ok (.goto 4, 3) := by decide +kernel
theorem dX1_ownBody_132 : decode cX1_ownBody 132 = .ok (.iconst (-1), 1) := by decide +kernel
theorem dX1_ownBody_133 : decode cX1_ownBody 133 = .ok (.ireturn, 1) := by decide +kernel
theorem dX2_init_0 : decode cX2_init 0 = .ok (.aload_n 0, 1) := by decide +kernel
theorem dX2_init_1 : decode cX2_init 1 = .ok (.invokespecial 3, 3) := by decide +kernel
theorem dX2_init_4 : decode cX2_init 4 = .ok (.aload_n 0, 1) := by decide +kernel
theorem dX2_init_5 : decode cX2_init 5 = .ok (.iload_n 1, 1) := by decide +kernel
theorem dX2_init_6 : decode cX2_init 6 = .ok (.putfield 9, 3) := by decide +kernel
theorem dX2_init_9 : decode cX2_init 9 = .ok (.aload_n 0, 1) := by decide +kernel
theorem dX2_init_10 : decode cX2_init 10 = .ok (.iload_n 2, 1) := by decide +kernel
theorem dX2_init_11 : decode cX2_init 11 = .ok (.putfield 15, 3) := by decide +kernel
theorem dX2_init_14 : decode cX2_init 14 = .ok (.aload_n 0, 1) := by decide +kernel
theorem dX2_init_15 : decode cX2_init 15 = .ok (.iload_n 3, 1) := by decide +kernel
theorem dX2_init_16 : decode cX2_init 16 = .ok (.putfield 18, 3) := by decide +kernel
theorem dX2_init_19 : decode cX2_init 19 = .ok (.return_, 1) := by decide +kernel
set_option maxRecDepth 20000 in
theorem ggX2_isOf_X7_within : GoodIn wsX2_isOf wsX7_within := goodIn_r _ [4] (by decide +kernel) (by decide +kernel)
set_option maxRecDepth 20000 in
theorem gX2_isOf_X7_within_n21 : GoodIn wsX2_isOf (wsX7_within) := ggX2_isOf_X7_within
theorem dX2_isOf_0 : decode cX2_isOf 0 = .ok (.aload_n 0, 1) := by decide +kernel
theorem dX2_isOf_1 : decode cX2_isOf 1 = .ok (.getfield 9, 3) := by decide +kernel
theorem dX2_isOf_4 : decode cX2_isOf 4 = .ok (.istore_n 2, 1) := by decide +kernel
theorem dX2_isOf_5 : decode cX2_isOf 5 = .ok (.iconst 0, 1) := by decide +kernel
theorem dX2_isOf_6 : decode cX2_isOf 6 = .ok (.istore_n 3, 1) := by decide +kernel
theorem dX2_isOf_7 : decode cX2_isOf 7 = .ok (.iload_n 3, 1) := by decide +kernel
theorem dX2_isOf_8 : decode cX2_isOf 8 = .ok (.bipush 7, 2) := by decide +kernel
theorem dX2_isOf_10 : decode cX2_isOf 10 = .ok (.if_icmp .ge 32, 3) := by decide +kernel
theorem dX2_isOf_13 : decode cX2_isOf 13 = .ok (.iload_n 2, 1) := by decide +kernel
theorem dX2_isOf_14 : decode cX2_isOf 14 = .ok (.iconst 0, 1) := by decide +kernel
theorem dX2_isOf_15 : decode cX2_isOf 15 = .ok (.bipush 6, 2) := by decide +kernel
theorem dX2_isOf_17 : decode cX2_isOf 17 = .ok (.invokestatic 21, 3) := by decide +kernel
theorem dX2_isOf_20 : decode cX2_isOf 20 = .ok (.ifCond .eq 22, 3) := by decide +kernel
theorem dX2_isOf_23 : decode cX2_isOf 23 = .ok (.iload_n 2, 1) := by decide +kernel
theorem dX2_isOf_24 : decode cX2_isOf 24 = .ok (.iload_n 1, 1) := by decide +kernel
theorem dX2_isOf_25 : decode cX2_isOf 25 = .ok (.if_icmp .ne 5, 3) := by decide +kernel
theorem dX2_isOf_28 : decode cX2_isOf 28 = .ok (.iconst 1, 1) := by decide +kernel
theorem dX2_isOf_29 : decode cX2_isOf 29 = .ok (.ireturn, 1) := by decide +kernel
theorem dX2_isOf_30 : decode cX2_isOf 30 = .ok (.getstatic 25, 3) := by decide +kernel
theorem dX2_isOf_33 : decode cX2_isOf 33 = .ok (.iload_n 2, 1) := by decide +kernel
theorem dX2_isOf_34 : decode cX2_isOf 34 = .ok (.iaload, 1) := by decide +kernel
theorem dX2_isOf_35 : decode cX2_isOf 35 = .ok (.istore_n 2, 1) := by decide +kernel
theorem dX2_isOf_36 : decode cX2_isOf 36 = .ok (.iinc 3 1, 3) := by decide +kernel
theorem dX2_isOf_39 : decode cX2_isOf 39 = .ok (.goto (-32), 3) := by decide +kernel
theorem dX2_isOf_42 : decode cX2_isOf 42 = .ok (.iconst 0, 1) := by decide +kernel
theorem dX2_isOf_43 : decode cX2_isOf 43 = .ok (.ireturn, 1) := by decide +kernel
theorem dX2_mayBe_0 : decode cX2_mayBe 0 = .ok (.iload_n 1, 1) := by decide +kernel
theorem dX2_mayBe_1 : decode cX2_mayBe 1 = .ok (.iconst 1, 1) := by decide +kernel
theorem dX2_mayBe_2 : decode cX2_mayBe 2 = .ok (.if_icmp .lt 15, 3) := by decide +kernel
theorem dX2_mayBe_5 : decode cX2_mayBe 5 = .ok (.iload_n 2, 1) := by decide +kernel
theorem dX2_mayBe_6 : decode cX2_mayBe 6 = .ok (.aload_n 0, 1) := by decide +kernel
theorem dX2_mayBe_7 : decode cX2_mayBe 7 = .ok (.getfield 18, 3) := by decide +kernel
theorem dX2_mayBe_10 : decode cX2_mayBe 10 = .ok (.if_icmp .lt 7, 3) := by decide +kernel
theorem dX2_mayBe_13 : decode cX2_mayBe 13 = .ok (.iconst 1, 1) := by decide +kernel
theorem dX2_mayBe_14 : decode cX2_mayBe 14 = .ok (.goto 4, 3) := by decide +kernel
theorem dX2_mayBe_17 : decode cX2_mayBe 17 = .ok (.iconst 0, 1) := by decide +kernel
theorem dX2_mayBe_18 : decode cX2_mayBe 18 = .ok (.ireturn, 1) := by decide +kernel
set_option maxRecDepth 20000 in
theorem ggX2_waysAt_X2_calmWaysAt : GoodIn wsX2_waysAt wsX2_calmWaysAt := goodIn_r _ [13, 1, 14, 15, 16, 17] (by decide +kernel) (by decide +kernel)
set_option maxRecDepth 20000 in
theorem gX2_waysAt_X2_calmWaysAt : GoodIn wsX2_waysAt (wsV RX2 29 RX2 yX2_calmWaysAt wsX2_calmWaysAt) := goodIn_app (goodIn_of _ (by decide +kernel)) ggX2_waysAt_X2_calmWaysAt
theorem dX2_waysAt_0 : decode cX2_waysAt 0 = .ok (.aload_n 0, 1) := by decide +kernel
theorem dX2_waysAt_1 : decode cX2_waysAt 1 = .ok (.getfield 9, 3) := by decide +kernel
theorem dX2_waysAt_4 : decode cX2_waysAt 4 = .ok (.iconst 5, 1) := by decide +kernel
theorem dX2_waysAt_5 : decode cX2_waysAt 5 = .ok (.if_icmp .ne 6, 3) := by decide +kernel
theorem dX2_waysAt_8 : decode cX2_waysAt 8 = .ok (.bipush 12, 2) := by decide +kernel
theorem dX2_waysAt_10 : decode cX2_waysAt 10 = .ok (.ireturn, 1) := by decide +kernel
theorem dX2_waysAt_11 : decode cX2_waysAt 11 = .ok (.iconst 0, 1) := by decide +kernel
theorem dX2_waysAt_12 : decode cX2_waysAt 12 = .ok (.bipush 12, 2) := by decide +kernel
theorem dX2_waysAt_14 : decode cX2_waysAt 14 = .ok (.aload_n 0, 1) := by decide +kernel
theorem dX2_waysAt_15 : decode cX2_waysAt 15 = .ok (.iload_n 1, 1) := by decide +kernel
theorem dX2_waysAt_16 : decode cX2_waysAt 16 = .ok (.invokevirtual 29, 3) := by decide +kernel
theorem dX2_waysAt_19 : decode cX2_waysAt 19 = .ok (.iload_n 2, 1) := by decide +kernel
theorem dX2_waysAt_20 : decode cX2_waysAt 20 = .ok (.iconst 3, 1) := by decide +kernel
theorem dX2_waysAt_21 : decode cX2_waysAt 21 = .ok (.idiv, 1) := by decide +kernel
theorem dX2_waysAt_22 : decode cX2_waysAt 22 = .ok (.isub, 1) := by decide +kernel
theorem dX2_waysAt_23 : decode cX2_waysAt 23 = .ok (.invokestatic 33, 3) := by decide +kernel
theorem dX2_waysAt_26 : decode cX2_waysAt 26 = .ok (.invokestatic 39, 3) := by decide +kernel
theorem dX2_waysAt_29 : decode cX2_waysAt 29 = .ok (.ireturn, 1) := by decide +kernel
theorem dX2_calmWaysAt_0 : decode cX2_calmWaysAt 0 = .ok (.aload_n 0, 1) := by decide +kernel
theorem dX2_calmWaysAt_1 : decode cX2_calmWaysAt 1 = .ok (.getfield 9, 3) := by decide +kernel
theorem dX2_calmWaysAt_4 : decode cX2_calmWaysAt 4 = .ok (.tableswitch 91 1 6 #[40, 61, 47, 75, 91, 83], 40) := by decide +kernel
theorem dX2_calmWaysAt_44 : decode cX2_calmWaysAt 44 = .ok (.bipush 8, 2) := by decide +kernel
theorem dX2_calmWaysAt_46 : decode cX2_calmWaysAt 46 = .ok (.iload_n 1, 1) := by decide +kernel
theorem dX2_calmWaysAt_47 : decode cX2_calmWaysAt 47 = .ok (.iconst 4, 1) := by decide +kernel
theorem dX2_calmWaysAt_48 : decode cX2_calmWaysAt 48 = .ok (.idiv, 1) := by decide +kernel
theorem dX2_calmWaysAt_49 : decode cX2_calmWaysAt 49 = .ok (.isub, 1) := by decide +kernel
theorem dX2_calmWaysAt_50 : decode cX2_calmWaysAt 50 = .ok (.ireturn, 1) := by decide +kernel
theorem dX2_calmWaysAt_51 : decode cX2_calmWaysAt 51 = .ok (.bipush 8, 2) := by decide +kernel
theorem dX2_calmWaysAt_53 : decode cX2_calmWaysAt 53 = .ok (.iload_n 1, 1) := by decide +kernel
theorem dX2_calmWaysAt_54 : decode cX2_calmWaysAt 54 = .ok (.iconst 4, 1) := by decide +kernel
theorem dX2_calmWaysAt_55 : decode cX2_calmWaysAt 55 = .ok (.idiv, 1) := by decide +kernel
theorem dX2_calmWaysAt_56 : decode cX2_calmWaysAt 56 = .ok (.isub, 1) := by decide +kernel
theorem dX2_calmWaysAt_57 : decode cX2_calmWaysAt 57 = .ok (.aload_n 0, 1) := by decide +kernel
theorem dX2_calmWaysAt_58 : decode cX2_calmWaysAt 58 = .ok (.getfield 15, 3) := by decide +kernel
theorem dX2_calmWaysAt_61 : decode cX2_calmWaysAt 61 = .ok (.iconst 2, 1) := by decide +kernel
theorem dX2_calmWaysAt_62 : decode cX2_calmWaysAt 62 = .ok (.idiv, 1) := by decide +kernel
theorem dX2_calmWaysAt_63 : decode cX2_calmWaysAt 63 = .ok (.iadd, 1) := by decide +kernel
theorem dX2_calmWaysAt_64 : decode cX2_calmWaysAt 64 = .ok (.ireturn, 1) := by decide +kernel
theorem dX2_calmWaysAt_65 : decode cX2_calmWaysAt 65 = .ok (.bipush 6, 2) := by decide +kernel
theorem dX2_calmWaysAt_67 : decode cX2_calmWaysAt 67 = .ok (.iload_n 1, 1) := by decide +kernel
theorem dX2_calmWaysAt_68 : decode cX2_calmWaysAt 68 = .ok (.iconst 4, 1) := by decide +kernel
theorem dX2_calmWaysAt_69 : decode cX2_calmWaysAt 69 = .ok (.idiv, 1) := by decide +kernel
theorem dX2_calmWaysAt_70 : decode cX2_calmWaysAt 70 = .ok (.isub, 1) := by decide +kernel
theorem dX2_calmWaysAt_71 : decode cX2_calmWaysAt 71 = .ok (.aload_n 0, 1) := by decide +kernel
theorem dX2_calmWaysAt_72 : decode cX2_calmWaysAt 72 = .ok (.getfield 15, 3) := by decide +kernel
theorem dX2_calmWaysAt_75 : decode cX2_calmWaysAt 75 = .ok (.iconst 3, 1) := by decide +kernel
theorem dX2_calmWaysAt_76 : decode cX2_calmWaysAt 76 = .ok (.idiv, 1) := by decide +kernel
theorem dX2_calmWaysAt_77 : decode cX2_calmWaysAt 77 = .ok (.iadd, 1) := by decide +kernel
theorem dX2_calmWaysAt_78 : decode cX2_calmWaysAt 78 = .ok (.ireturn, 1) := by decide +kernel
theorem dX2_calmWaysAt_79 : decode cX2_calmWaysAt 79 = .ok (.bipush 8, 2) := by decide +kernel
theorem dX2_calmWaysAt_81 : decode cX2_calmWaysAt 81 = .ok (.iload_n 1, 1) := by decide +kernel
theorem dX2_calmWaysAt_82 : decode cX2_calmWaysAt 82 = .ok (.bipush 6, 2) := by decide +kernel
theorem dX2_calmWaysAt_84 : decode cX2_calmWaysAt 84 = .ok (.idiv, 1) := by decide +kernel
theorem dX2_calmWaysAt_85 : decode cX2_calmWaysAt 85 = .ok (.isub, 1) := by decide +kernel
theorem dX2_calmWaysAt_86 : decode cX2_calmWaysAt 86 = .ok (.ireturn, 1) := by decide +kernel
theorem dX2_calmWaysAt_87 : decode cX2_calmWaysAt 87 = .ok (.bipush 10, 2) := by decide +kernel
theorem dX2_calmWaysAt_89 : decode cX2_calmWaysAt 89 = .ok (.iload_n 1, 1) := by decide +kernel
theorem dX2_calmWaysAt_90 : decode cX2_calmWaysAt 90 = .ok (.bipush 6, 2) := by decide +kernel
theorem dX2_calmWaysAt_92 : decode cX2_calmWaysAt 92 = .ok (.idiv, 1) := by decide +kernel
theorem dX2_calmWaysAt_93 : decode cX2_calmWaysAt 93 = .ok (.isub, 1) := by decide +kernel
theorem dX2_calmWaysAt_94 : decode cX2_calmWaysAt 94 = .ok (.ireturn, 1) := by decide +kernel
theorem dX2_calmWaysAt_95 : decode cX2_calmWaysAt 95 = .ok (.bipush 6, 2) := by decide +kernel
theorem dX2_calmWaysAt_97 : decode cX2_calmWaysAt 97 = .ok (.iload_n 1, 1) := by decide +kernel
theorem dX2_calmWaysAt_98 : decode cX2_calmWaysAt 98 = .ok (.iconst 4, 1) := by decide +kernel
theorem dX2_calmWaysAt_99 : decode cX2_calmWaysAt 99 = .ok (.idiv, 1) := by decide +kernel
theorem dX2_calmWaysAt_100 : decode cX2_calmWaysAt 100 = .ok (.isub, 1) := by decide +kernel
theorem dX2_calmWaysAt_101 : decode cX2_calmWaysAt 101 = .ok (.ireturn, 1) := by decide +kernel
theorem dX2_step_0 : decode cX2_step 0 = .ok (.aload_n 0, 1) := by decide +kernel
theorem dX2_step_1 : decode cX2_step 1 = .ok (.getfield 9, 3) := by decide +kernel
theorem dX2_step_4 : decode cX2_step 4 = .ok (.tableswitch 49 2 6 #[36, 49, 45, 47, 45], 36) := by decide +kernel
theorem dX2_step_40 : decode cX2_step 40 = .ok (.iconst 2, 1) := by decide +kernel
theorem dX2_step_41 : decode cX2_step 41 = .ok (.aload_n 0, 1) := by decide +kernel
theorem dX2_step_42 : decode cX2_step 42 = .ok (.getfield 15, 3) := by decide +kernel
theorem dX2_step_45 : decode cX2_step 45 = .ok (.iconst 3, 1) := by decide +kernel
theorem dX2_step_46 : decode cX2_step 46 = .ok (.idiv, 1) := by decide +kernel
theorem dX2_step_47 : decode cX2_step 47 = .ok (.iadd, 1) := by decide +kernel
theorem dX2_step_48 : decode cX2_step 48 = .ok (.ireturn, 1) := by decide +kernel
theorem dX2_step_49 : decode cX2_step 49 = .ok (.iconst 2, 1) := by decide +kernel
theorem dX2_step_50 : decode cX2_step 50 = .ok (.ireturn, 1) := by decide +kernel
theorem dX2_step_51 : decode cX2_step 51 = .ok (.iconst 4, 1) := by decide +kernel
theorem dX2_step_52 : decode cX2_step 52 = .ok (.ireturn, 1) := by decide +kernel
theorem dX2_step_53 : decode cX2_step 53 = .ok (.iconst 1, 1) := by decide +kernel
theorem dX2_step_54 : decode cX2_step 54 = .ok (.ireturn, 1) := by decide +kernel
set_option maxRecDepth 20000 in
theorem ggX2_shallower_X2_step : GoodIn wsX2_shallower wsX2_step := goodIn_r _ [9, 10, 11, 12, 13, 14] (by decide +kernel) (by decide +kernel)
set_option maxRecDepth 20000 in
theorem gX2_shallower_X2_step : GoodIn wsX2_shallower (wsV RX2 42 RX2 yX2_step wsX2_step) := goodIn_app (goodIn_of _ (by decide +kernel)) ggX2_shallower_X2_step
theorem dX2_shallower_0 : decode cX2_shallower 0 = .ok (.iconst 0, 1) := by decide +kernel
theorem dX2_shallower_1 : decode cX2_shallower 1 = .ok (.iload_n 1, 1) := by decide +kernel
theorem dX2_shallower_2 : decode cX2_shallower 2 = .ok (.aload_n 0, 1) := by decide +kernel
theorem dX2_shallower_3 : decode cX2_shallower 3 = .ok (.invokevirtual 42, 3) := by decide +kernel
theorem dX2_shallower_6 : decode cX2_shallower 6 = .ok (.isub, 1) := by decide +kernel
theorem dX2_shallower_7 : decode cX2_shallower 7 = .ok (.invokestatic 39, 3) := by decide +kernel
theorem dX2_shallower_10 : decode cX2_shallower 10 = .ok (.ireturn, 1) := by decide +kernel
theorem dX2_deeper_0 : decode cX2_deeper 0 = .ok (.aload_n 0, 1) := by decide +kernel
theorem dX2_deeper_1 : decode cX2_deeper 1 = .ok (.getfield 9, 3) := by decide +kernel
theorem dX2_deeper_4 : decode cX2_deeper 4 = .ok (.iconst 5, 1) := by decide +kernel
theorem dX2_deeper_5 : decode cX2_deeper 5 = .ok (.if_icmp .ne 5, 3) := by decide +kernel
theorem dX2_deeper_8 : decode cX2_deeper 8 = .ok (.iload_n 1, 1) := by decide +kernel
theorem dX2_deeper_9 : decode cX2_deeper 9 = .ok (.ireturn, 1) := by decide +kernel
theorem dX2_deeper_10 : decode cX2_deeper 10 = .ok (.aload_n 0, 1) := by decide +kernel
theorem dX2_deeper_11 : decode cX2_deeper 11 = .ok (.getfield 9, 3) := by decide +kernel
theorem dX2_deeper_14 : decode cX2_deeper 14 = .ok (.iconst 2, 1) := by decide +kernel
theorem dX2_deeper_15 : decode cX2_deeper 15 = .ok (.if_icmp .ne 14, 3) := by decide +kernel
theorem dX2_deeper_18 : decode cX2_deeper 18 = .ok (.iconst 1, 1) := by decide +kernel
theorem dX2_deeper_19 : decode cX2_deeper 19 = .ok (.aload_n 0, 1) := by decide +kernel
theorem dX2_deeper_20 : decode cX2_deeper 20 = .ok (.getfield 15, 3) := by decide +kernel
theorem dX2_deeper_23 : decode cX2_deeper 23 = .ok (.iconst 3, 1) := by decide +kernel
theorem dX2_deeper_24 : decode cX2_deeper 24 = .ok (.idiv, 1) := by decide +kernel
theorem dX2_deeper_25 : decode cX2_deeper 25 = .ok (.iadd, 1) := by decide +kernel
theorem dX2_deeper_26 : decode cX2_deeper 26 = .ok (.goto 4, 3) := by decide +kernel
theorem dX2_deeper_29 : decode cX2_deeper 29 = .ok (.iconst 0, 1) := by decide +kernel
theorem dX2_deeper_30 : decode cX2_deeper 30 = .ok (.istore_n 3, 1) := by decide +kernel
theorem dX2_deeper_31 : decode cX2_deeper 31 = .ok (.iload_n 2, 1) := by decide +kernel
theorem dX2_deeper_32 : decode cX2_deeper 32 = .ok (.bipush 6, 2) := by decide +kernel
theorem dX2_deeper_34 : decode cX2_deeper 34 = .ok (.if_icmp .lt 6, 3) := by decide +kernel
theorem dX2_deeper_37 : decode cX2_deeper 37 = .ok (.iinc 3 1, 3) := by decide +kernel
theorem dX2_deeper_40 : decode cX2_deeper 40 = .ok (.bipush 24, 2) := by decide +kernel
theorem dX2_deeper_42 : decode cX2_deeper 42 = .ok (.iload_n 1, 1) := by decide +kernel
theorem dX2_deeper_43 : decode cX2_deeper 43 = .ok (.iload_n 3, 1) := by decide +kernel
theorem dX2_deeper_44 : decode cX2_deeper 44 = .ok (.iadd, 1) := by decide +kernel
theorem dX2_deeper_45 : decode cX2_deeper 45 = .ok (.invokestatic 33, 3) := by decide +kernel
theorem dX2_deeper_48 : decode cX2_deeper 48 = .ok (.ireturn, 1) := by decide +kernel
set_option maxRecDepth 20000 in
theorem ggX2_makes_X2_waysAt : GoodIn wsX2_makes wsX2_waysAt := goodIn_r _ [5, 6, 7, 8, 9, 10, 11, 12, 13, 14, 15, 16, 4, 17, 18, 31, 32, 33] (by decide +kernel) (by decide +kernel)
set_option maxRecDepth 20000 in
theorem gX2_makes_X2_waysAt : GoodIn wsX2_makes (wsV RX2 46 RX2 yX2_waysAt wsX2_waysAt) := goodIn_app (goodIn_of _ (by decide +kernel)) ggX2_makes_X2_waysAt
set_option maxRecDepth 20000 in
theorem ggX2_makes_X2_shallower : GoodIn wsX2_makes wsX2_shallower := goodIn_r _ [22, 11, 12, 9, 13, 23, 24, 25, 4, 26, 6, 18, 31, 32, 33] (by decide +kernel) (by decide +kernel)
set_option maxRecDepth 20000 in
theorem gX2_makes_X2_shallower : GoodIn wsX2_makes (wsV RX2 49 RX2 yX2_shallower wsX2_shallower) := goodIn_app (goodIn_of _ (by decide +kernel)) ggX2_makes_X2_shallower
set_option maxRecDepth 20000 in
theorem ggX2_makes_X2_deeper : GoodIn wsX2_makes wsX2_deeper := goodIn_r _ [30, 6, 18, 7, 8, 9, 10, 31, 32, 33] (by decide +kernel) (by decide +kernel)
set_option maxRecDepth 20000 in
theorem gX2_makes_X2_deeper : GoodIn wsX2_makes (wsV RX2 52 RX2 yX2_deeper wsX2_deeper) := goodIn_app (goodIn_of _ (by decide +kernel)) ggX2_makes_X2_deeper
theorem dX2_makes_0 : decode cX2_makes 0 = .ok (.iload_n 1, 1) := by decide +kernel
theorem dX2_makes_1 : decode cX2_makes 1 = .ok (.iconst 1, 1) := by decide +kernel
theorem dX2_makes_2 : decode cX2_makes 2 = .ok (.if_icmp .ge 5, 3) := by decide +kernel
theorem dX2_makes_5 : decode cX2_makes 5 = .ok (.iconst 0, 1) := by decide +kernel
theorem dX2_makes_6 : decode cX2_makes 6 = .ok (.ireturn, 1) := by decide +kernel
theorem dX2_makes_7 : decode cX2_makes 7 = .ok (.aload_n 0, 1) := by decide +kernel
theorem dX2_makes_8 : decode cX2_makes 8 = .ok (.iload_n 1, 1) := by decide +kernel
theorem dX2_makes_9 : decode cX2_makes 9 = .ok (.iload_n 3, 1) := by decide +kernel
theorem dX2_makes_10 : decode cX2_makes 10 = .ok (.invokevirtual 46, 3) := by decide +kernel
theorem dX2_makes_13 : decode cX2_makes 13 = .ok (.istore 4, 2) := by decide +kernel
theorem dX2_makes_15 : decode cX2_makes 15 = .ok (.iload 4, 2) := by decide +kernel
theorem dX2_makes_17 : decode cX2_makes 17 = .ok (.ifCond .le 12, 3) := by decide +kernel
theorem dX2_makes_20 : decode cX2_makes 20 = .ok (.aload_n 0, 1) := by decide +kernel
theorem dX2_makes_21 : decode cX2_makes 21 = .ok (.iload_n 1, 1) := by decide +kernel
theorem dX2_makes_22 : decode cX2_makes 22 = .ok (.invokevirtual 49, 3) := by decide +kernel
theorem dX2_makes_25 : decode cX2_makes 25 = .ok (.iload_n 2, 1) := by decide +kernel
theorem dX2_makes_26 : decode cX2_makes 26 = .ok (.if_icmp .eq 20, 3) := by decide +kernel
theorem dX2_makes_29 : decode cX2_makes 29 = .ok (.iload 4, 2) := by decide +kernel
theorem dX2_makes_31 : decode cX2_makes 31 = .ok (.bipush 12, 2) := by decide +kernel
theorem dX2_makes_33 : decode cX2_makes 33 = .ok (.if_icmp .ge 17, 3) := by decide +kernel
theorem dX2_makes_36 : decode cX2_makes 36 = .ok (.aload_n 0, 1) := by decide +kernel
theorem dX2_makes_37 : decode cX2_makes 37 = .ok (.iload_n 1, 1) := by decide +kernel
theorem dX2_makes_38 : decode cX2_makes 38 = .ok (.iload_n 3, 1) := by decide +kernel
theorem dX2_makes_39 : decode cX2_makes 39 = .ok (.invokevirtual 52, 3) := by decide +kernel
theorem dX2_makes_42 : decode cX2_makes 42 = .ok (.iload_n 2, 1) := by decide +kernel
theorem dX2_makes_43 : decode cX2_makes 43 = .ok (.if_icmp .ne 7, 3) := by decide +kernel
theorem dX2_makes_46 : decode cX2_makes 46 = .ok (.iconst 1, 1) := by decide +kernel
theorem dX2_makes_47 : decode cX2_makes 47 = .ok (.goto 4, 3) := by decide +kernel
theorem dX2_makes_50 : decode cX2_makes 50 = .ok (.iconst 0, 1) := by decide +kernel
theorem dX2_makes_51 : decode cX2_makes 51 = .ok (.ireturn, 1) := by decide +kernel
theorem dX3_init_0 : decode cX3_init 0 = .ok (.aload_n 0, 1) := by decide +kernel
theorem dX3_init_1 : decode cX3_init 1 = .ok (.invokespecial 3, 3) := by decide +kernel
theorem dX3_init_4 : decode cX3_init 4 = .ok (.aload_n 0, 1) := by decide +kernel
theorem dX3_init_5 : decode cX3_init 5 = .ok (.sipush 132, 3) := by decide +kernel
theorem dX3_init_8 : decode cX3_init 8 = .ok (.newarray .int, 2) := by decide +kernel
theorem dX3_init_10 : decode cX3_init 10 = .ok (.putfield 11, 3) := by decide +kernel
theorem dX3_init_13 : decode cX3_init 13 = .ok (.aload_n 0, 1) := by decide +kernel
theorem dX3_init_14 : decode cX3_init 14 = .ok (.sipush 160, 3) := by decide +kernel
theorem dX3_init_17 : decode cX3_init 17 = .ok (.newarray .int, 2) := by decide +kernel
theorem dX3_init_19 : decode cX3_init 19 = .ok (.putfield 15, 3) := by decide +kernel
theorem dX3_init_22 : decode cX3_init 22 = .ok (.aload_n 0, 1) := by decide +kernel
theorem dX3_init_23 : decode cX3_init 23 = .ok (.iconst 0, 1) := by decide +kernel
theorem dX3_init_24 : decode cX3_init 24 = .ok (.putfield 18, 3) := by decide +kernel
theorem dX3_init_27 : decode cX3_init 27 = .ok (.aload_n 0, 1) := by decide +kernel
theorem dX3_init_28 : decode cX3_init 28 = .ok (.iconst 0, 1) := by decide +kernel
theorem dX3_init_29 : decode cX3_init 29 = .ok (.putfield 22, 3) := by decide +kernel
theorem dX3_init_32 : decode cX3_init 32 = .ok (.aload_n 0, 1) := by decide +kernel
theorem dX3_init_33 : decode cX3_init 33 = .ok (.iconst 0, 1) := by decide +kernel
theorem dX3_init_34 : decode cX3_init 34 = .ok (.putfield 25, 3) := by decide +kernel
theorem dX3_init_37 : decode cX3_init 37 = .ok (.aload_n 0, 1) := by decide +kernel
theorem dX3_init_38 : decode cX3_init 38 = .ok (.iconst (-1), 1) := by decide +kernel
theorem dX3_init_39 : decode cX3_init 39 = .ok (.putfield 28, 3) := by decide +kernel
theorem dX3_init_42 : decode cX3_init 42 = .ok (.aload_n 0, 1) := by decide +kernel
theorem dX3_init_43 : decode cX3_init 43 = .ok (.iconst 0, 1) := by decide +kernel
theorem dX3_init_44 : decode cX3_init 44 = .ok (.putfield 31, 3) := by decide +kernel
theorem dX3_init_47 : decode cX3_init 47 = .ok (.aload_n 0, 1) := by decide +kernel
theorem dX3_init_48 : decode cX3_init 48 = .ok (.iconst 0, 1) := by decide +kernel
theorem dX3_init_49 : decode cX3_init 49 = .ok (.putfield 34, 3) := by decide +kernel
theorem dX3_init_52 : decode cX3_init 52 = .ok (.return_, 1) := by decide +kernel
set_option maxRecDepth 20000 in
theorem ggX3_read_X3_takeLetters : GoodIn wsX3_read wsX3_takeLetters := goodIn_r _ [11, 12, 13, 14, 15, 16, 6, 17, 18, 19, 20, 21, 22, 23, 24, 25, 26, 27, 28, 137, 138, 139, 129, 130, 131, 132, 133, 134, 135, 136] (by decide +kernel) (by decide +kernel)
set_option maxRecDepth 20000 in
theorem gX3_read_X3_takeLetters : GoodIn wsX3_read (wsV RX3 37 RX3 yX3_takeLetters wsX3_takeLetters) := goodIn_app (goodIn_of _ (by decide +kernel)) ggX3_read_X3_takeLetters
set_option maxRecDepth 20000 in
theorem ggX3_read_X3_readItem : GoodIn wsX3_read wsX3_readItem := goodIn_r _ [32, 33, 4, 1, 2, 34, 35, 36, 10, 37, 38, 39, 15, 40, 3, 41, 42, 43, 44, 45, 46, 47, 48, 49, 50, 51, 52, 53, 54, 55, 56, 57, 58, 59, 60, 61, 62, 63, 64, 65, 66, 67, 68, 69, 70, 71, 72, 73, 74, 75, 76, 77, 78, 79, 80, 81, 82, 83, 84, 85, 86, 87, 88, 89, 90, 91, 92, 93, 94, 95, 96, 97, 98, 99, 100, 6, 17, 101, 102, 103, 104, 105, 106, 107, 108, 109, 110, 111, 112, 113, 114, 115, 116, 117, 118, 119, 120, 121, 122, 123, 124, 125, 126, 127, 128, 129, 130, 131, 132, 133, 134, 135, 136] (by decide +kernel) (by decide +kernel)
set_option maxRecDepth 20000 in
theorem gX3_read_X3_readItem : GoodIn wsX3_read (wsV RX3 41 RX3 yX3_readItem wsX3_readItem) := goodIn_app (goodIn_of _ (by decide +kernel)) ggX3_read_X3_readItem
set_option maxRecDepth 20000 in
theorem ggX3_read_X3_expect : GoodIn wsX3_read wsX3_expect := goodIn_r _ [111, 3, 4, 97, 98, 99, 10, 100, 6, 17, 129, 130, 131, 132, 133, 134, 135, 136] (by decide +kernel) (by decide +kernel)
set_option maxRecDepth 20000 in
theorem gX3_read_X3_expect : GoodIn wsX3_read (wsV RX3 45 RX3 yX3_expect wsX3_expect) := goodIn_app (goodIn_of _ (by decide +kernel)) ggX3_read_X3_expect
theorem dX3_read_0 : decode cX3_read 0 = .ok (.aload_n 0, 1) := by decide +kernel
theorem dX3_read_1 : decode cX3_read 1 = .ok (.aload_n 1, 1) := by decide +kernel
theorem dX3_read_2 : decode cX3_read 2 = .ok (.invokevirtual 37, 3) := by decide +kernel
theorem dX3_read_5 : decode cX3_read 5 = .ok (.aload_n 0, 1) := by decide +kernel
theorem dX3_read_6 : decode cX3_read 6 = .ok (.iload_n 2, 1) := by decide +kernel
theorem dX3_read_7 : decode cX3_read 7 = .ok (.putfield 31, 3) := by decide +kernel
theorem dX3_read_10 : decode cX3_read 10 = .ok (.aload_n 0, 1) := by decide +kernel
theorem dX3_read_11 : decode cX3_read 11 = .ok (.iload_n 3, 1) := by decide +kernel
theorem dX3_read_12 : decode cX3_read 12 = .ok (.putfield 34, 3) := by decide +kernel
theorem dX3_read_15 : decode cX3_read 15 = .ok (.aload_n 0, 1) := by decide +kernel
theorem dX3_read_16 : decode cX3_read 16 = .ok (.iconst 0, 1) := by decide +kernel
theorem dX3_read_17 : decode cX3_read 17 = .ok (.putfield 25, 3) := by decide +kernel
theorem dX3_read_20 : decode cX3_read 20 = .ok (.aload_n 0, 1) := by decide +kernel
theorem dX3_read_21 : decode cX3_read 21 = .ok (.iconst (-1), 1) := by decide +kernel
theorem dX3_read_22 : decode cX3_read 22 = .ok (.putfield 28, 3) := by decide +kernel
theorem dX3_read_25 : decode cX3_read 25 = .ok (.iconst 1, 1) := by decide +kernel
theorem dX3_read_26 : decode cX3_read 26 = .ok (.istore 4, 2) := by decide +kernel
theorem dX3_read_28 : decode cX3_read 28 = .ok (.aload_n 0, 1) := by decide +kernel
theorem dX3_read_29 : decode cX3_read 29 = .ok (.iconst 0, 1) := by decide +kernel
theorem dX3_read_30 : decode cX3_read 30 = .ok (.putfield 22, 3) := by decide +kernel
theorem dX3_read_33 : decode cX3_read 33 = .ok (.iload 4, 2) := by decide +kernel
theorem dX3_read_35 : decode cX3_read 35 = .ok (.ifCond .eq 87, 3) := by decide +kernel
theorem dX3_read_38 : decode cX3_read 38 = .ok (.aload_n 0, 1) := by decide +kernel
theorem dX3_read_39 : decode cX3_read 39 = .ok (.getfield 22, 3) := by decide +kernel
theorem dX3_read_42 : decode cX3_read 42 = .ok (.bipush 33, 2) := by decide +kernel
theorem dX3_read_44 : decode cX3_read 44 = .ok (.if_icmp .ge 78, 3) := by decide +kernel
theorem dX3_read_47 : decode cX3_read 47 = .ok (.aload_n 0, 1) := by decide +kernel
theorem dX3_read_48 : decode cX3_read 48 = .ok (.aload_n 0, 1) := by decide +kernel
theorem dX3_read_49 : decode cX3_read 49 = .ok (.getfield 22, 3) := by decide +kernel
theorem dX3_read_52 : decode cX3_read 52 = .ok (.iconst 4, 1) := by decide +kernel
theorem dX3_read_53 : decode cX3_read 53 = .ok (.imul, 1) := by decide +kernel
theorem dX3_read_54 : decode cX3_read 54 = .ok (.invokevirtual 41, 3) := by decide +kernel
theorem dX3_read_57 : decode cX3_read 57 = .ok (.aload_n 0, 1) := by decide +kernel
theorem dX3_read_58 : decode cX3_read 58 = .ok (.getfield 28, 3) := by decide +kernel
theorem dX3_read_61 : decode cX3_read 61 = .ok (.iconst (-1), 1) := by decide +kernel
theorem dX3_read_62 : decode cX3_read 62 = .ok (.if_icmp .ne 18, 3) := by decide +kernel
theorem dX3_read_65 : decode cX3_read 65 = .ok (.aload_n 0, 1) := by decide +kernel
theorem dX3_read_66 : decode cX3_read 66 = .ok (.getfield 25, 3) := by decide +kernel
theorem dX3_read_69 : decode cX3_read 69 = .ok (.aload_n 0, 1) := by decide +kernel
theorem dX3_read_70 : decode cX3_read 70 = .ok (.getfield 18, 3) := by decide +kernel
theorem dX3_read_73 : decode cX3_read 73 = .ok (.if_icmp .ge 7, 3) := by decide +kernel
theorem dX3_read_76 : decode cX3_read 76 = .ok (.iconst 1, 1) := by decide +kernel
theorem dX3_read_77 : decode cX3_read 77 = .ok (.goto 4, 3) := by decide +kernel
theorem dX3_read_80 : decode cX3_read 80 = .ok (.iconst 0, 1) := by decide +kernel
theorem dX3_read_81 : decode cX3_read 81 = .ok (.istore 4, 2) := by decide +kernel
theorem dX3_read_83 : decode cX3_read 83 = .ok (.iload 4, 2) := by decide +kernel
theorem dX3_read_85 : decode cX3_read 85 = .ok (.ifCond .eq 24, 3) := by decide +kernel
theorem dX3_read_88 : decode cX3_read 88 = .ok (.aload_n 0, 1) := by decide +kernel
theorem dX3_read_89 : decode cX3_read 89 = .ok (.bipush 59, 2) := by decide +kernel
theorem dX3_read_91 : decode cX3_read 91 = .ok (.invokevirtual 45, 3) := by decide +kernel
theorem dX3_read_94 : decode cX3_read 94 = .ok (.aload_n 0, 1) := by decide +kernel
theorem dX3_read_95 : decode cX3_read 95 = .ok (.getfield 28, 3) := by decide +kernel
theorem dX3_read_98 : decode cX3_read 98 = .ok (.iconst (-1), 1) := by decide +kernel
theorem dX3_read_99 : decode cX3_read 99 = .ok (.if_icmp .ne 7, 3) := by decide +kernel
theorem dX3_read_102 : decode cX3_read 102 = .ok (.iconst 1, 1) := by decide +kernel
theorem dX3_read_103 : decode cX3_read 103 = .ok (.goto 4, 3) := by decide +kernel
theorem dX3_read_106 : decode cX3_read 106 = .ok (.iconst 0, 1) := by decide +kernel
theorem dX3_read_107 : decode cX3_read 107 = .ok (.istore 4, 2) := by decide +kernel
theorem dX3_read_109 : decode cX3_read 109 = .ok (.aload_n 0, 1) := by decide +kernel
theorem dX3_read_110 : decode cX3_read 110 = .ok (.dup, 1) := by decide +kernel
theorem dX3_read_111 : decode cX3_read 111 = .ok (.getfield 22, 3) := by decide +kernel
theorem dX3_read_114 : decode cX3_read 114 = .ok (.iconst 1, 1) := by decide +kernel
theorem dX3_read_115 : decode cX3_read 115 = .ok (.iadd, 1) := by decide +kernel
theorem dX3_read_116 : decode cX3_read 116 = .ok (.putfield 22, 3) := by decide +kernel
theorem dX3_read_119 : decode cX3_read 119 = .ok (.goto (-86), 3) := by decide +kernel
theorem dX3_read_122 : decode cX3_read 122 = .ok (.aload_n 0, 1) := by decide +kernel
theorem dX3_read_123 : decode cX3_read 123 = .ok (.getfield 28, 3) := by decide +kernel
theorem dX3_read_126 : decode cX3_read 126 = .ok (.ireturn, 1) := by decide +kernel
set_option maxRecDepth 20000 in
theorem ggX3_takeLetters_X4_tells : GoodIn wsX3_takeLetters wsX4_tells := goodIn_r _ [12, 13, 14, 15, 16, 11, 17, 18, 19, 20, 21] (by decide +kernel) (by decide +kernel)
set_option maxRecDepth 20000 in
theorem gX3_takeLetters_X4_tells : GoodIn wsX3_takeLetters (wsV RX3 58 RX4 yX4_tells wsX4_tells) := goodIn_app (goodIn_of _ (by decide +kernel)) ggX3_takeLetters_X4_tells
theorem dX3_takeLetters_0 : decode cX3_takeLetters 0 = .ok (.aload_n 0, 1) := by decide +kernel
theorem dX3_takeLetters_1 : decode cX3_takeLetters 1 = .ok (.aload_n 1, 1) := by decide +kernel
theorem dX3_takeLetters_2 : decode cX3_takeLetters 2 = .ok (.getfield 49, 3) := by decide +kernel
theorem dX3_takeLetters_5 : decode cX3_takeLetters 5 = .ok (.sipush 160, 3) := by decide +kernel
theorem dX3_takeLetters_8 : decode cX3_takeLetters 8 = .ok (.invokestatic 52, 3) := by decide +kernel
theorem dX3_takeLetters_11 : decode cX3_takeLetters 11 = .ok (.putfield 18, 3) := by decide +kernel
theorem dX3_takeLetters_14 : decode cX3_takeLetters 14 = .ok (.iconst 0, 1) := by decide +kernel
theorem dX3_takeLetters_15 : decode cX3_takeLetters 15 = .ok (.istore_n 2, 1) := by decide +kernel
theorem dX3_takeLetters_16 : decode cX3_takeLetters 16 = .ok (.iload_n 2, 1) := by decide +kernel
theorem dX3_takeLetters_17 : decode cX3_takeLetters 17 = .ok (.aload_n 0, 1) := by decide +kernel
theorem dX3_takeLetters_18 : decode cX3_takeLetters 18 = .ok (.getfield 18, 3) := by decide +kernel
theorem dX3_takeLetters_21 : decode cX3_takeLetters 21 = .ok (.if_icmp .ge 20, 3) := by decide +kernel
theorem dX3_takeLetters_24 : decode cX3_takeLetters 24 = .ok (.aload_n 0, 1) := by decide +kernel
theorem dX3_takeLetters_25 : decode cX3_takeLetters 25 = .ok (.getfield 15, 3) := by decide +kernel
theorem dX3_takeLetters_28 : decode cX3_takeLetters 28 = .ok (.iload_n 2, 1) := by decide +kernel
theorem dX3_takeLetters_29 : decode cX3_takeLetters 29 = .ok (.aload_n 1, 1) := by decide +kernel
theorem dX3_takeLetters_30 : decode cX3_takeLetters 30 = .ok (.iload_n 2, 1) := by decide +kernel
theorem dX3_takeLetters_31 : decode cX3_takeLetters 31 = .ok (.invokevirtual 58, 3) := by decide +kernel
theorem dX3_takeLetters_34 : decode cX3_takeLetters 34 = .ok (.iastore, 1) := by decide +kernel
theorem dX3_takeLetters_35 : decode cX3_takeLetters 35 = .ok (.iinc 2 1, 3) := by decide +kernel
theorem dX3_takeLetters_38 : decode cX3_takeLetters 38 = .ok (.goto (-22), 3) := by decide +kernel
theorem dX3_takeLetters_41 : decode cX3_takeLetters 41 = .ok (.return_, 1) := by decide +kernel
set_option maxRecDepth 20000 in
theorem ggX3_readItem_X3_readWord : GoodIn wsX3_readItem wsX3_readWord := goodIn_r _ [9, 10, 11, 12, 13, 14, 2, 15, 16, 8, 17, 18, 19, 20, 21, 22, 23, 24, 25, 26, 27, 28, 29, 30, 31, 32, 33, 34, 35, 36, 37, 38, 39, 40, 41, 42, 43, 44, 45, 46, 47, 48, 49, 50, 51, 52, 53, 54, 55, 56, 57, 58, 59, 60, 61, 62, 63, 64, 65, 66, 67, 68, 69, 70, 71, 72, 73, 74, 75, 76, 77, 78, 79, 80, 4, 105, 106, 107, 108, 109, 110, 111, 112] (by decide +kernel) (by decide +kernel)
set_option maxRecDepth 20000 in
theorem gX3_readItem_X3_readWord : GoodIn wsX3_readItem (wsV RX3 62 RX3 yX3_readWord wsX3_readWord) := goodIn_app (goodIn_of _ (by decide +kernel)) ggX3_readItem_X3_readWord
set_option maxRecDepth 20000 in
theorem ggX3_readItem_X3_numbersOf : GoodIn wsX3_readItem wsX3_numbersOf := goodIn_r _ [83] (by decide +kernel) (by decide +kernel)
set_option maxRecDepth 20000 in
theorem gX3_readItem_X3_numbersOf : GoodIn wsX3_readItem (va_wsS RX3 66 yX3_numbersOf wsX3_numbersOf) := goodIn_app (goodIn_of _ (by decide +kernel)) ggX3_readItem_X3_numbersOf
set_option maxRecDepth 20000 in
theorem ggX3_readItem_X3_expect : GoodIn wsX3_readItem wsX3_expect := goodIn_r _ [87, 14, 2, 71, 72, 73, 8, 74, 75, 76, 105, 106, 107, 108, 109, 110, 111, 112] (by decide +kernel) (by decide +kernel)
set_option maxRecDepth 20000 in
theorem gX3_readItem_X3_expect : GoodIn wsX3_readItem (wsV RX3 45 RX3 yX3_expect wsX3_expect) := goodIn_app (goodIn_of _ (by decide +kernel)) ggX3_readItem_X3_expect
set_option maxRecDepth 20000 in
theorem ggX3_readItem_X3_leastOf : GoodIn wsX3_readItem wsX3_leastOf := goodIn_r _ [90] (by decide +kernel) (by decide +kernel)
set_option maxRecDepth 20000 in
theorem gX3_readItem_X3_leastOf : GoodIn wsX3_readItem (va_wsS RX3 69 yX3_leastOf wsX3_leastOf) := goodIn_app (goodIn_of _ (by decide +kernel)) ggX3_readItem_X3_leastOf
set_option maxRecDepth 20000 in
theorem ggX3_readItem_X3_mostOf : GoodIn wsX3_readItem wsX3_mostOf := goodIn_r _ [94, 3, 105, 106, 107, 108, 109, 110, 111, 112] (by decide +kernel) (by decide +kernel)
set_option maxRecDepth 20000 in
theorem gX3_readItem_X3_mostOf : GoodIn wsX3_readItem (wsV RX3 72 RX3 yX3_mostOf wsX3_mostOf) := goodIn_app (goodIn_of _ (by decide +kernel)) ggX3_readItem_X3_mostOf
set_option maxRecDepth 20000 in
theorem ggX3_readItem_X3_readNumber : GoodIn wsX3_readItem wsX3_readNumber := goodIn_r _ [98, 14, 75, 76, 2, 99, 100, 8, 101, 102, 103, 104, 105, 106, 107, 108, 109, 110, 111, 112] (by decide +kernel) (by decide +kernel)
set_option maxRecDepth 20000 in
theorem gX3_readItem_X3_readNumber : GoodIn wsX3_readItem (wsV RX3 75 RX3 yX3_readNumber wsX3_readNumber) := goodIn_app (goodIn_of _ (by decide +kernel)) ggX3_readItem_X3_readNumber
theorem dX3_readItem_0 : decode cX3_readItem 0 = .ok (.aload_n 0, 1) := by decide +kernel
theorem dX3_readItem_1 : decode cX3_readItem 1 = .ok (.invokevirtual 62, 3) := by decide +kernel
theorem dX3_readItem_4 : decode cX3_readItem 4 = .ok (.istore_n 2, 1) := by decide +kernel
theorem dX3_readItem_5 : decode cX3_readItem 5 = .ok (.iload_n 2, 1) := by decide +kernel
theorem dX3_readItem_6 : decode cX3_readItem 6 = .ok (.iconst (-1), 1) := by decide +kernel
theorem dX3_readItem_7 : decode cX3_readItem 7 = .ok (.if_icmp .ne 4, 3) := by decide +kernel
theorem dX3_readItem_10 : decode cX3_readItem 10 = .ok (.return_, 1) := by decide +kernel
theorem dX3_readItem_11 : decode cX3_readItem 11 = .ok (.aload_n 0, 1) := by decide +kernel
theorem dX3_readItem_12 : decode cX3_readItem 12 = .ok (.getfield 11, 3) := by decide +kernel
theorem dX3_readItem_15 : decode cX3_readItem 15 = .ok (.iload_n 1, 1) := by decide +kernel
theorem dX3_readItem_16 : decode cX3_readItem 16 = .ok (.iload_n 2, 1) := by decide +kernel
theorem dX3_readItem_17 : decode cX3_readItem 17 = .ok (.iastore, 1) := by decide +kernel
theorem dX3_readItem_18 : decode cX3_readItem 18 = .ok (.iconst 0, 1) := by decide +kernel
theorem dX3_readItem_19 : decode cX3_readItem 19 = .ok (.istore_n 3, 1) := by decide +kernel
theorem dX3_readItem_20 : decode cX3_readItem 20 = .ok (.iload_n 3, 1) := by decide +kernel
theorem dX3_readItem_21 : decode cX3_readItem 21 = .ok (.iload_n 2, 1) := by decide +kernel
theorem dX3_readItem_22 : decode cX3_readItem 22 = .ok (.invokestatic 66, 3) := by decide +kernel
theorem dX3_readItem_25 : decode cX3_readItem 25 = .ok (.if_icmp .ge 57, 3) := by decide +kernel
theorem dX3_readItem_28 : decode cX3_readItem 28 = .ok (.aload_n 0, 1) := by decide +kernel
theorem dX3_readItem_29 : decode cX3_readItem 29 = .ok (.bipush 32, 2) := by decide +kernel
theorem dX3_readItem_31 : decode cX3_readItem 31 = .ok (.invokevirtual 45, 3) := by decide +kernel
theorem dX3_readItem_34 : decode cX3_readItem 34 = .ok (.aload_n 0, 1) := by decide +kernel
theorem dX3_readItem_35 : decode cX3_readItem 35 = .ok (.getfield 28, 3) := by decide +kernel
theorem dX3_readItem_38 : decode cX3_readItem 38 = .ok (.iconst (-1), 1) := by decide +kernel
theorem dX3_readItem_39 : decode cX3_readItem 39 = .ok (.if_icmp .ne 28, 3) := by decide +kernel
theorem dX3_readItem_42 : decode cX3_readItem 42 = .ok (.aload_n 0, 1) := by decide +kernel
theorem dX3_readItem_43 : decode cX3_readItem 43 = .ok (.getfield 11, 3) := by decide +kernel
theorem dX3_readItem_46 : decode cX3_readItem 46 = .ok (.iload_n 1, 1) := by decide +kernel
theorem dX3_readItem_47 : decode cX3_readItem 47 = .ok (.iconst 1, 1) := by decide +kernel
theorem dX3_readItem_48 : decode cX3_readItem 48 = .ok (.iadd, 1) := by decide +kernel
theorem dX3_readItem_49 : decode cX3_readItem 49 = .ok (.iload_n 3, 1) := by decide +kernel
theorem dX3_readItem_50 : decode cX3_readItem 50 = .ok (.iadd, 1) := by decide +kernel
theorem dX3_readItem_51 : decode cX3_readItem 51 = .ok (.aload_n 0, 1) := by decide +kernel
theorem dX3_readItem_52 : decode cX3_readItem 52 = .ok (.iload_n 2, 1) := by decide +kernel
theorem dX3_readItem_53 : decode cX3_readItem 53 = .ok (.iload_n 3, 1) := by decide +kernel
theorem dX3_readItem_54 : decode cX3_readItem 54 = .ok (.invokestatic 69, 3) := by decide +kernel
theorem dX3_readItem_57 : decode cX3_readItem 57 = .ok (.aload_n 0, 1) := by decide +kernel
theorem dX3_readItem_58 : decode cX3_readItem 58 = .ok (.iload_n 2, 1) := by decide +kernel
theorem dX3_readItem_59 : decode cX3_readItem 59 = .ok (.iload_n 3, 1) := by decide +kernel
theorem dX3_readItem_60 : decode cX3_readItem 60 = .ok (.invokevirtual 72, 3) := by decide +kernel
theorem dX3_readItem_63 : decode cX3_readItem 63 = .ok (.invokevirtual 75, 3) := by decide +kernel
theorem dX3_readItem_66 : decode cX3_readItem 66 = .ok (.iastore, 1) := by decide +kernel
theorem dX3_readItem_67 : decode cX3_readItem 67 = .ok (.aload_n 0, 1) := by decide +kernel
theorem dX3_readItem_68 : decode cX3_readItem 68 = .ok (.getfield 28, 3) := by decide +kernel
theorem dX3_readItem_71 : decode cX3_readItem 71 = .ok (.iconst (-1), 1) := by decide +kernel
theorem dX3_readItem_72 : decode cX3_readItem 72 = .ok (.if_icmp .eq 4, 3) := by decide +kernel
theorem dX3_readItem_75 : decode cX3_readItem 75 = .ok (.return_, 1) := by decide +kernel
theorem dX3_readItem_76 : decode cX3_readItem 76 = .ok (.iinc 3 1, 3) := by decide +kernel
theorem dX3_readItem_79 : decode cX3_readItem 79 = .ok (.goto (-59), 3) := by decide +kernel
theorem dX3_readItem_82 : decode cX3_readItem 82 = .ok (.iload_n 2, 1) := by decide +kernel
theorem dX3_readItem_83 : decode cX3_readItem 83 = .ok (.ifCond .ne 18, 3) := by decide +kernel
theorem dX3_readItem_86 : decode cX3_readItem 86 = .ok (.aload_n 0, 1) := by decide +kernel
theorem dX3_readItem_87 : decode cX3_readItem 87 = .ok (.aload_n 0, 1) := by decide +kernel
theorem dX3_readItem_88 : decode cX3_readItem 88 = .ok (.getfield 11, 3) := by decide +kernel
theorem dX3_readItem_91 : decode cX3_readItem 91 = .ok (.iload_n 1, 1) := by decide +kernel
theorem dX3_readItem_92 : decode cX3_readItem 92 = .ok (.iconst 1, 1) := by decide +kernel
theorem dX3_readItem_93 : decode cX3_readItem 93 = .ok (.iadd, 1) := by decide +kernel
theorem dX3_readItem_94 : decode cX3_readItem 94 = .ok (.iaload, 1) := by decide +kernel
theorem dX3_readItem_95 : decode cX3_readItem 95 = .ok (.putfield 31, 3) := by decide +kernel
theorem dX3_readItem_98 : decode cX3_readItem 98 = .ok (.goto 18, 3) := by decide +kernel
theorem dX3_readItem_101 : decode cX3_readItem 101 = .ok (.iload_n 2, 1) := by decide +kernel
theorem dX3_readItem_102 : decode cX3_readItem 102 = .ok (.iconst 3, 1) := by decide +kernel
theorem dX3_readItem_103 : decode cX3_readItem 103 = .ok (.if_icmp .ne 13, 3) := by decide +kernel
theorem dX3_readItem_106 : decode cX3_readItem 106 = .ok (.aload_n 0, 1) := by decide +kernel
theorem dX3_readItem_107 : decode cX3_readItem 107 = .ok (.dup, 1) := by decide +kernel
theorem dX3_readItem_108 : decode cX3_readItem 108 = .ok (.getfield 34, 3) := by decide +kernel
theorem dX3_readItem_111 : decode cX3_readItem 111 = .ok (.iconst 1, 1) := by decide +kernel
theorem dX3_readItem_112 : decode cX3_readItem 112 = .ok (.iadd, 1) := by decide +kernel
theorem dX3_readItem_113 : decode cX3_readItem 113 = .ok (.putfield 34, 3) := by decide +kernel
theorem dX3_readItem_116 : decode cX3_readItem 116 = .ok (.return_, 1) := by decide +kernel
theorem dX3_stands_0 : decode cX3_stands 0 = .ok (.iload_n 1, 1) := by decide +kernel
theorem dX3_stands_1 : decode cX3_stands 1 = .ok (.ifCond .lt 25, 3) := by decide +kernel
theorem dX3_stands_4 : decode cX3_stands 4 = .ok (.iload_n 1, 1) := by decide +kernel
theorem dX3_stands_5 : decode cX3_stands 5 = .ok (.aload_n 0, 1) := by decide +kernel
theorem dX3_stands_6 : decode cX3_stands 6 = .ok (.getfield 18, 3) := by decide +kernel
theorem dX3_stands_9 : decode cX3_stands 9 = .ok (.if_icmp .ge 17, 3) := by decide +kernel
theorem dX3_stands_12 : decode cX3_stands 12 = .ok (.aload_n 0, 1) := by decide +kernel
theorem dX3_stands_13 : decode cX3_stands 13 = .ok (.getfield 15, 3) := by decide +kernel
theorem dX3_stands_16 : decode cX3_stands 16 = .ok (.iload_n 1, 1) := by decide +kernel
theorem dX3_stands_17 : decode cX3_stands 17 = .ok (.iaload, 1) := by decide +kernel
theorem dX3_stands_18 : decode cX3_stands 18 = .ok (.iload_n 2, 1) := by decide +kernel
theorem dX3_stands_19 : decode cX3_stands 19 = .ok (.if_icmp .ne 7, 3) := by decide +kernel
theorem dX3_stands_22 : decode cX3_stands 22 = .ok (.iconst 1, 1) := by decide +kernel
theorem dX3_stands_23 : decode cX3_stands 23 = .ok (.goto 4, 3) := by decide +kernel
theorem dX3_stands_26 : decode cX3_stands 26 = .ok (.iconst 0, 1) := by decide +kernel
theorem dX3_stands_27 : decode cX3_stands 27 = .ok (.ireturn, 1) := by decide +kernel
set_option maxRecDepth 20000 in
theorem ggX3_expect_X3_stands : GoodIn wsX3_expect wsX3_stands := goodIn_r _ [7, 8, 9, 10, 11, 12, 13, 14, 15, 16, 17] (by decide +kernel) (by decide +kernel)
set_option maxRecDepth 20000 in
theorem gX3_expect_X3_stands : GoodIn wsX3_expect (wsV RX3 78 RX3 yX3_stands wsX3_stands) := goodIn_app (goodIn_of _ (by decide +kernel)) ggX3_expect_X3_stands
theorem dX3_expect_0 : decode cX3_expect 0 = .ok (.aload_n 0, 1) := by decide +kernel
theorem dX3_expect_1 : decode cX3_expect 1 = .ok (.aload_n 0, 1) := by decide +kernel
theorem dX3_expect_2 : decode cX3_expect 2 = .ok (.getfield 25, 3) := by decide +kernel
theorem dX3_expect_5 : decode cX3_expect 5 = .ok (.iload_n 1, 1) := by decide +kernel
theorem dX3_expect_6 : decode cX3_expect 6 = .ok (.invokevirtual 78, 3) := by decide +kernel
theorem dX3_expect_9 : decode cX3_expect 9 = .ok (.ifCond .eq 16, 3) := by decide +kernel
theorem dX3_expect_12 : decode cX3_expect 12 = .ok (.aload_n 0, 1) := by decide +kernel
theorem dX3_expect_13 : decode cX3_expect 13 = .ok (.dup, 1) := by decide +kernel
theorem dX3_expect_14 : decode cX3_expect 14 = .ok (.getfield 25, 3) := by decide +kernel
theorem dX3_expect_17 : decode cX3_expect 17 = .ok (.iconst 1, 1) := by decide +kernel
theorem dX3_expect_18 : decode cX3_expect 18 = .ok (.iadd, 1) := by decide +kernel
theorem dX3_expect_19 : decode cX3_expect 19 = .ok (.putfield 25, 3) := by decide +kernel
theorem dX3_expect_22 : decode cX3_expect 22 = .ok (.goto 11, 3) := by decide +kernel
theorem dX3_expect_25 : decode cX3_expect 25 = .ok (.aload_n 0, 1) := by decide +kernel
theorem dX3_expect_26 : decode cX3_expect 26 = .ok (.aload_n 0, 1) := by decide +kernel
theorem dX3_expect_27 : decode cX3_expect 27 = .ok (.getfield 25, 3) := by decide +kernel
theorem dX3_expect_30 : decode cX3_expect 30 = .ok (.putfield 28, 3) := by decide +kernel
theorem dX3_expect_33 : decode cX3_expect 33 = .ok (.return_, 1) := by decide +kernel
set_option maxRecDepth 20000 in
theorem ggX3_readWord_X3_wordAt : GoodIn wsX3_readWord wsX3_wordAt := goodIn_r _ [10] (by decide +kernel) (by decide +kernel)
set_option maxRecDepth 20000 in
theorem gX3_readWord_X3_wordAt : GoodIn wsX3_readWord (va_wsS RX3 82 yX3_wordAt wsX3_wordAt) := goodIn_app (goodIn_of _ (by decide +kernel)) ggX3_readWord_X3_wordAt
set_option maxRecDepth 20000 in
theorem ggX3_readWord_X3_lettersStanding : GoodIn wsX3_readWord wsX3_lettersStanding := goodIn_r _ [14, 5, 15, 16, 17, 18, 19, 20, 21, 22, 23, 24, 25, 26, 27, 28, 29, 30, 31, 32, 33, 34, 35, 36, 37, 38, 39, 40, 41, 42, 43, 44, 45, 46, 47, 48, 49, 50, 51, 52, 53, 54, 55, 56, 57, 58, 59, 60, 61, 62, 63, 64, 65, 66, 9, 67, 68, 69, 75, 76, 77, 78, 79, 80, 81, 82] (by decide +kernel) (by decide +kernel)
set_option maxRecDepth 20000 in
theorem gX3_readWord_X3_lettersStanding : GoodIn wsX3_readWord (wsV RX3 86 RX3 yX3_lettersStanding wsX3_lettersStanding) := goodIn_app (goodIn_of _ (by decide +kernel)) ggX3_readWord_X3_lettersStanding
set_option maxRecDepth 20000 in
theorem ggX3_readWord_J0_length_8abf5 : GoodIn wsX3_readWord wsJ0_length_8abf5 := goodIn_r _ [19, 20, 21, 22, 23, 18, 24, 25, 26] (by decide +kernel) (by decide +kernel)
set_option maxRecDepth 20000 in
theorem gX3_readWord_J0_length_8abf5 : GoodIn wsX3_readWord (wsV RX3 90 RJ0 yJ0_length_8abf5 wsJ0_length_8abf5) := goodIn_app (goodIn_of _ (by decide +kernel)) ggX3_readWord_J0_length_8abf5
set_option maxRecDepth 20000 in
theorem ggX3_readWord_X3_takeWord : GoodIn wsX3_readWord wsX3_takeWord := goodIn_r _ [73, 74, 5, 6, 75, 76, 77, 78, 79, 80, 81, 82] (by decide +kernel) (by decide +kernel)
set_option maxRecDepth 20000 in
theorem gX3_readWord_X3_takeWord : GoodIn wsX3_readWord (wsV RX3 95 RX3 yX3_takeWord wsX3_takeWord) := goodIn_app (goodIn_of _ (by decide +kernel)) ggX3_readWord_X3_takeWord
theorem dX3_readWord_0 : decode cX3_readWord 0 = .ok (.iconst 0, 1) := by decide +kernel
theorem dX3_readWord_1 : decode cX3_readWord 1 = .ok (.istore_n 1, 1) := by decide +kernel
theorem dX3_readWord_2 : decode cX3_readWord 2 = .ok (.iconst 0, 1) := by decide +kernel
theorem dX3_readWord_3 : decode cX3_readWord 3 = .ok (.istore_n 2, 1) := by decide +kernel
theorem dX3_readWord_4 : decode cX3_readWord 4 = .ok (.iload_n 2, 1) := by decide +kernel
theorem dX3_readWord_5 : decode cX3_readWord 5 = .ok (.bipush 10, 2) := by decide +kernel
theorem dX3_readWord_7 : decode cX3_readWord 7 = .ok (.if_icmp .ge 45, 3) := by decide +kernel
theorem dX3_readWord_10 : decode cX3_readWord 10 = .ok (.iload_n 2, 1) := by decide +kernel
theorem dX3_readWord_11 : decode cX3_readWord 11 = .ok (.invokestatic 82, 3) := by decide +kernel
theorem dX3_readWord_14 : decode cX3_readWord 14 = .ok (.astore_n 3, 1) := by decide +kernel
theorem dX3_readWord_15 : decode cX3_readWord 15 = .ok (.aload_n 0, 1) := by decide +kernel
theorem dX3_readWord_16 : decode cX3_readWord 16 = .ok (.aload_n 3, 1) := by decide +kernel
theorem dX3_readWord_17 : decode cX3_readWord 17 = .ok (.invokevirtual 86, 3) := by decide +kernel
theorem dX3_readWord_20 : decode cX3_readWord 20 = .ok (.istore 4, 2) := by decide +kernel
theorem dX3_readWord_22 : decode cX3_readWord 22 = .ok (.iload 4, 2) := by decide +kernel
theorem dX3_readWord_24 : decode cX3_readWord 24 = .ok (.aload_n 3, 1) := by decide +kernel
theorem dX3_readWord_25 : decode cX3_readWord 25 = .ok (.invokevirtual 90, 3) := by decide +kernel
theorem dX3_readWord_28 : decode cX3_readWord 28 = .ok (.if_icmp .ne 11, 3) := by decide +kernel
theorem dX3_readWord_31 : decode cX3_readWord 31 = .ok (.aload_n 0, 1) := by decide +kernel
theorem dX3_readWord_32 : decode cX3_readWord 32 = .ok (.iload_n 2, 1) := by decide +kernel
theorem dX3_readWord_33 : decode cX3_readWord 33 = .ok (.iload 4, 2) := by decide +kernel
theorem dX3_readWord_35 : decode cX3_readWord 35 = .ok (.invokevirtual 95, 3) := by decide +kernel
theorem dX3_readWord_38 : decode cX3_readWord 38 = .ok (.ireturn, 1) := by decide +kernel
theorem dX3_readWord_39 : decode cX3_readWord 39 = .ok (.iload_n 1, 1) := by decide +kernel
theorem dX3_readWord_40 : decode cX3_readWord 40 = .ok (.iload 4, 2) := by decide +kernel
theorem dX3_readWord_42 : decode cX3_readWord 42 = .ok (.invokestatic 98, 3) := by decide +kernel
theorem dX3_readWord_45 : decode cX3_readWord 45 = .ok (.istore_n 1, 1) := by decide +kernel
theorem dX3_readWord_46 : decode cX3_readWord 46 = .ok (.iinc 2 1, 3) := by decide +kernel
theorem dX3_readWord_49 : decode cX3_readWord 49 = .ok (.goto (-45), 3) := by decide +kernel
theorem dX3_readWord_52 : decode cX3_readWord 52 = .ok (.aload_n 0, 1) := by decide +kernel
theorem dX3_readWord_53 : decode cX3_readWord 53 = .ok (.aload_n 0, 1) := by decide +kernel
theorem dX3_readWord_54 : decode cX3_readWord 54 = .ok (.getfield 25, 3) := by decide +kernel
theorem dX3_readWord_57 : decode cX3_readWord 57 = .ok (.iload_n 1, 1) := by decide +kernel
theorem dX3_readWord_58 : decode cX3_readWord 58 = .ok (.iadd, 1) := by decide +kernel
theorem dX3_readWord_59 : decode cX3_readWord 59 = .ok (.putfield 28, 3) := by decide +kernel
theorem dX3_readWord_62 : decode cX3_readWord 62 = .ok (.iconst (-1), 1) := by decide +kernel
theorem dX3_readWord_63 : decode cX3_readWord 63 = .ok (.ireturn, 1) := by decide +kernel
theorem dX3_takeWord_0 : decode cX3_takeWord 0 = .ok (.iload_n 1, 1) := by decide +kernel
theorem dX3_takeWord_1 : decode cX3_takeWord 1 = .ok (.iconst 3, 1) := by decide +kernel
theorem dX3_takeWord_2 : decode cX3_takeWord 2 = .ok (.if_icmp .ne 22, 3) := by decide +kernel
theorem dX3_takeWord_5 : decode cX3_takeWord 5 = .ok (.aload_n 0, 1) := by decide +kernel
theorem dX3_takeWord_6 : decode cX3_takeWord 6 = .ok (.getfield 34, 3) := by decide +kernel
theorem dX3_takeWord_9 : decode cX3_takeWord 9 = .ok (.bipush 8, 2) := by decide +kernel
theorem dX3_takeWord_11 : decode cX3_takeWord 11 = .ok (.if_icmp .lt 13, 3) := by decide +kernel
theorem dX3_takeWord_14 : decode cX3_takeWord 14 = .ok (.aload_n 0, 1) := by decide +kernel
theorem dX3_takeWord_15 : decode cX3_takeWord 15 = .ok (.aload_n 0, 1) := by decide +kernel
theorem dX3_takeWord_16 : decode cX3_takeWord 16 = .ok (.getfield 25, 3) := by decide +kernel
theorem dX3_takeWord_19 : decode cX3_takeWord 19 = .ok (.putfield 28, 3) := by decide +kernel
theorem dX3_takeWord_22 : decode cX3_takeWord 22 = .ok (.iconst (-1), 1) := by decide +kernel
theorem dX3_takeWord_23 : decode cX3_takeWord 23 = .ok (.ireturn, 1) := by decide +kernel
theorem dX3_takeWord_24 : decode cX3_takeWord 24 = .ok (.aload_n 0, 1) := by decide +kernel
theorem dX3_takeWord_25 : decode cX3_takeWord 25 = .ok (.dup, 1) := by decide +kernel
theorem dX3_takeWord_26 : decode cX3_takeWord 26 = .ok (.getfield 25, 3) := by decide +kernel
theorem dX3_takeWord_29 : decode cX3_takeWord 29 = .ok (.iload_n 2, 1) := by decide +kernel
theorem dX3_takeWord_30 : decode cX3_takeWord 30 = .ok (.iadd, 1) := by decide +kernel
theorem dX3_takeWord_31 : decode cX3_takeWord 31 = .ok (.putfield 25, 3) := by decide +kernel
theorem dX3_takeWord_34 : decode cX3_takeWord 34 = .ok (.iload_n 1, 1) := by decide +kernel
theorem dX3_takeWord_35 : decode cX3_takeWord 35 = .ok (.ireturn, 1) := by decide +kernel
set_option maxRecDepth 20000 in
theorem ggX3_lettersStanding_J0_length_8abf5 : GoodIn wsX3_lettersStanding wsJ0_length_8abf5 := goodIn_r _ [6, 7, 8, 9, 10, 5, 11, 12, 13] (by decide +kernel) (by decide +kernel)
set_option maxRecDepth 20000 in
theorem gX3_lettersStanding_J0_length_8abf5 : GoodIn wsX3_lettersStanding (wsV RX3 90 RJ0 yJ0_length_8abf5 wsJ0_length_8abf5) := goodIn_app (goodIn_of _ (by decide +kernel)) ggX3_lettersStanding_J0_length_8abf5
set_option maxRecDepth 20000 in
theorem ggX3_lettersStanding_J0_charAt_5068e : GoodIn wsX3_lettersStanding wsJ0_charAt_5068e := goodIn_r _ [17, 7, 18, 19, 20, 5, 21, 12, 13, 22, 23, 24, 25, 26, 27, 28, 29, 30, 31, 32, 33, 34, 35, 36, 37, 38, 39, 40, 41, 42, 43, 44, 45, 46, 47, 48, 49, 50] (by decide +kernel) (by decide +kernel)
set_option maxRecDepth 20000 in
theorem gX3_lettersStanding_J0_charAt_5068e : GoodIn wsX3_lettersStanding (wsV RX3 101 RJ0 yJ0_charAt_5068e wsJ0_charAt_5068e) := goodIn_app (goodIn_of _ (by decide +kernel)) ggX3_lettersStanding_J0_charAt_5068e
set_option maxRecDepth 20000 in
theorem ggX3_lettersStanding_X3_stands : GoodIn wsX3_lettersStanding wsX3_stands := goodIn_r _ [55, 56, 57, 58, 59, 60, 61, 62, 63, 64, 65] (by decide +kernel) (by decide +kernel)
set_option maxRecDepth 20000 in
theorem gX3_lettersStanding_X3_stands : GoodIn wsX3_lettersStanding (wsV RX3 78 RX3 yX3_stands wsX3_stands) := goodIn_app (goodIn_of _ (by decide +kernel)) ggX3_lettersStanding_X3_stands
theorem dX3_lettersStanding_0 : decode cX3_lettersStanding 0 = .ok (.iconst 0, 1) := by decide +kernel
theorem dX3_lettersStanding_1 : decode cX3_lettersStanding 1 = .ok (.istore_n 2, 1) := by decide +kernel
theorem dX3_lettersStanding_2 : decode cX3_lettersStanding 2 = .ok (.iload_n 2, 1) := by decide +kernel
theorem dX3_lettersStanding_3 : decode cX3_lettersStanding 3 = .ok (.aload_n 1, 1) := by decide +kernel
theorem dX3_lettersStanding_4 : decode cX3_lettersStanding 4 = .ok (.invokevirtual 90, 3) := by decide +kernel
theorem dX3_lettersStanding_7 : decode cX3_lettersStanding 7 = .ok (.if_icmp .ge 27, 3) := by decide +kernel
theorem dX3_lettersStanding_10 : decode cX3_lettersStanding 10 = .ok (.aload_n 0, 1) := by decide +kernel
theorem dX3_lettersStanding_11 : decode cX3_lettersStanding 11 = .ok (.aload_n 0, 1) := by decide +kernel
theorem dX3_lettersStanding_12 : decode cX3_lettersStanding 12 = .ok (.getfield 25, 3) := by decide +kernel
theorem dX3_lettersStanding_15 : decode cX3_lettersStanding 15 = .ok (.iload_n 2, 1) := by decide +kernel
theorem dX3_lettersStanding_16 : decode cX3_lettersStanding 16 = .ok (.iadd, 1) := by decide +kernel
theorem dX3_lettersStanding_17 : decode cX3_lettersStanding 17 = .ok (.aload_n 1, 1) := by decide +kernel
theorem dX3_lettersStanding_18 : decode cX3_lettersStanding 18 = .ok (.iload_n 2, 1) := by decide +kernel
theorem dX3_lettersStanding_19 : decode cX3_lettersStanding 19 = .ok (.invokevirtual 101, 3) := by decide +kernel
theorem dX3_lettersStanding_22 : decode cX3_lettersStanding 22 = .ok (.invokevirtual 78, 3) := by decide +kernel
theorem dX3_lettersStanding_25 : decode cX3_lettersStanding 25 = .ok (.ifCond .eq 9, 3) := by decide +kernel
theorem dX3_lettersStanding_28 : decode cX3_lettersStanding 28 = .ok (.iinc 2 1, 3) := by decide +kernel
theorem dX3_lettersStanding_31 : decode cX3_lettersStanding 31 = .ok (.goto (-29), 3) := by decide +kernel
theorem dX3_lettersStanding_34 : decode cX3_lettersStanding 34 = .ok (.iload_n 2, 1) := by decide +kernel
theorem dX3_lettersStanding_35 : decode cX3_lettersStanding 35 = .ok (.ireturn, 1) := by decide +kernel
set_option maxRecDepth 20000 in
theorem ggX3_readNumber_X3_isDigit : GoodIn wsX3_readNumber wsX3_isDigit := goodIn_r _ [8] (by decide +kernel) (by decide +kernel)
set_option maxRecDepth 20000 in
theorem gX3_readNumber_X3_isDigit : GoodIn wsX3_readNumber (va_wsS RX3 105 yX3_isDigit wsX3_isDigit) := goodIn_app (goodIn_of _ (by decide +kernel)) ggX3_readNumber_X3_isDigit
set_option maxRecDepth 20000 in
theorem ggX3_readNumber_X7_within : GoodIn wsX3_readNumber wsX7_within := goodIn_r _ [11] (by decide +kernel) (by decide +kernel)
set_option maxRecDepth 20000 in
theorem gX3_readNumber_X7_within_n109 : GoodIn wsX3_readNumber (wsX7_within) := ggX3_readNumber_X7_within
theorem dX3_readNumber_0 : decode cX3_readNumber 0 = .ok (.aload_n 0, 1) := by decide +kernel
theorem dX3_readNumber_1 : decode cX3_readNumber 1 = .ok (.getfield 25, 3) := by decide +kernel
theorem dX3_readNumber_4 : decode cX3_readNumber 4 = .ok (.istore_n 3, 1) := by decide +kernel
theorem dX3_readNumber_5 : decode cX3_readNumber 5 = .ok (.iconst 0, 1) := by decide +kernel
theorem dX3_readNumber_6 : decode cX3_readNumber 6 = .ok (.istore 4, 2) := by decide +kernel
theorem dX3_readNumber_8 : decode cX3_readNumber 8 = .ok (.aload_n 0, 1) := by decide +kernel
theorem dX3_readNumber_9 : decode cX3_readNumber 9 = .ok (.getfield 25, 3) := by decide +kernel
theorem dX3_readNumber_12 : decode cX3_readNumber 12 = .ok (.aload_n 0, 1) := by decide +kernel
theorem dX3_readNumber_13 : decode cX3_readNumber 13 = .ok (.getfield 18, 3) := by decide +kernel
theorem dX3_readNumber_16 : decode cX3_readNumber 16 = .ok (.if_icmp .ge 61, 3) := by decide +kernel
theorem dX3_readNumber_19 : decode cX3_readNumber 19 = .ok (.aload_n 0, 1) := by decide +kernel
theorem dX3_readNumber_20 : decode cX3_readNumber 20 = .ok (.getfield 25, 3) := by decide +kernel
theorem dX3_readNumber_23 : decode cX3_readNumber 23 = .ok (.iload_n 3, 1) := by decide +kernel
theorem dX3_readNumber_24 : decode cX3_readNumber 24 = .ok (.iconst 3, 1) := by decide +kernel
theorem dX3_readNumber_25 : decode cX3_readNumber 25 = .ok (.iadd, 1) := by decide +kernel
theorem dX3_readNumber_26 : decode cX3_readNumber 26 = .ok (.if_icmp .ge 51, 3) := by decide +kernel
theorem dX3_readNumber_29 : decode cX3_readNumber 29 = .ok (.aload_n 0, 1) := by decide +kernel
theorem dX3_readNumber_30 : decode cX3_readNumber 30 = .ok (.getfield 15, 3) := by decide +kernel
theorem dX3_readNumber_33 : decode cX3_readNumber 33 = .ok (.aload_n 0, 1) := by decide +kernel
theorem dX3_readNumber_34 : decode cX3_readNumber 34 = .ok (.getfield 25, 3) := by decide +kernel
theorem dX3_readNumber_37 : decode cX3_readNumber 37 = .ok (.iaload, 1) := by decide +kernel
theorem dX3_readNumber_38 : decode cX3_readNumber 38 = .ok (.invokestatic 105, 3) := by decide +kernel
theorem dX3_readNumber_41 : decode cX3_readNumber 41 = .ok (.ifCond .eq 36, 3) := by decide +kernel
theorem dX3_readNumber_44 : decode cX3_readNumber 44 = .ok (.iload 4, 2) := by decide +kernel
theorem dX3_readNumber_46 : decode cX3_readNumber 46 = .ok (.bipush 10, 2) := by decide +kernel
theorem dX3_readNumber_48 : decode cX3_readNumber 48 = .ok (.imul, 1) := by decide +kernel
theorem dX3_readNumber_49 : decode cX3_readNumber 49 = .ok (.aload_n 0, 1) := by decide +kernel
theorem dX3_readNumber_50 : decode cX3_readNumber 50 = .ok (.getfield 15, 3) := by decide +kernel
theorem dX3_readNumber_53 : decode cX3_readNumber 53 = .ok (.aload_n 0, 1) := by decide +kernel
theorem dX3_readNumber_54 : decode cX3_readNumber 54 = .ok (.getfield 25, 3) := by decide +kernel
theorem dX3_readNumber_57 : decode cX3_readNumber 57 = .ok (.iaload, 1) := by decide +kernel
theorem dX3_readNumber_58 : decode cX3_readNumber 58 = .ok (.iadd, 1) := by decide +kernel
theorem dX3_readNumber_59 : decode cX3_readNumber 59 = .ok (.bipush 48, 2) := by decide +kernel
theorem dX3_readNumber_61 : decode cX3_readNumber 61 = .ok (.isub, 1) := by decide +kernel
theorem dX3_readNumber_62 : decode cX3_readNumber 62 = .ok (.istore 4, 2) := by decide +kernel
theorem dX3_readNumber_64 : decode cX3_readNumber 64 = .ok (.aload_n 0, 1) := by decide +kernel
theorem dX3_readNumber_65 : decode cX3_readNumber 65 = .ok (.dup, 1) := by decide +kernel
theorem dX3_readNumber_66 : decode cX3_readNumber 66 = .ok (.getfield 25, 3) := by decide +kernel
theorem dX3_readNumber_69 : decode cX3_readNumber 69 = .ok (.iconst 1, 1) := by decide +kernel
theorem dX3_readNumber_70 : decode cX3_readNumber 70 = .ok (.iadd, 1) := by decide +kernel
theorem dX3_readNumber_71 : decode cX3_readNumber 71 = .ok (.putfield 25, 3) := by decide +kernel
theorem dX3_readNumber_74 : decode cX3_readNumber 74 = .ok (.goto (-66), 3) := by decide +kernel
theorem dX3_readNumber_77 : decode cX3_readNumber 77 = .ok (.aload_n 0, 1) := by decide +kernel
theorem dX3_readNumber_78 : decode cX3_readNumber 78 = .ok (.getfield 25, 3) := by decide +kernel
theorem dX3_readNumber_81 : decode cX3_readNumber 81 = .ok (.iload_n 3, 1) := by decide +kernel
theorem dX3_readNumber_82 : decode cX3_readNumber 82 = .ok (.if_icmp .eq 13, 3) := by decide +kernel
theorem dX3_readNumber_85 : decode cX3_readNumber 85 = .ok (.iload 4, 2) := by decide +kernel
theorem dX3_readNumber_87 : decode cX3_readNumber 87 = .ok (.iload_n 1, 1) := by decide +kernel
theorem dX3_readNumber_88 : decode cX3_readNumber 88 = .ok (.iload_n 2, 1) := by decide +kernel
theorem dX3_readNumber_89 : decode cX3_readNumber 89 = .ok (.invokestatic 109, 3) := by decide +kernel
theorem dX3_readNumber_92 : decode cX3_readNumber 92 = .ok (.ifCond .ne 8, 3) := by decide +kernel
theorem dX3_readNumber_95 : decode cX3_readNumber 95 = .ok (.aload_n 0, 1) := by decide +kernel
theorem dX3_readNumber_96 : decode cX3_readNumber 96 = .ok (.iload_n 3, 1) := by decide +kernel
theorem dX3_readNumber_97 : decode cX3_readNumber 97 = .ok (.putfield 28, 3) := by decide +kernel
theorem dX3_readNumber_100 : decode cX3_readNumber 100 = .ok (.iload 4, 2) := by decide +kernel
theorem dX3_readNumber_102 : decode cX3_readNumber 102 = .ok (.ireturn, 1) := by decide +kernel
theorem dX3_isDigit_0 : decode cX3_isDigit 0 = .ok (.iload_n 0, 1) := by decide +kernel
theorem dX3_isDigit_1 : decode cX3_isDigit 1 = .ok (.bipush 48, 2) := by decide +kernel
theorem dX3_isDigit_3 : decode cX3_isDigit 3 = .ok (.if_icmp .lt 13, 3) := by decide +kernel
theorem dX3_isDigit_6 : decode cX3_isDigit 6 = .ok (.iload_n 0, 1) := by decide +kernel
theorem dX3_isDigit_7 : decode cX3_isDigit 7 = .ok (.bipush 57, 2) := by decide +kernel
theorem dX3_isDigit_9 : decode cX3_isDigit 9 = .ok (.if_icmp .gt 7, 3) := by decide +kernel
theorem dX3_isDigit_12 : decode cX3_isDigit 12 = .ok (.iconst 1, 1) := by decide +kernel
theorem dX3_isDigit_13 : decode cX3_isDigit 13 = .ok (.goto 4, 3) := by decide +kernel
theorem dX3_isDigit_16 : decode cX3_isDigit 16 = .ok (.iconst 0, 1) := by decide +kernel
theorem dX3_isDigit_17 : decode cX3_isDigit 17 = .ok (.ireturn, 1) := by decide +kernel
theorem dX3_wordAt_0 : decode cX3_wordAt 0 = .ok (.iload_n 0, 1) := by decide +kernel
theorem dX3_wordAt_1 : decode cX3_wordAt 1 = .ok (.tableswitch 78 0 8 #[51, 54, 57, 60, 63, 66, 69, 72, 75], 51) := by decide +kernel
theorem dX3_wordAt_52 : decode cX3_wordAt 52 = .ok (.ldc 113, 2) := by decide +kernel
theorem dX3_wordAt_54 : decode cX3_wordAt 54 = .ok (.areturn, 1) := by decide +kernel
theorem dX3_wordAt_55 : decode cX3_wordAt 55 = .ok (.ldc 114, 2) := by decide +kernel
theorem dX3_wordAt_57 : decode cX3_wordAt 57 = .ok (.areturn, 1) := by decide +kernel
theorem dX3_wordAt_58 : decode cX3_wordAt 58 = .ok (.ldc 116, 2) := by decide +kernel
theorem dX3_wordAt_60 : decode cX3_wordAt 60 = .ok (.areturn, 1) := by decide +kernel
theorem dX3_wordAt_61 : decode cX3_wordAt 61 = .ok (.ldc 118, 2) := by decide +kernel
theorem dX3_wordAt_63 : decode cX3_wordAt 63 = .ok (.areturn, 1) := by decide +kernel
theorem dX3_wordAt_64 : decode cX3_wordAt 64 = .ok (.ldc 120, 2) := by decide +kernel
theorem dX3_wordAt_66 : decode cX3_wordAt 66 = .ok (.areturn, 1) := by decide +kernel
theorem dX3_wordAt_67 : decode cX3_wordAt 67 = .ok (.ldc 122, 2) := by decide +kernel
theorem dX3_wordAt_69 : decode cX3_wordAt 69 = .ok (.areturn, 1) := by decide +kernel
theorem dX3_wordAt_70 : decode cX3_wordAt 70 = .ok (.ldc 124, 2) := by decide +kernel
theorem dX3_wordAt_72 : decode cX3_wordAt 72 = .ok (.areturn, 1) := by decide +kernel
theorem dX3_wordAt_73 : decode cX3_wordAt 73 = .ok (.ldc 126, 2) := by decide +kernel
theorem dX3_wordAt_75 : decode cX3_wordAt 75 = .ok (.areturn, 1) := by decide +kernel
theorem dX3_wordAt_76 : decode cX3_wordAt 76 = .ok (.ldc 128, 2) := by decide +kernel
theorem dX3_wordAt_78 : decode cX3_wordAt 78 = .ok (.areturn, 1) := by decide +kernel
theorem dX3_wordAt_79 : decode cX3_wordAt 79 = .ok (.ldc 130, 2) := by decide +kernel
theorem dX3_wordAt_81 : decode cX3_wordAt 81 = .ok (.areturn, 1) := by decide +kernel
theorem dX3_numbersOf_0 : decode cX3_numbersOf 0 = .ok (.iload_n 0, 1) := by decide +kernel
theorem dX3_numbersOf_1 : decode cX3_numbersOf 1 = .ok (.lookupswitch 39 #[(2, 37), (3, 35), (8, 37)], 35) := by decide +kernel
theorem dX3_numbersOf_36 : decode cX3_numbersOf 36 = .ok (.iconst 3, 1) := by decide +kernel
theorem dX3_numbersOf_37 : decode cX3_numbersOf 37 = .ok (.ireturn, 1) := by decide +kernel
theorem dX3_numbersOf_38 : decode cX3_numbersOf 38 = .ok (.iconst 2, 1) := by decide +kernel
theorem dX3_numbersOf_39 : decode cX3_numbersOf 39 = .ok (.ireturn, 1) := by decide +kernel
theorem dX3_numbersOf_40 : decode cX3_numbersOf 40 = .ok (.iconst 1, 1) := by decide +kernel
theorem dX3_numbersOf_41 : decode cX3_numbersOf 41 = .ok (.ireturn, 1) := by decide +kernel
theorem dX3_leastOf_0 : decode cX3_leastOf 0 = .ok (.iload_n 0, 1) := by decide +kernel
theorem dX3_leastOf_1 : decode cX3_leastOf 1 = .ok (.ifCond .ne 5, 3) := by decide +kernel
theorem dX3_leastOf_4 : decode cX3_leastOf 4 = .ok (.iconst 4, 1) := by decide +kernel
theorem dX3_leastOf_5 : decode cX3_leastOf 5 = .ok (.ireturn, 1) := by decide +kernel
theorem dX3_leastOf_6 : decode cX3_leastOf 6 = .ok (.iload_n 0, 1) := by decide +kernel
theorem dX3_leastOf_7 : decode cX3_leastOf 7 = .ok (.bipush 7, 2) := by decide +kernel
theorem dX3_leastOf_9 : decode cX3_leastOf 9 = .ok (.if_icmp .eq 13, 3) := by decide +kernel
theorem dX3_leastOf_12 : decode cX3_leastOf 12 = .ok (.iload_n 0, 1) := by decide +kernel
theorem dX3_leastOf_13 : decode cX3_leastOf 13 = .ok (.iconst 3, 1) := by decide +kernel
theorem dX3_leastOf_14 : decode cX3_leastOf 14 = .ok (.if_icmp .ne 12, 3) := by decide +kernel
theorem dX3_leastOf_17 : decode cX3_leastOf 17 = .ok (.iload_n 1, 1) := by decide +kernel
theorem dX3_leastOf_18 : decode cX3_leastOf 18 = .ok (.iconst 2, 1) := by decide +kernel
theorem dX3_leastOf_19 : decode cX3_leastOf 19 = .ok (.if_icmp .ne 7, 3) := by decide +kernel
theorem dX3_leastOf_22 : decode cX3_leastOf 22 = .ok (.iconst 1, 1) := by decide +kernel
theorem dX3_leastOf_23 : decode cX3_leastOf 23 = .ok (.goto 4, 3) := by decide +kernel
theorem dX3_leastOf_26 : decode cX3_leastOf 26 = .ok (.iconst 0, 1) := by decide +kernel
theorem dX3_leastOf_27 : decode cX3_leastOf 27 = .ok (.ireturn, 1) := by decide +kernel
theorem dX3_mostOf_0 : decode cX3_mostOf 0 = .ok (.iload_n 1, 1) := by decide +kernel
theorem dX3_mostOf_1 : decode cX3_mostOf 1 = .ok (.tableswitch 123 0 8 #[51, 54, 61, 77, 99, 102, 106, 109, 112], 51) := by decide +kernel
theorem dX3_mostOf_52 : decode cX3_mostOf 52 = .ok (.bipush 40, 2) := by decide +kernel
theorem dX3_mostOf_54 : decode cX3_mostOf 54 = .ok (.ireturn, 1) := by decide +kernel
theorem dX3_mostOf_55 : decode cX3_mostOf 55 = .ok (.aload_n 0, 1) := by decide +kernel
theorem dX3_mostOf_56 : decode cX3_mostOf 56 = .ok (.getfield 31, 3) := by decide +kernel
theorem dX3_mostOf_59 : decode cX3_mostOf 59 = .ok (.iconst 1, 1) := by decide +kernel
theorem dX3_mostOf_60 : decode cX3_mostOf 60 = .ok (.isub, 1) := by decide +kernel
theorem dX3_mostOf_61 : decode cX3_mostOf 61 = .ok (.ireturn, 1) := by decide +kernel
theorem dX3_mostOf_62 : decode cX3_mostOf 62 = .ok (.iload_n 2, 1) := by decide +kernel
theorem dX3_mostOf_63 : decode cX3_mostOf 63 = .ok (.ifCond .ne 12, 3) := by decide +kernel
theorem dX3_mostOf_66 : decode cX3_mostOf 66 = .ok (.aload_n 0, 1) := by decide +kernel
theorem dX3_mostOf_67 : decode cX3_mostOf 67 = .ok (.getfield 31, 3) := by decide +kernel
theorem dX3_mostOf_70 : decode cX3_mostOf 70 = .ok (.iconst 1, 1) := by decide +kernel
theorem dX3_mostOf_71 : decode cX3_mostOf 71 = .ok (.isub, 1) := by decide +kernel
theorem dX3_mostOf_72 : decode cX3_mostOf 72 = .ok (.goto 5, 3) := by decide +kernel
theorem dX3_mostOf_75 : decode cX3_mostOf 75 = .ok (.bipush 9, 2) := by decide +kernel
theorem dX3_mostOf_77 : decode cX3_mostOf 77 = .ok (.ireturn, 1) := by decide +kernel
theorem dX3_mostOf_78 : decode cX3_mostOf 78 = .ok (.iload_n 2, 1) := by decide +kernel
theorem dX3_mostOf_79 : decode cX3_mostOf 79 = .ok (.ifCond .ne 8, 3) := by decide +kernel
theorem dX3_mostOf_82 : decode cX3_mostOf 82 = .ok (.bipush 6, 2) := by decide +kernel
theorem dX3_mostOf_84 : decode cX3_mostOf 84 = .ok (.goto 15, 3) := by decide +kernel
theorem dX3_mostOf_87 : decode cX3_mostOf 87 = .ok (.iload_n 2, 1) := by decide +kernel
theorem dX3_mostOf_88 : decode cX3_mostOf 88 = .ok (.iconst 1, 1) := by decide +kernel
theorem dX3_mostOf_89 : decode cX3_mostOf 89 = .ok (.if_icmp .ne 8, 3) := by decide +kernel
theorem dX3_mostOf_92 : decode cX3_mostOf 92 = .ok (.bipush 9, 2) := by decide +kernel
theorem dX3_mostOf_94 : decode cX3_mostOf 94 = .ok (.goto 5, 3) := by decide +kernel
theorem dX3_mostOf_97 : decode cX3_mostOf 97 = .ok (.bipush 60, 2) := by decide +kernel
theorem dX3_mostOf_99 : decode cX3_mostOf 99 = .ok (.ireturn, 1) := by decide +kernel
theorem dX3_mostOf_100 : decode cX3_mostOf 100 = .ok (.bipush 24, 2) := by decide +kernel
theorem dX3_mostOf_102 : decode cX3_mostOf 102 = .ok (.ireturn, 1) := by decide +kernel
theorem dX3_mostOf_103 : decode cX3_mostOf 103 = .ok (.sipush 300, 3) := by decide +kernel
theorem dX3_mostOf_106 : decode cX3_mostOf 106 = .ok (.ireturn, 1) := by decide +kernel
theorem dX3_mostOf_107 : decode cX3_mostOf 107 = .ok (.bipush 9, 2) := by decide +kernel
theorem dX3_mostOf_109 : decode cX3_mostOf 109 = .ok (.ireturn, 1) := by decide +kernel
theorem dX3_mostOf_110 : decode cX3_mostOf 110 = .ok (.bipush 9, 2) := by decide +kernel
theorem dX3_mostOf_112 : decode cX3_mostOf 112 = .ok (.ireturn, 1) := by decide +kernel
theorem dX3_mostOf_113 : decode cX3_mostOf 113 = .ok (.iload_n 2, 1) := by decide +kernel
theorem dX3_mostOf_114 : decode cX3_mostOf 114 = .ok (.ifCond .ne 7, 3) := by decide +kernel
theorem dX3_mostOf_117 : decode cX3_mostOf 117 = .ok (.iconst 2, 1) := by decide +kernel
theorem dX3_mostOf_118 : decode cX3_mostOf 118 = .ok (.goto 5, 3) := by decide +kernel
theorem dX3_mostOf_121 : decode cX3_mostOf 121 = .ok (.bipush 99, 2) := by decide +kernel
theorem dX3_mostOf_123 : decode cX3_mostOf 123 = .ok (.ireturn, 1) := by decide +kernel
theorem dX3_mostOf_124 : decode cX3_mostOf 124 = .ok (.aload_n 0, 1) := by decide +kernel
theorem dX3_mostOf_125 : decode cX3_mostOf 125 = .ok (.getfield 31, 3) := by decide +kernel
theorem dX3_mostOf_128 : decode cX3_mostOf 128 = .ok (.ireturn, 1) := by decide +kernel
set_option maxRecDepth 20000 in
theorem ggX3_tell_X3_tellItem : GoodIn wsX3_tell wsX3_tellItem := goodIn_r _ [6, 7, 8, 9, 10, 11, 12, 13, 14, 15, 16, 17, 18, 19, 20, 21, 22, 23, 24, 25, 26, 27, 28, 29, 30, 31, 32, 33, 34, 35, 36, 37, 38, 39, 40, 41, 42, 43, 44, 45, 46, 47, 48, 49, 50, 51, 52, 53, 54, 55, 56, 57, 58, 59, 60, 61, 62, 63, 64, 65, 66, 67, 68, 69, 70, 71, 72, 73, 74, 75, 76, 77, 78, 79] (by decide +kernel) (by decide +kernel)
set_option maxRecDepth 20000 in
theorem gX3_tell_X3_tellItem : GoodIn wsX3_tell (wsV RX3 132 RX3 yX3_tellItem wsX3_tellItem) := goodIn_app (goodIn_of _ (by decide +kernel)) ggX3_tell_X3_tellItem
theorem dX3_tell_0 : decode cX3_tell 0 = .ok (.iconst 0, 1) := by decide +kernel
theorem dX3_tell_1 : decode cX3_tell 1 = .ok (.istore_n 2, 1) := by decide +kernel
theorem dX3_tell_2 : decode cX3_tell 2 = .ok (.iload_n 2, 1) := by decide +kernel
theorem dX3_tell_3 : decode cX3_tell 3 = .ok (.aload_n 0, 1) := by decide +kernel
theorem dX3_tell_4 : decode cX3_tell 4 = .ok (.getfield 22, 3) := by decide +kernel
theorem dX3_tell_7 : decode cX3_tell 7 = .ok (.if_icmp .ge 17, 3) := by decide +kernel
theorem dX3_tell_10 : decode cX3_tell 10 = .ok (.aload_n 0, 1) := by decide +kernel
theorem dX3_tell_11 : decode cX3_tell 11 = .ok (.aload_n 1, 1) := by decide +kernel
theorem dX3_tell_12 : decode cX3_tell 12 = .ok (.iload_n 2, 1) := by decide +kernel
theorem dX3_tell_13 : decode cX3_tell 13 = .ok (.iconst 4, 1) := by decide +kernel
theorem dX3_tell_14 : decode cX3_tell 14 = .ok (.imul, 1) := by decide +kernel
theorem dX3_tell_15 : decode cX3_tell 15 = .ok (.invokevirtual 132, 3) := by decide +kernel
theorem dX3_tell_18 : decode cX3_tell 18 = .ok (.iinc 2 1, 3) := by decide +kernel
theorem dX3_tell_21 : decode cX3_tell 21 = .ok (.goto (-19), 3) := by decide +kernel
theorem dX3_tell_24 : decode cX3_tell 24 = .ok (.return_, 1) := by decide +kernel
set_option maxRecDepth 20000 in
theorem ggX3_tellItem_X6_renew : GoodIn wsX3_tellItem wsX6_renew := goodIn_r _ [11, 12, 13, 14, 15, 66, 67, 68, 69, 70] (by decide +kernel) (by decide +kernel)
set_option maxRecDepth 20000 in
theorem gX3_tellItem_X6_renew : GoodIn wsX3_tellItem (wsV RX3 142 RX6 yX6_renew wsX6_renew) := goodIn_app (goodIn_of _ (by decide +kernel)) ggX3_tellItem_X6_renew
set_option maxRecDepth 20000 in
theorem ggX3_tellItem_X0_addPull : GoodIn wsX3_tellItem wsX0_addPull := goodIn_r _ [20, 21, 22, 23, 24, 25, 26, 27, 28, 29, 30, 31, 32, 33, 34, 57, 58, 59, 60, 61, 62, 63, 64, 65, 71, 72, 73] (by decide +kernel) (by decide +kernel)
set_option maxRecDepth 20000 in
theorem gX3_tellItem_X0_addPull : GoodIn wsX3_tellItem (wsV RX3 154 RX0 yX0_addPull wsX0_addPull) := goodIn_app (goodIn_of _ (by decide +kernel)) ggX3_tellItem_X0_addPull
set_option maxRecDepth 20000 in
theorem ggX3_tellItem_X0_setNumber : GoodIn wsX3_tellItem wsX0_setNumber := goodIn_r _ [38, 39, 40, 41, 42, 43, 44, 45, 46, 47, 48, 57, 58, 59, 60, 61, 62, 63, 64, 65, 66, 67, 68, 69, 70] (by decide +kernel) (by decide +kernel)
set_option maxRecDepth 20000 in
theorem gX3_tellItem_X0_setNumber : GoodIn wsX3_tellItem (wsV RX3 163 RX0 yX0_setNumber wsX0_setNumber) := goodIn_app (goodIn_of _ (by decide +kernel)) ggX3_tellItem_X0_setNumber
theorem dX3_tellItem_0 : decode cX3_tellItem 0 = .ok (.aload_n 0, 1) := by decide +kernel
theorem dX3_tellItem_1 : decode cX3_tellItem 1 = .ok (.getfield 11, 3) := by decide +kernel
theorem dX3_tellItem_4 : decode cX3_tellItem 4 = .ok (.iload_n 2, 1) := by decide +kernel
theorem dX3_tellItem_5 : decode cX3_tellItem 5 = .ok (.iconst 1, 1) := by decide +kernel
theorem dX3_tellItem_6 : decode cX3_tellItem 6 = .ok (.iadd, 1) := by decide +kernel
theorem dX3_tellItem_7 : decode cX3_tellItem 7 = .ok (.iaload, 1) := by decide +kernel
theorem dX3_tellItem_8 : decode cX3_tellItem 8 = .ok (.istore_n 3, 1) := by decide +kernel
theorem dX3_tellItem_9 : decode cX3_tellItem 9 = .ok (.aload_n 0, 1) := by decide +kernel
theorem dX3_tellItem_10 : decode cX3_tellItem 10 = .ok (.getfield 11, 3) := by decide +kernel
theorem dX3_tellItem_13 : decode cX3_tellItem 13 = .ok (.iload_n 2, 1) := by decide +kernel
theorem dX3_tellItem_14 : decode cX3_tellItem 14 = .ok (.iconst 2, 1) := by decide +kernel
theorem dX3_tellItem_15 : decode cX3_tellItem 15 = .ok (.iadd, 1) := by decide +kernel
theorem dX3_tellItem_16 : decode cX3_tellItem 16 = .ok (.iaload, 1) := by decide +kernel
theorem dX3_tellItem_17 : decode cX3_tellItem 17 = .ok (.istore 4, 2) := by decide +kernel
theorem dX3_tellItem_19 : decode cX3_tellItem 19 = .ok (.aload_n 0, 1) := by decide +kernel
theorem dX3_tellItem_20 : decode cX3_tellItem 20 = .ok (.getfield 11, 3) := by decide +kernel
theorem dX3_tellItem_23 : decode cX3_tellItem 23 = .ok (.iload_n 2, 1) := by decide +kernel
theorem dX3_tellItem_24 : decode cX3_tellItem 24 = .ok (.iaload, 1) := by decide +kernel
theorem dX3_tellItem_25 : decode cX3_tellItem 25 = .ok (.tableswitch 134 0 9 #[55, 66, 79, 93, 134, 134, 134, 134, 112, 123], 55) := by decide +kernel
theorem dX3_tellItem_80 : decode cX3_tellItem 80 = .ok (.aload_n 1, 1) := by decide +kernel
theorem dX3_tellItem_81 : decode cX3_tellItem 81 = .ok (.getfield 136, 3) := by decide +kernel
theorem dX3_tellItem_84 : decode cX3_tellItem 84 = .ok (.iload_n 3, 1) := by decide +kernel
theorem dX3_tellItem_85 : decode cX3_tellItem 85 = .ok (.invokevirtual 142, 3) := by decide +kernel
theorem dX3_tellItem_88 : decode cX3_tellItem 88 = .ok (.goto 84, 3) := by decide +kernel
theorem dX3_tellItem_91 : decode cX3_tellItem 91 = .ok (.aload_n 1, 1) := by decide +kernel
theorem dX3_tellItem_92 : decode cX3_tellItem 92 = .ok (.getfield 136, 3) := by decide +kernel
theorem dX3_tellItem_95 : decode cX3_tellItem 95 = .ok (.getfield 147, 3) := by decide +kernel
theorem dX3_tellItem_98 : decode cX3_tellItem 98 = .ok (.iload_n 3, 1) := by decide +kernel
theorem dX3_tellItem_99 : decode cX3_tellItem 99 = .ok (.iconst 1, 1) := by decide +kernel
theorem dX3_tellItem_100 : decode cX3_tellItem 100 = .ok (.bastore, 1) := by decide +kernel
theorem dX3_tellItem_101 : decode cX3_tellItem 101 = .ok (.goto 71, 3) := by decide +kernel
theorem dX3_tellItem_104 : decode cX3_tellItem 104 = .ok (.aload_n 1, 1) := by decide +kernel
theorem dX3_tellItem_105 : decode cX3_tellItem 105 = .ok (.getfield 136, 3) := by decide +kernel
theorem dX3_tellItem_108 : decode cX3_tellItem 108 = .ok (.getfield 151, 3) := by decide +kernel
theorem dX3_tellItem_111 : decode cX3_tellItem 111 = .ok (.iload_n 3, 1) := by decide +kernel
theorem dX3_tellItem_112 : decode cX3_tellItem 112 = .ok (.iload 4, 2) := by decide +kernel
theorem dX3_tellItem_114 : decode cX3_tellItem 114 = .ok (.iastore, 1) := by decide +kernel
theorem dX3_tellItem_115 : decode cX3_tellItem 115 = .ok (.goto 57, 3) := by decide +kernel
theorem dX3_tellItem_118 : decode cX3_tellItem 118 = .ok (.aload_n 1, 1) := by decide +kernel
theorem dX3_tellItem_119 : decode cX3_tellItem 119 = .ok (.iload_n 3, 1) := by decide +kernel
theorem dX3_tellItem_120 : decode cX3_tellItem 120 = .ok (.iload 4, 2) := by decide +kernel
theorem dX3_tellItem_122 : decode cX3_tellItem 122 = .ok (.aload_n 0, 1) := by decide +kernel
theorem dX3_tellItem_123 : decode cX3_tellItem 123 = .ok (.getfield 11, 3) := by decide +kernel
theorem dX3_tellItem_126 : decode cX3_tellItem 126 = .ok (.iload_n 2, 1) := by decide +kernel
theorem dX3_tellItem_127 : decode cX3_tellItem 127 = .ok (.iconst 3, 1) := by decide +kernel
theorem dX3_tellItem_128 : decode cX3_tellItem 128 = .ok (.iadd, 1) := by decide +kernel
theorem dX3_tellItem_129 : decode cX3_tellItem 129 = .ok (.iaload, 1) := by decide +kernel
theorem dX3_tellItem_130 : decode cX3_tellItem 130 = .ok (.invokevirtual 154, 3) := by decide +kernel
theorem dX3_tellItem_133 : decode cX3_tellItem 133 = .ok (.pop, 1) := by decide +kernel
theorem dX3_tellItem_134 : decode cX3_tellItem 134 = .ok (.goto 38, 3) := by decide +kernel
theorem dX3_tellItem_137 : decode cX3_tellItem 137 = .ok (.aload_n 1, 1) := by decide +kernel
theorem dX3_tellItem_138 : decode cX3_tellItem 138 = .ok (.getfield 158, 3) := by decide +kernel
theorem dX3_tellItem_141 : decode cX3_tellItem 141 = .ok (.iload_n 3, 1) := by decide +kernel
theorem dX3_tellItem_142 : decode cX3_tellItem 142 = .ok (.iload 4, 2) := by decide +kernel
theorem dX3_tellItem_144 : decode cX3_tellItem 144 = .ok (.iastore, 1) := by decide +kernel
theorem dX3_tellItem_145 : decode cX3_tellItem 145 = .ok (.goto 27, 3) := by decide +kernel
theorem dX3_tellItem_148 : decode cX3_tellItem 148 = .ok (.aload_n 1, 1) := by decide +kernel
theorem dX3_tellItem_149 : decode cX3_tellItem 149 = .ok (.getfield 136, 3) := by decide +kernel
theorem dX3_tellItem_152 : decode cX3_tellItem 152 = .ok (.iload_n 3, 1) := by decide +kernel
theorem dX3_tellItem_153 : decode cX3_tellItem 153 = .ok (.putfield 161, 3) := by decide +kernel
theorem dX3_tellItem_156 : decode cX3_tellItem 156 = .ok (.goto 16, 3) := by decide +kernel
theorem dX3_tellItem_159 : decode cX3_tellItem 159 = .ok (.aload_n 1, 1) := by decide +kernel
theorem dX3_tellItem_160 : decode cX3_tellItem 160 = .ok (.aload_n 0, 1) := by decide +kernel
theorem dX3_tellItem_161 : decode cX3_tellItem 161 = .ok (.getfield 11, 3) := by decide +kernel
theorem dX3_tellItem_164 : decode cX3_tellItem 164 = .ok (.iload_n 2, 1) := by decide +kernel
theorem dX3_tellItem_165 : decode cX3_tellItem 165 = .ok (.iaload, 1) := by decide +kernel
theorem dX3_tellItem_166 : decode cX3_tellItem 166 = .ok (.iconst 4, 1) := by decide +kernel
theorem dX3_tellItem_167 : decode cX3_tellItem 167 = .ok (.isub, 1) := by decide +kernel
theorem dX3_tellItem_168 : decode cX3_tellItem 168 = .ok (.iload_n 3, 1) := by decide +kernel
theorem dX3_tellItem_169 : decode cX3_tellItem 169 = .ok (.invokevirtual 163, 3) := by decide +kernel
theorem dX3_tellItem_172 : decode cX3_tellItem 172 = .ok (.return_, 1) := by decide +kernel
theorem dX4_init_0 : decode cX4_init 0 = .ok (.aload_n 0, 1) := by decide +kernel
theorem dX4_init_1 : decode cX4_init 1 = .ok (.invokespecial 3, 3) := by decide +kernel
theorem dX4_init_4 : decode cX4_init 4 = .ok (.aload_n 0, 1) := by decide +kernel
theorem dX4_init_5 : decode cX4_init 5 = .ok (.sipush 160, 3) := by decide +kernel
theorem dX4_init_8 : decode cX4_init 8 = .ok (.newarray .long, 2) := by decide +kernel
theorem dX4_init_10 : decode cX4_init 10 = .ok (.putfield 9, 3) := by decide +kernel
theorem dX4_init_13 : decode cX4_init 13 = .ok (.aload_n 0, 1) := by decide +kernel
theorem dX4_init_14 : decode cX4_init 14 = .ok (.iconst (-1), 1) := by decide +kernel
theorem dX4_init_15 : decode cX4_init 15 = .ok (.putfield 15, 3) := by decide +kernel
theorem dX4_init_18 : decode cX4_init 18 = .ok (.aload_n 0, 1) := by decide +kernel
theorem dX4_init_19 : decode cX4_init 19 = .ok (.iconst 0, 1) := by decide +kernel
theorem dX4_init_20 : decode cX4_init 20 = .ok (.putfield 19, 3) := by decide +kernel
theorem dX4_init_23 : decode cX4_init 23 = .ok (.return_, 1) := by decide +kernel
set_option maxRecDepth 20000 in
theorem ggX4_holdRow_J7_fill_d0a16 : GoodIn wsX4_holdRow wsJ7_fill_d0a16 := goodIn_r _ [7] (by decide +kernel) (by decide +kernel)
set_option maxRecDepth 20000 in
theorem gX4_holdRow_J7_fill_d0a16 : GoodIn wsX4_holdRow (va_wsS RX4 22 yJ7_fill_d0a16 wsJ7_fill_d0a16) := goodIn_app (goodIn_of _ (by decide +kernel)) ggX4_holdRow_J7_fill_d0a16
theorem dX4_holdRow_0 : decode cX4_holdRow 0 = .ok (.aload_n 0, 1) := by decide +kernel
theorem dX4_holdRow_1 : decode cX4_holdRow 1 = .ok (.bipush 100, 2) := by decide +kernel
theorem dX4_holdRow_3 : decode cX4_holdRow 3 = .ok (.iload_n 1, 1) := by decide +kernel
theorem dX4_holdRow_4 : decode cX4_holdRow 4 = .ok (.iadd, 1) := by decide +kernel
theorem dX4_holdRow_5 : decode cX4_holdRow 5 = .ok (.putfield 15, 3) := by decide +kernel
theorem dX4_holdRow_8 : decode cX4_holdRow 8 = .ok (.aload_n 0, 1) := by decide +kernel
theorem dX4_holdRow_9 : decode cX4_holdRow 9 = .ok (.iload_n 2, 1) := by decide +kernel
theorem dX4_holdRow_10 : decode cX4_holdRow 10 = .ok (.putfield 19, 3) := by decide +kernel
theorem dX4_holdRow_13 : decode cX4_holdRow 13 = .ok (.aload_n 0, 1) := by decide +kernel
theorem dX4_holdRow_14 : decode cX4_holdRow 14 = .ok (.getfield 9, 3) := by decide +kernel
theorem dX4_holdRow_17 : decode cX4_holdRow 17 = .ok (.lconst 0, 1) := by decide +kernel
theorem dX4_holdRow_18 : decode cX4_holdRow 18 = .ok (.invokestatic 22, 3) := by decide +kernel
theorem dX4_holdRow_21 : decode cX4_holdRow 21 = .ok (.return_, 1) := by decide +kernel
theorem dX4_forgetFrom_0 : decode cX4_forgetFrom 0 = .ok (.aload_n 0, 1) := by decide +kernel
theorem dX4_forgetFrom_1 : decode cX4_forgetFrom 1 = .ok (.getfield 15, 3) := by decide +kernel
theorem dX4_forgetFrom_4 : decode cX4_forgetFrom 4 = .ok (.iload_n 1, 1) := by decide +kernel
theorem dX4_forgetFrom_5 : decode cX4_forgetFrom 5 = .ok (.if_icmp .lt 17, 3) := by decide +kernel
theorem dX4_forgetFrom_8 : decode cX4_forgetFrom 8 = .ok (.aload_n 0, 1) := by decide +kernel
theorem dX4_forgetFrom_9 : decode cX4_forgetFrom 9 = .ok (.getfield 15, 3) := by decide +kernel
theorem dX4_forgetFrom_12 : decode cX4_forgetFrom 12 = .ok (.bipush 100, 2) := by decide +kernel
theorem dX4_forgetFrom_14 : decode cX4_forgetFrom 14 = .ok (.if_icmp .ge 8, 3) := by decide +kernel
theorem dX4_forgetFrom_17 : decode cX4_forgetFrom 17 = .ok (.aload_n 0, 1) := by decide +kernel
theorem dX4_forgetFrom_18 : decode cX4_forgetFrom 18 = .ok (.iconst (-1), 1) := by decide +kernel
theorem dX4_forgetFrom_19 : decode cX4_forgetFrom 19 = .ok (.putfield 15, 3) := by decide +kernel
theorem dX4_forgetFrom_22 : decode cX4_forgetFrom 22 = .ok (.return_, 1) := by decide +kernel
theorem dX4_noRow_0 : decode cX4_noRow 0 = .ok (.aload_n 0, 1) := by decide +kernel
theorem dX4_noRow_1 : decode cX4_noRow 1 = .ok (.getfield 15, 3) := by decide +kernel
theorem dX4_noRow_4 : decode cX4_noRow 4 = .ok (.bipush 100, 2) := by decide +kernel
theorem dX4_noRow_6 : decode cX4_noRow 6 = .ok (.if_icmp .lt 5, 3) := by decide +kernel
theorem dX4_noRow_9 : decode cX4_noRow 9 = .ok (.iconst 0, 1) := by decide +kernel
theorem dX4_noRow_10 : decode cX4_noRow 10 = .ok (.ireturn, 1) := by decide +kernel
theorem dX4_noRow_11 : decode cX4_noRow 11 = .ok (.aload_n 0, 1) := by decide +kernel
theorem dX4_noRow_12 : decode cX4_noRow 12 = .ok (.getfield 15, 3) := by decide +kernel
theorem dX4_noRow_15 : decode cX4_noRow 15 = .ok (.iconst (-1), 1) := by decide +kernel
theorem dX4_noRow_16 : decode cX4_noRow 16 = .ok (.if_icmp .ne 7, 3) := by decide +kernel
theorem dX4_noRow_19 : decode cX4_noRow 19 = .ok (.iconst 3, 1) := by decide +kernel
theorem dX4_noRow_20 : decode cX4_noRow 20 = .ok (.goto 4, 3) := by decide +kernel
theorem dX4_noRow_23 : decode cX4_noRow 23 = .ok (.iconst 2, 1) := by decide +kernel
theorem dX4_noRow_24 : decode cX4_noRow 24 = .ok (.ireturn, 1) := by decide +kernel
set_option maxRecDepth 20000 in
theorem ggX4_noBelief_X4_noRow : GoodIn wsX4_noBelief wsX4_noRow := goodIn_r _ [6, 7, 24, 25, 26] (by decide +kernel) (by decide +kernel)
set_option maxRecDepth 20000 in
theorem gX4_noBelief_X4_noRow : GoodIn wsX4_noBelief (wsV RX4 28 RX4 yX4_noRow wsX4_noRow) := goodIn_app (goodIn_of _ (by decide +kernel)) ggX4_noBelief_X4_noRow
set_option maxRecDepth 20000 in
theorem ggX4_noBelief_X4_tellsWithin : GoodIn wsX4_noBelief wsX4_tellsWithin := goodIn_r _ [11, 12, 13, 14, 5, 15, 16, 17, 18, 19, 20, 1, 21, 22, 23, 24, 25, 26] (by decide +kernel) (by decide +kernel)
set_option maxRecDepth 20000 in
theorem gX4_noBelief_X4_tellsWithin : GoodIn wsX4_noBelief (wsV RX4 32 RX4 yX4_tellsWithin wsX4_tellsWithin) := goodIn_app (goodIn_of _ (by decide +kernel)) ggX4_noBelief_X4_tellsWithin
theorem dX4_noBelief_0 : decode cX4_noBelief 0 = .ok (.aload_n 0, 1) := by decide +kernel
theorem dX4_noBelief_1 : decode cX4_noBelief 1 = .ok (.invokevirtual 28, 3) := by decide +kernel
theorem dX4_noBelief_4 : decode cX4_noBelief 4 = .ok (.istore_n 1, 1) := by decide +kernel
theorem dX4_noBelief_5 : decode cX4_noBelief 5 = .ok (.iload_n 1, 1) := by decide +kernel
theorem dX4_noBelief_6 : decode cX4_noBelief 6 = .ok (.ifCond .eq 5, 3) := by decide +kernel
theorem dX4_noBelief_9 : decode cX4_noBelief 9 = .ok (.iload_n 1, 1) := by decide +kernel
theorem dX4_noBelief_10 : decode cX4_noBelief 10 = .ok (.ireturn, 1) := by decide +kernel
theorem dX4_noBelief_11 : decode cX4_noBelief 11 = .ok (.aload_n 0, 1) := by decide +kernel
theorem dX4_noBelief_12 : decode cX4_noBelief 12 = .ok (.getfield 19, 3) := by decide +kernel
theorem dX4_noBelief_15 : decode cX4_noBelief 15 = .ok (.bipush 25, 2) := by decide +kernel
theorem dX4_noBelief_17 : decode cX4_noBelief 17 = .ok (.if_icmp .ge 5, 3) := by decide +kernel
theorem dX4_noBelief_20 : decode cX4_noBelief 20 = .ok (.iconst 5, 1) := by decide +kernel
theorem dX4_noBelief_21 : decode cX4_noBelief 21 = .ok (.ireturn, 1) := by decide +kernel
theorem dX4_noBelief_22 : decode cX4_noBelief 22 = .ok (.aload_n 0, 1) := by decide +kernel
theorem dX4_noBelief_23 : decode cX4_noBelief 23 = .ok (.bipush 25, 2) := by decide +kernel
theorem dX4_noBelief_25 : decode cX4_noBelief 25 = .ok (.iconst 0, 1) := by decide +kernel
theorem dX4_noBelief_26 : decode cX4_noBelief 26 = .ok (.bipush 99, 2) := by decide +kernel
theorem dX4_noBelief_28 : decode cX4_noBelief 28 = .ok (.invokevirtual 32, 3) := by decide +kernel
theorem dX4_noBelief_31 : decode cX4_noBelief 31 = .ok (.ifCond .eq 7, 3) := by decide +kernel
theorem dX4_noBelief_34 : decode cX4_noBelief 34 = .ok (.iconst 0, 1) := by decide +kernel
theorem dX4_noBelief_35 : decode cX4_noBelief 35 = .ok (.goto 5, 3) := by decide +kernel
theorem dX4_noBelief_38 : decode cX4_noBelief 38 = .ok (.bipush 6, 2) := by decide +kernel
theorem dX4_noBelief_40 : decode cX4_noBelief 40 = .ok (.ireturn, 1) := by decide +kernel
set_option maxRecDepth 20000 in
theorem ggX4_noTelling_X4_noRow : GoodIn wsX4_noTelling wsX4_noRow := goodIn_r _ [6, 7, 8, 9, 10] (by decide +kernel) (by decide +kernel)
set_option maxRecDepth 20000 in
theorem gX4_noTelling_X4_noRow : GoodIn wsX4_noTelling (wsV RX4 28 RX4 yX4_noRow wsX4_noRow) := goodIn_app (goodIn_of _ (by decide +kernel)) ggX4_noTelling_X4_noRow
theorem dX4_noTelling_0 : decode cX4_noTelling 0 = .ok (.aload_n 0, 1) := by decide +kernel
theorem dX4_noTelling_1 : decode cX4_noTelling 1 = .ok (.invokevirtual 28, 3) := by decide +kernel
theorem dX4_noTelling_4 : decode cX4_noTelling 4 = .ok (.istore_n 2, 1) := by decide +kernel
theorem dX4_noTelling_5 : decode cX4_noTelling 5 = .ok (.iload_n 2, 1) := by decide +kernel
theorem dX4_noTelling_6 : decode cX4_noTelling 6 = .ok (.ifCond .eq 5, 3) := by decide +kernel
theorem dX4_noTelling_9 : decode cX4_noTelling 9 = .ok (.iload_n 2, 1) := by decide +kernel
theorem dX4_noTelling_10 : decode cX4_noTelling 10 = .ok (.ireturn, 1) := by decide +kernel
theorem dX4_noTelling_11 : decode cX4_noTelling 11 = .ok (.iload_n 1, 1) := by decide +kernel
theorem dX4_noTelling_12 : decode cX4_noTelling 12 = .ok (.ifCond .ge 5, 3) := by decide +kernel
theorem dX4_noTelling_15 : decode cX4_noTelling 15 = .ok (.iconst 4, 1) := by decide +kernel
theorem dX4_noTelling_16 : decode cX4_noTelling 16 = .ok (.ireturn, 1) := by decide +kernel
theorem dX4_noTelling_17 : decode cX4_noTelling 17 = .ok (.iload_n 1, 1) := by decide +kernel
theorem dX4_noTelling_18 : decode cX4_noTelling 18 = .ok (.aload_n 0, 1) := by decide +kernel
theorem dX4_noTelling_19 : decode cX4_noTelling 19 = .ok (.getfield 19, 3) := by decide +kernel
theorem dX4_noTelling_22 : decode cX4_noTelling 22 = .ok (.if_icmp .le 7, 3) := by decide +kernel
theorem dX4_noTelling_25 : decode cX4_noTelling 25 = .ok (.iconst 5, 1) := by decide +kernel
theorem dX4_noTelling_26 : decode cX4_noTelling 26 = .ok (.goto 4, 3) := by decide +kernel
theorem dX4_noTelling_29 : decode cX4_noTelling 29 = .ok (.iconst 0, 1) := by decide +kernel
theorem dX4_noTelling_30 : decode cX4_noTelling 30 = .ok (.ireturn, 1) := by decide +kernel
theorem dX4_hasSpan_0 : decode cX4_hasSpan 0 = .ok (.iload_n 1, 1) := by decide +kernel
theorem dX4_hasSpan_1 : decode cX4_hasSpan 1 = .ok (.ifCond .lt 29, 3) := by decide +kernel
theorem dX4_hasSpan_4 : decode cX4_hasSpan 4 = .ok (.iload_n 2, 1) := by decide +kernel
theorem dX4_hasSpan_5 : decode cX4_hasSpan 5 = .ok (.ifCond .lt 25, 3) := by decide +kernel
theorem dX4_hasSpan_8 : decode cX4_hasSpan 8 = .ok (.iload_n 2, 1) := by decide +kernel
theorem dX4_hasSpan_9 : decode cX4_hasSpan 9 = .ok (.aload_n 0, 1) := by decide +kernel
theorem dX4_hasSpan_10 : decode cX4_hasSpan 10 = .ok (.getfield 19, 3) := by decide +kernel
theorem dX4_hasSpan_13 : decode cX4_hasSpan 13 = .ok (.if_icmp .gt 17, 3) := by decide +kernel
theorem dX4_hasSpan_16 : decode cX4_hasSpan 16 = .ok (.iload_n 1, 1) := by decide +kernel
theorem dX4_hasSpan_17 : decode cX4_hasSpan 17 = .ok (.aload_n 0, 1) := by decide +kernel
theorem dX4_hasSpan_18 : decode cX4_hasSpan 18 = .ok (.getfield 19, 3) := by decide +kernel
theorem dX4_hasSpan_21 : decode cX4_hasSpan 21 = .ok (.iload_n 2, 1) := by decide +kernel
theorem dX4_hasSpan_22 : decode cX4_hasSpan 22 = .ok (.isub, 1) := by decide +kernel
theorem dX4_hasSpan_23 : decode cX4_hasSpan 23 = .ok (.if_icmp .gt 7, 3) := by decide +kernel
theorem dX4_hasSpan_26 : decode cX4_hasSpan 26 = .ok (.iconst 1, 1) := by decide +kernel
theorem dX4_hasSpan_27 : decode cX4_hasSpan 27 = .ok (.goto 4, 3) := by decide +kernel
theorem dX4_hasSpan_30 : decode cX4_hasSpan 30 = .ok (.iconst 0, 1) := by decide +kernel
theorem dX4_hasSpan_31 : decode cX4_hasSpan 31 = .ok (.ireturn, 1) := by decide +kernel
theorem dX4_put_0 : decode cX4_put 0 = .ok (.aload_n 0, 1) := by decide +kernel
theorem dX4_put_1 : decode cX4_put 1 = .ok (.getfield 15, 3) := by decide +kernel
theorem dX4_put_4 : decode cX4_put 4 = .ok (.bipush 100, 2) := by decide +kernel
theorem dX4_put_6 : decode cX4_put 6 = .ok (.isub, 1) := by decide +kernel
theorem dX4_put_7 : decode cX4_put 7 = .ok (.tableswitch 63 0 2 #[25, 38, 51], 25) := by decide +kernel
theorem dX4_put_32 : decode cX4_put 32 = .ok (.aload_n 0, 1) := by decide +kernel
theorem dX4_put_33 : decode cX4_put 33 = .ok (.getfield 9, 3) := by decide +kernel
theorem dX4_put_36 : decode cX4_put 36 = .ok (.iload_n 1, 1) := by decide +kernel
theorem dX4_put_37 : decode cX4_put 37 = .ok (.lload_n 2, 1) := by decide +kernel
theorem dX4_put_38 : decode cX4_put 38 = .ok (.l2i, 1) := by decide +kernel
theorem dX4_put_39 : decode cX4_put 39 = .ok (.i2b, 1) := by decide +kernel
theorem dX4_put_40 : decode cX4_put 40 = .ok (.i2l, 1) := by decide +kernel
theorem dX4_put_41 : decode cX4_put 41 = .ok (.lastore, 1) := by decide +kernel
theorem dX4_put_42 : decode cX4_put 42 = .ok (.goto 35, 3) := by decide +kernel
theorem dX4_put_45 : decode cX4_put 45 = .ok (.aload_n 0, 1) := by decide +kernel
theorem dX4_put_46 : decode cX4_put 46 = .ok (.getfield 9, 3) := by decide +kernel
theorem dX4_put_49 : decode cX4_put 49 = .ok (.iload_n 1, 1) := by decide +kernel
theorem dX4_put_50 : decode cX4_put 50 = .ok (.lload_n 2, 1) := by decide +kernel
theorem dX4_put_51 : decode cX4_put 51 = .ok (.l2i, 1) := by decide +kernel
theorem dX4_put_52 : decode cX4_put 52 = .ok (.i2s, 1) := by decide +kernel
theorem dX4_put_53 : decode cX4_put 53 = .ok (.i2l, 1) := by decide +kernel
theorem dX4_put_54 : decode cX4_put 54 = .ok (.lastore, 1) := by decide +kernel
theorem dX4_put_55 : decode cX4_put 55 = .ok (.goto 22, 3) := by decide +kernel
theorem dX4_put_58 : decode cX4_put 58 = .ok (.aload_n 0, 1) := by decide +kernel
theorem dX4_put_59 : decode cX4_put 59 = .ok (.getfield 9, 3) := by decide +kernel
theorem dX4_put_62 : decode cX4_put 62 = .ok (.iload_n 1, 1) := by decide +kernel
theorem dX4_put_63 : decode cX4_put 63 = .ok (.lload_n 2, 1) := by decide +kernel
theorem dX4_put_64 : decode cX4_put 64 = .ok (.l2i, 1) := by decide +kernel
theorem dX4_put_65 : decode cX4_put 65 = .ok (.i2l, 1) := by decide +kernel
theorem dX4_put_66 : decode cX4_put 66 = .ok (.lastore, 1) := by decide +kernel
theorem dX4_put_67 : decode cX4_put 67 = .ok (.goto 10, 3) := by decide +kernel
theorem dX4_put_70 : decode cX4_put 70 = .ok (.aload_n 0, 1) := by decide +kernel
theorem dX4_put_71 : decode cX4_put 71 = .ok (.getfield 9, 3) := by decide +kernel
theorem dX4_put_74 : decode cX4_put 74 = .ok (.iload_n 1, 1) := by decide +kernel
theorem dX4_put_75 : decode cX4_put 75 = .ok (.lload_n 2, 1) := by decide +kernel
theorem dX4_put_76 : decode cX4_put 76 = .ok (.lastore, 1) := by decide +kernel
theorem dX4_put_77 : decode cX4_put 77 = .ok (.return_, 1) := by decide +kernel
set_option maxRecDepth 20000 in
theorem ggX4_tells_X4_hasSpan : GoodIn wsX4_tells wsX4_hasSpan := goodIn_r _ [6, 7, 8, 9, 10] (by decide +kernel) (by decide +kernel)
set_option maxRecDepth 20000 in
theorem gX4_tells_X4_hasSpan : GoodIn wsX4_tells (wsV RX4 36 RX4 yX4_hasSpan wsX4_hasSpan) := goodIn_app (goodIn_of _ (by decide +kernel)) ggX4_tells_X4_hasSpan
theorem dX4_tells_0 : decode cX4_tells 0 = .ok (.aload_n 0, 1) := by decide +kernel
theorem dX4_tells_1 : decode cX4_tells 1 = .ok (.iload_n 1, 1) := by decide +kernel
theorem dX4_tells_2 : decode cX4_tells 2 = .ok (.iconst 1, 1) := by decide +kernel
theorem dX4_tells_3 : decode cX4_tells 3 = .ok (.invokevirtual 36, 3) := by decide +kernel
theorem dX4_tells_6 : decode cX4_tells 6 = .ok (.ifCond .eq 13, 3) := by decide +kernel
theorem dX4_tells_9 : decode cX4_tells 9 = .ok (.aload_n 0, 1) := by decide +kernel
theorem dX4_tells_10 : decode cX4_tells 10 = .ok (.getfield 9, 3) := by decide +kernel
theorem dX4_tells_13 : decode cX4_tells 13 = .ok (.iload_n 1, 1) := by decide +kernel
theorem dX4_tells_14 : decode cX4_tells 14 = .ok (.laload, 1) := by decide +kernel
theorem dX4_tells_15 : decode cX4_tells 15 = .ok (.l2i, 1) := by decide +kernel
theorem dX4_tells_16 : decode cX4_tells 16 = .ok (.goto 4, 3) := by decide +kernel
theorem dX4_tells_19 : decode cX4_tells 19 = .ok (.iconst 0, 1) := by decide +kernel
theorem dX4_tells_20 : decode cX4_tells 20 = .ok (.ireturn, 1) := by decide +kernel
set_option maxRecDepth 20000 in
theorem ggX4_tellsWithin_X4_tells : GoodIn wsX4_tellsWithin wsX4_tells := goodIn_r _ [5, 6, 7, 8, 9, 4, 10, 11, 15, 16, 17] (by decide +kernel) (by decide +kernel)
set_option maxRecDepth 20000 in
theorem gX4_tellsWithin_X4_tells : GoodIn wsX4_tellsWithin (wsV RX4 40 RX4 yX4_tells wsX4_tells) := goodIn_app (goodIn_of _ (by decide +kernel)) ggX4_tellsWithin_X4_tells
set_option maxRecDepth 20000 in
theorem ggX4_tellsWithin_X7_within : GoodIn wsX4_tellsWithin wsX7_within := goodIn_r _ [14] (by decide +kernel) (by decide +kernel)
set_option maxRecDepth 20000 in
theorem gX4_tellsWithin_X7_within_n44 : GoodIn wsX4_tellsWithin (wsX7_within) := ggX4_tellsWithin_X7_within
theorem dX4_tellsWithin_0 : decode cX4_tellsWithin 0 = .ok (.iconst 0, 1) := by decide +kernel
theorem dX4_tellsWithin_1 : decode cX4_tellsWithin 1 = .ok (.istore 4, 2) := by decide +kernel
theorem dX4_tellsWithin_3 : decode cX4_tellsWithin 3 = .ok (.iload 4, 2) := by decide +kernel
theorem dX4_tellsWithin_5 : decode cX4_tellsWithin 5 = .ok (.iload_n 1, 1) := by decide +kernel
theorem dX4_tellsWithin_6 : decode cX4_tellsWithin 6 = .ok (.if_icmp .ge 25, 3) := by decide +kernel
theorem dX4_tellsWithin_9 : decode cX4_tellsWithin 9 = .ok (.aload_n 0, 1) := by decide +kernel
theorem dX4_tellsWithin_10 : decode cX4_tellsWithin 10 = .ok (.iload 4, 2) := by decide +kernel
theorem dX4_tellsWithin_12 : decode cX4_tellsWithin 12 = .ok (.invokevirtual 40, 3) := by decide +kernel
theorem dX4_tellsWithin_15 : decode cX4_tellsWithin 15 = .ok (.iload_n 2, 1) := by decide +kernel
theorem dX4_tellsWithin_16 : decode cX4_tellsWithin 16 = .ok (.iload_n 3, 1) := by decide +kernel
theorem dX4_tellsWithin_17 : decode cX4_tellsWithin 17 = .ok (.invokestatic 44, 3) := by decide +kernel
theorem dX4_tellsWithin_20 : decode cX4_tellsWithin 20 = .ok (.ifCond .ne 5, 3) := by decide +kernel
theorem dX4_tellsWithin_23 : decode cX4_tellsWithin 23 = .ok (.iconst 0, 1) := by decide +kernel
theorem dX4_tellsWithin_24 : decode cX4_tellsWithin 24 = .ok (.ireturn, 1) := by decide +kernel
theorem dX4_tellsWithin_25 : decode cX4_tellsWithin 25 = .ok (.iinc 4 1, 3) := by decide +kernel
theorem dX4_tellsWithin_28 : decode cX4_tellsWithin 28 = .ok (.goto (-25), 3) := by decide +kernel
theorem dX4_tellsWithin_31 : decode cX4_tellsWithin 31 = .ok (.iconst 1, 1) := by decide +kernel
theorem dX4_tellsWithin_32 : decode cX4_tellsWithin 32 = .ok (.ireturn, 1) := by decide +kernel
theorem dX5_init_0 : decode cX5_init 0 = .ok (.aload_n 0, 1) := by decide +kernel
theorem dX5_init_1 : decode cX5_init 1 = .ok (.invokespecial 3, 3) := by decide +kernel
theorem dX5_init_4 : decode cX5_init 4 = .ok (.aload_n 0, 1) := by decide +kernel
theorem dX5_init_5 : decode cX5_init 5 = .ok (.bipush 125, 2) := by decide +kernel
theorem dX5_init_7 : decode cX5_init 7 = .ok (.newarray .int, 2) := by decide +kernel
theorem dX5_init_9 : decode cX5_init 9 = .ok (.putfield 9, 3) := by decide +kernel
theorem dX5_init_12 : decode cX5_init 12 = .ok (.aload_n 0, 1) := by decide +kernel
theorem dX5_init_13 : decode cX5_init 13 = .ok (.bipush 125, 2) := by decide +kernel
theorem dX5_init_15 : decode cX5_init 15 = .ok (.newarray .int, 2) := by decide +kernel
theorem dX5_init_17 : decode cX5_init 17 = .ok (.putfield 15, 3) := by decide +kernel
theorem dX5_init_20 : decode cX5_init 20 = .ok (.aload_n 0, 1) := by decide +kernel
theorem dX5_init_21 : decode cX5_init 21 = .ok (.iconst 3, 1) := by decide +kernel
theorem dX5_init_22 : decode cX5_init 22 = .ok (.newarray .int, 2) := by decide +kernel
theorem dX5_init_24 : decode cX5_init 24 = .ok (.putfield 18, 3) := by decide +kernel
theorem dX5_init_27 : decode cX5_init 27 = .ok (.aload_n 0, 1) := by decide +kernel
theorem dX5_init_28 : decode cX5_init 28 = .ok (.bipush 8, 2) := by decide +kernel
theorem dX5_init_30 : decode cX5_init 30 = .ok (.anewarray 21, 3) := by decide +kernel
theorem dX5_init_33 : decode cX5_init 33 = .ok (.putfield 23, 3) := by decide +kernel
theorem dX5_init_36 : decode cX5_init 36 = .ok (.aload_n 0, 1) := by decide +kernel
theorem dX5_init_37 : decode cX5_init 37 = .ok (.iconst 0, 1) := by decide +kernel
theorem dX5_init_38 : decode cX5_init 38 = .ok (.putfield 27, 3) := by decide +kernel
theorem dX5_init_41 : decode cX5_init 41 = .ok (.aload_n 0, 1) := by decide +kernel
theorem dX5_init_42 : decode cX5_init 42 = .ok (.iconst 0, 1) := by decide +kernel
theorem dX5_init_43 : decode cX5_init 43 = .ok (.putfield 31, 3) := by decide +kernel
theorem dX5_init_46 : decode cX5_init 46 = .ok (.aload_n 0, 1) := by decide +kernel
theorem dX5_init_47 : decode cX5_init 47 = .ok (.iconst 0, 1) := by decide +kernel
theorem dX5_init_48 : decode cX5_init 48 = .ok (.putfield 34, 3) := by decide +kernel
theorem dX5_init_51 : decode cX5_init 51 = .ok (.return_, 1) := by decide +kernel
set_option maxRecDepth 20000 in
theorem ggX5_look_X0_pullAt : GoodIn wsX5_look wsX0_pullAt := goodIn_r _ [24, 25, 26, 27, 28, 29, 34, 35, 36, 37, 38, 39, 40, 41, 42] (by decide +kernel) (by decide +kernel)
set_option maxRecDepth 20000 in
theorem gX5_look_X0_pullAt : GoodIn wsX5_look (wsV RX5 42 RX0 yX0_pullAt wsX0_pullAt) := goodIn_app (goodIn_of _ (by decide +kernel)) ggX5_look_X0_pullAt
set_option maxRecDepth 20000 in
theorem ggX5_look_J7_fill_53178 : GoodIn wsX5_look wsJ7_fill_53178 := goodIn_r _ [33] (by decide +kernel) (by decide +kernel)
set_option maxRecDepth 20000 in
theorem gX5_look_J7_fill_53178 : GoodIn wsX5_look (va_wsS RX5 65 yJ7_fill_53178 wsJ7_fill_53178) := goodIn_app (goodIn_of _ (by decide +kernel)) ggX5_look_J7_fill_53178
theorem dX5_look_0 : decode cX5_look 0 = .ok (.aload_n 0, 1) := by decide +kernel
theorem dX5_look_1 : decode cX5_look 1 = .ok (.aload_n 1, 1) := by decide +kernel
theorem dX5_look_2 : decode cX5_look 2 = .ok (.getfield 37, 3) := by decide +kernel
theorem dX5_look_5 : decode cX5_look 5 = .ok (.putfield 27, 3) := by decide +kernel
theorem dX5_look_8 : decode cX5_look 8 = .ok (.aload_n 0, 1) := by decide +kernel
theorem dX5_look_9 : decode cX5_look 9 = .ok (.iload_n 2, 1) := by decide +kernel
theorem dX5_look_10 : decode cX5_look 10 = .ok (.putfield 31, 3) := by decide +kernel
theorem dX5_look_13 : decode cX5_look 13 = .ok (.aload_n 0, 1) := by decide +kernel
theorem dX5_look_14 : decode cX5_look 14 = .ok (.iconst 0, 1) := by decide +kernel
theorem dX5_look_15 : decode cX5_look 15 = .ok (.putfield 34, 3) := by decide +kernel
theorem dX5_look_18 : decode cX5_look 18 = .ok (.iconst 0, 1) := by decide +kernel
theorem dX5_look_19 : decode cX5_look 19 = .ok (.istore 4, 2) := by decide +kernel
theorem dX5_look_21 : decode cX5_look 21 = .ok (.iload 4, 2) := by decide +kernel
theorem dX5_look_23 : decode cX5_look 23 = .ok (.aload_n 0, 1) := by decide +kernel
theorem dX5_look_24 : decode cX5_look 24 = .ok (.getfield 27, 3) := by decide +kernel
theorem dX5_look_27 : decode cX5_look 27 = .ok (.if_icmp .ge 95, 3) := by decide +kernel
theorem dX5_look_30 : decode cX5_look 30 = .ok (.iload 4, 2) := by decide +kernel
theorem dX5_look_32 : decode cX5_look 32 = .ok (.bipush 8, 2) := by decide +kernel
theorem dX5_look_34 : decode cX5_look 34 = .ok (.if_icmp .ge 88, 3) := by decide +kernel
theorem dX5_look_37 : decode cX5_look 37 = .ok (.aload_n 1, 1) := by decide +kernel
theorem dX5_look_38 : decode cX5_look 38 = .ok (.iload 4, 2) := by decide +kernel
theorem dX5_look_40 : decode cX5_look 40 = .ok (.invokevirtual 42, 3) := by decide +kernel
theorem dX5_look_43 : decode cX5_look 43 = .ok (.astore 5, 2) := by decide +kernel
theorem dX5_look_45 : decode cX5_look 45 = .ok (.aload 5, 2) := by decide +kernel
theorem dX5_look_47 : decode cX5_look 47 = .ok (.ifnull 20, 3) := by decide +kernel
theorem dX5_look_50 : decode cX5_look 50 = .ok (.iload_n 3, 1) := by decide +kernel
theorem dX5_look_51 : decode cX5_look 51 = .ok (.ifCond .ne 12, 3) := by decide +kernel
theorem dX5_look_54 : decode cX5_look 54 = .ok (.aload 5, 2) := by decide +kernel
theorem dX5_look_56 : decode cX5_look 56 = .ok (.getfield 46, 3) := by decide +kernel
theorem dX5_look_59 : decode cX5_look 59 = .ok (.iconst 5, 1) := by decide +kernel
theorem dX5_look_60 : decode cX5_look 60 = .ok (.if_icmp .eq 7, 3) := by decide +kernel
theorem dX5_look_63 : decode cX5_look 63 = .ok (.iconst 1, 1) := by decide +kernel
theorem dX5_look_64 : decode cX5_look 64 = .ok (.goto 4, 3) := by decide +kernel
theorem dX5_look_67 : decode cX5_look 67 = .ok (.iconst 0, 1) := by decide +kernel
theorem dX5_look_68 : decode cX5_look 68 = .ok (.istore 6, 2) := by decide +kernel
theorem dX5_look_70 : decode cX5_look 70 = .ok (.aload_n 0, 1) := by decide +kernel
theorem dX5_look_71 : decode cX5_look 71 = .ok (.getfield 23, 3) := by decide +kernel
theorem dX5_look_74 : decode cX5_look 74 = .ok (.iload 4, 2) := by decide +kernel
theorem dX5_look_76 : decode cX5_look 76 = .ok (.iload 6, 2) := by decide +kernel
theorem dX5_look_78 : decode cX5_look 78 = .ok (.ifCond .eq 8, 3) := by decide +kernel
theorem dX5_look_81 : decode cX5_look 81 = .ok (.aload 5, 2) := by decide +kernel
theorem dX5_look_83 : decode cX5_look 83 = .ok (.goto 4, 3) := by decide +kernel
theorem dX5_look_86 : decode cX5_look 86 = .ok (.aconst_null, 1) := by decide +kernel
theorem dX5_look_87 : decode cX5_look 87 = .ok (.aastore, 1) := by decide +kernel
theorem dX5_look_88 : decode cX5_look 88 = .ok (.aload_n 0, 1) := by decide +kernel
theorem dX5_look_89 : decode cX5_look 89 = .ok (.iload 6, 2) := by decide +kernel
theorem dX5_look_91 : decode cX5_look 91 = .ok (.ifCond .eq 18, 3) := by decide +kernel
theorem dX5_look_94 : decode cX5_look 94 = .ok (.aload_n 0, 1) := by decide +kernel
theorem dX5_look_95 : decode cX5_look 95 = .ok (.getfield 34, 3) := by decide +kernel
theorem dX5_look_98 : decode cX5_look 98 = .ok (.aload 5, 2) := by decide +kernel
theorem dX5_look_100 : decode cX5_look 100 = .ok (.getfield 49, 3) := by decide +kernel
theorem dX5_look_103 : decode cX5_look 103 = .ok (.invokestatic 52, 3) := by decide +kernel
theorem dX5_look_106 : decode cX5_look 106 = .ok (.goto 7, 3) := by decide +kernel
theorem dX5_look_109 : decode cX5_look 109 = .ok (.aload_n 0, 1) := by decide +kernel
theorem dX5_look_110 : decode cX5_look 110 = .ok (.getfield 34, 3) := by decide +kernel
theorem dX5_look_113 : decode cX5_look 113 = .ok (.putfield 34, 3) := by decide +kernel
theorem dX5_look_116 : decode cX5_look 116 = .ok (.iinc 4 1, 3) := by decide +kernel
theorem dX5_look_119 : decode cX5_look 119 = .ok (.goto (-98), 3) := by decide +kernel
theorem dX5_look_122 : decode cX5_look 122 = .ok (.aload_n 1, 1) := by decide +kernel
theorem dX5_look_123 : decode cX5_look 123 = .ok (.getfield 58, 3) := by decide +kernel
theorem dX5_look_126 : decode cX5_look 126 = .ok (.iconst 0, 1) := by decide +kernel
theorem dX5_look_127 : decode cX5_look 127 = .ok (.aload_n 0, 1) := by decide +kernel
theorem dX5_look_128 : decode cX5_look 128 = .ok (.getfield 18, 3) := by decide +kernel
theorem dX5_look_131 : decode cX5_look 131 = .ok (.iconst 0, 1) := by decide +kernel
theorem dX5_look_132 : decode cX5_look 132 = .ok (.iconst 3, 1) := by decide +kernel
theorem dX5_look_133 : decode cX5_look 133 = .ok (.invokestatic 59, 3) := by decide +kernel
theorem dX5_look_136 : decode cX5_look 136 = .ok (.aload_n 0, 1) := by decide +kernel
theorem dX5_look_137 : decode cX5_look 137 = .ok (.getfield 9, 3) := by decide +kernel
theorem dX5_look_140 : decode cX5_look 140 = .ok (.iconst (-1), 1) := by decide +kernel
theorem dX5_look_141 : decode cX5_look 141 = .ok (.invokestatic 65, 3) := by decide +kernel
theorem dX5_look_144 : decode cX5_look 144 = .ok (.aload_n 0, 1) := by decide +kernel
theorem dX5_look_145 : decode cX5_look 145 = .ok (.getfield 15, 3) := by decide +kernel
theorem dX5_look_148 : decode cX5_look 148 = .ok (.iconst (-1), 1) := by decide +kernel
theorem dX5_look_149 : decode cX5_look 149 = .ok (.invokestatic 65, 3) := by decide +kernel
theorem dX5_look_152 : decode cX5_look 152 = .ok (.return_, 1) := by decide +kernel
set_option maxRecDepth 20000 in
theorem ggX5_mayBeAt_X7_within : GoodIn wsX5_mayBeAt wsX7_within := goodIn_r _ [4] (by decide +kernel) (by decide +kernel)
set_option maxRecDepth 20000 in
theorem gX5_mayBeAt_X7_within_n71 : GoodIn wsX5_mayBeAt (wsX7_within) := ggX5_mayBeAt_X7_within
set_option maxRecDepth 20000 in
theorem ggX5_mayBeAt_X2_mayBe : GoodIn wsX5_mayBeAt wsX2_mayBe := goodIn_r _ [9, 10, 18, 19, 20] (by decide +kernel) (by decide +kernel)
set_option maxRecDepth 20000 in
theorem gX5_mayBeAt_X2_mayBe : GoodIn wsX5_mayBeAt (wsV RX5 75 RX2 yX2_mayBe wsX2_mayBe) := goodIn_app (goodIn_of _ (by decide +kernel)) ggX5_mayBeAt_X2_mayBe
theorem dX5_mayBeAt_0 : decode cX5_mayBeAt 0 = .ok (.iload_n 1, 1) := by decide +kernel
theorem dX5_mayBeAt_1 : decode cX5_mayBeAt 1 = .ok (.iconst 0, 1) := by decide +kernel
theorem dX5_mayBeAt_2 : decode cX5_mayBeAt 2 = .ok (.bipush 7, 2) := by decide +kernel
theorem dX5_mayBeAt_4 : decode cX5_mayBeAt 4 = .ok (.invokestatic 71, 3) := by decide +kernel
theorem dX5_mayBeAt_7 : decode cX5_mayBeAt 7 = .ok (.ifCond .eq 12, 3) := by decide +kernel
theorem dX5_mayBeAt_10 : decode cX5_mayBeAt 10 = .ok (.aload_n 0, 1) := by decide +kernel
theorem dX5_mayBeAt_11 : decode cX5_mayBeAt 11 = .ok (.getfield 23, 3) := by decide +kernel
theorem dX5_mayBeAt_14 : decode cX5_mayBeAt 14 = .ok (.iload_n 1, 1) := by decide +kernel
theorem dX5_mayBeAt_15 : decode cX5_mayBeAt 15 = .ok (.aaload, 1) := by decide +kernel
theorem dX5_mayBeAt_16 : decode cX5_mayBeAt 16 = .ok (.goto 4, 3) := by decide +kernel
theorem dX5_mayBeAt_19 : decode cX5_mayBeAt 19 = .ok (.aconst_null, 1) := by decide +kernel
theorem dX5_mayBeAt_20 : decode cX5_mayBeAt 20 = .ok (.astore 4, 2) := by decide +kernel
theorem dX5_mayBeAt_22 : decode cX5_mayBeAt 22 = .ok (.aload 4, 2) := by decide +kernel
theorem dX5_mayBeAt_24 : decode cX5_mayBeAt 24 = .ok (.ifnull 18, 3) := by decide +kernel
theorem dX5_mayBeAt_27 : decode cX5_mayBeAt 27 = .ok (.aload 4, 2) := by decide +kernel
theorem dX5_mayBeAt_29 : decode cX5_mayBeAt 29 = .ok (.iload_n 2, 1) := by decide +kernel
theorem dX5_mayBeAt_30 : decode cX5_mayBeAt 30 = .ok (.iload_n 3, 1) := by decide +kernel
theorem dX5_mayBeAt_31 : decode cX5_mayBeAt 31 = .ok (.invokevirtual 75, 3) := by decide +kernel
theorem dX5_mayBeAt_34 : decode cX5_mayBeAt 34 = .ok (.ifCond .eq 8, 3) := by decide +kernel
theorem dX5_mayBeAt_37 : decode cX5_mayBeAt 37 = .ok (.aload 4, 2) := by decide +kernel
theorem dX5_mayBeAt_39 : decode cX5_mayBeAt 39 = .ok (.goto 4, 3) := by decide +kernel
theorem dX5_mayBeAt_42 : decode cX5_mayBeAt 42 = .ok (.aconst_null, 1) := by decide +kernel
theorem dX5_mayBeAt_43 : decode cX5_mayBeAt 43 = .ok (.areturn, 1) := by decide +kernel
set_option maxRecDepth 20000 in
theorem ggX5_most_X5_mayBeAt : GoodIn wsX5_most wsX5_mayBeAt := goodIn_r _ [13, 14, 15, 16, 17, 18, 19, 20, 21, 22, 23, 59, 60, 61, 62, 63, 64, 65, 66, 67, 68] (by decide +kernel) (by decide +kernel)
set_option maxRecDepth 20000 in
theorem gX5_most_X5_mayBeAt : GoodIn wsX5_most (wsV RX5 82 RX5 yX5_mayBeAt wsX5_mayBeAt) := goodIn_app (goodIn_of _ (by decide +kernel)) ggX5_most_X5_mayBeAt
set_option maxRecDepth 20000 in
theorem ggX5_most_X5_mostBy : GoodIn wsX5_most wsX5_mostBy := goodIn_r _ [27, 28, 29, 30, 31, 32, 21, 33, 34, 35, 36, 7, 37, 38, 6, 8, 39, 40, 41, 42, 43, 44, 45, 46, 47, 48, 49, 50, 51, 52, 53, 54, 12, 55, 56, 57, 58, 0, 1, 2, 3, 4, 5, 9, 10, 11, 13, 14, 15, 16, 17, 18, 19, 20, 22, 23, 24, 25, 26, 59, 60, 61, 62, 63, 64, 65, 66, 67, 68] (by decide +kernel) (by decide +kernel)
set_option maxRecDepth 20000 in
theorem gX5_most_X5_mostBy : GoodIn wsX5_most (wsV RX5 86 RX5 yX5_mostBy wsX5_mostBy) := goodIn_app (goodIn_of _ (by decide +kernel)) ggX5_most_X5_mostBy
theorem dX5_most_0 : decode cX5_most 0 = .ok (.iload_n 1, 1) := by decide +kernel
theorem dX5_most_1 : decode cX5_most 1 = .ok (.ifCond .lt 18, 3) := by decide +kernel
theorem dX5_most_4 : decode cX5_most 4 = .ok (.iload_n 1, 1) := by decide +kernel
theorem dX5_most_5 : decode cX5_most 5 = .ok (.iconst 4, 1) := by decide +kernel
theorem dX5_most_6 : decode cX5_most 6 = .ok (.if_icmp .gt 13, 3) := by decide +kernel
theorem dX5_most_9 : decode cX5_most 9 = .ok (.iload_n 2, 1) := by decide +kernel
theorem dX5_most_10 : decode cX5_most 10 = .ok (.ifCond .lt 9, 3) := by decide +kernel
theorem dX5_most_13 : decode cX5_most 13 = .ok (.iload_n 2, 1) := by decide +kernel
theorem dX5_most_14 : decode cX5_most 14 = .ok (.bipush 24, 2) := by decide +kernel
theorem dX5_most_16 : decode cX5_most 16 = .ok (.if_icmp .le 5, 3) := by decide +kernel
theorem dX5_most_19 : decode cX5_most 19 = .ok (.iconst 0, 1) := by decide +kernel
theorem dX5_most_20 : decode cX5_most 20 = .ok (.ireturn, 1) := by decide +kernel
theorem dX5_most_21 : decode cX5_most 21 = .ok (.iload_n 2, 1) := by decide +kernel
theorem dX5_most_22 : decode cX5_most 22 = .ok (.ifCond .eq 7, 3) := by decide +kernel
theorem dX5_most_25 : decode cX5_most 25 = .ok (.iload_n 1, 1) := by decide +kernel
theorem dX5_most_26 : decode cX5_most 26 = .ok (.ifCond .ne 17, 3) := by decide +kernel
theorem dX5_most_29 : decode cX5_most 29 = .ok (.iload_n 2, 1) := by decide +kernel
theorem dX5_most_30 : decode cX5_most 30 = .ok (.ifCond .ne 11, 3) := by decide +kernel
theorem dX5_most_33 : decode cX5_most 33 = .ok (.getstatic 79, 3) := by decide +kernel
theorem dX5_most_36 : decode cX5_most 36 = .ok (.iload_n 1, 1) := by decide +kernel
theorem dX5_most_37 : decode cX5_most 37 = .ok (.iaload, 1) := by decide +kernel
theorem dX5_most_38 : decode cX5_most 38 = .ok (.goto 4, 3) := by decide +kernel
theorem dX5_most_41 : decode cX5_most 41 = .ok (.iconst 0, 1) := by decide +kernel
theorem dX5_most_42 : decode cX5_most 42 = .ok (.ireturn, 1) := by decide +kernel
theorem dX5_most_43 : decode cX5_most 43 = .ok (.iload_n 3, 1) := by decide +kernel
theorem dX5_most_44 : decode cX5_most 44 = .ok (.iload_n 1, 1) := by decide +kernel
theorem dX5_most_45 : decode cX5_most 45 = .ok (.aload_n 0, 1) := by decide +kernel
theorem dX5_most_46 : decode cX5_most 46 = .ok (.getfield 34, 3) := by decide +kernel
theorem dX5_most_49 : decode cX5_most 49 = .ok (.imul, 1) := by decide +kernel
theorem dX5_most_50 : decode cX5_most 50 = .ok (.if_icmp .lt 7, 3) := by decide +kernel
theorem dX5_most_53 : decode cX5_most 53 = .ok (.iconst 1, 1) := by decide +kernel
theorem dX5_most_54 : decode cX5_most 54 = .ok (.goto 4, 3) := by decide +kernel
theorem dX5_most_57 : decode cX5_most 57 = .ok (.iconst 0, 1) := by decide +kernel
theorem dX5_most_58 : decode cX5_most 58 = .ok (.istore 4, 2) := by decide +kernel
theorem dX5_most_60 : decode cX5_most 60 = .ok (.iload_n 1, 1) := by decide +kernel
theorem dX5_most_61 : decode cX5_most 61 = .ok (.bipush 25, 2) := by decide +kernel
theorem dX5_most_63 : decode cX5_most 63 = .ok (.imul, 1) := by decide +kernel
theorem dX5_most_64 : decode cX5_most 64 = .ok (.iload_n 2, 1) := by decide +kernel
theorem dX5_most_65 : decode cX5_most 65 = .ok (.iadd, 1) := by decide +kernel
theorem dX5_most_66 : decode cX5_most 66 = .ok (.istore 5, 2) := by decide +kernel
theorem dX5_most_68 : decode cX5_most 68 = .ok (.iload 4, 2) := by decide +kernel
theorem dX5_most_70 : decode cX5_most 70 = .ok (.ifCond .eq 22, 3) := by decide +kernel
theorem dX5_most_73 : decode cX5_most 73 = .ok (.aload_n 0, 1) := by decide +kernel
theorem dX5_most_74 : decode cX5_most 74 = .ok (.getfield 9, 3) := by decide +kernel
theorem dX5_most_77 : decode cX5_most 77 = .ok (.iload 5, 2) := by decide +kernel
theorem dX5_most_79 : decode cX5_most 79 = .ok (.iaload, 1) := by decide +kernel
theorem dX5_most_80 : decode cX5_most 80 = .ok (.iconst (-1), 1) := by decide +kernel
theorem dX5_most_81 : decode cX5_most 81 = .ok (.if_icmp .eq 11, 3) := by decide +kernel
theorem dX5_most_84 : decode cX5_most 84 = .ok (.aload_n 0, 1) := by decide +kernel
theorem dX5_most_85 : decode cX5_most 85 = .ok (.getfield 9, 3) := by decide +kernel
theorem dX5_most_88 : decode cX5_most 88 = .ok (.iload 5, 2) := by decide +kernel
theorem dX5_most_90 : decode cX5_most 90 = .ok (.iaload, 1) := by decide +kernel
theorem dX5_most_91 : decode cX5_most 91 = .ok (.ireturn, 1) := by decide +kernel
theorem dX5_most_92 : decode cX5_most 92 = .ok (.iconst 0, 1) := by decide +kernel
theorem dX5_most_93 : decode cX5_most 93 = .ok (.istore 6, 2) := by decide +kernel
theorem dX5_most_95 : decode cX5_most 95 = .ok (.iconst 0, 1) := by decide +kernel
theorem dX5_most_96 : decode cX5_most 96 = .ok (.istore 7, 2) := by decide +kernel
theorem dX5_most_98 : decode cX5_most 98 = .ok (.iload 7, 2) := by decide +kernel
theorem dX5_most_100 : decode cX5_most 100 = .ok (.aload_n 0, 1) := by decide +kernel
theorem dX5_most_101 : decode cX5_most 101 = .ok (.getfield 27, 3) := by decide +kernel
theorem dX5_most_104 : decode cX5_most 104 = .ok (.if_icmp .ge 40, 3) := by decide +kernel
theorem dX5_most_107 : decode cX5_most 107 = .ok (.aload_n 0, 1) := by decide +kernel
theorem dX5_most_108 : decode cX5_most 108 = .ok (.iload 7, 2) := by decide +kernel
theorem dX5_most_110 : decode cX5_most 110 = .ok (.iload_n 2, 1) := by decide +kernel
theorem dX5_most_111 : decode cX5_most 111 = .ok (.iload_n 3, 1) := by decide +kernel
theorem dX5_most_112 : decode cX5_most 112 = .ok (.invokevirtual 82, 3) := by decide +kernel
theorem dX5_most_115 : decode cX5_most 115 = .ok (.astore 8, 2) := by decide +kernel
theorem dX5_most_117 : decode cX5_most 117 = .ok (.aload 8, 2) := by decide +kernel
theorem dX5_most_119 : decode cX5_most 119 = .ok (.ifnull 19, 3) := by decide +kernel
theorem dX5_most_122 : decode cX5_most 122 = .ok (.iload 6, 2) := by decide +kernel
theorem dX5_most_124 : decode cX5_most 124 = .ok (.aload_n 0, 1) := by decide +kernel
theorem dX5_most_125 : decode cX5_most 125 = .ok (.aload 8, 2) := by decide +kernel
theorem dX5_most_127 : decode cX5_most 127 = .ok (.iload_n 1, 1) := by decide +kernel
theorem dX5_most_128 : decode cX5_most 128 = .ok (.iload_n 2, 1) := by decide +kernel
theorem dX5_most_129 : decode cX5_most 129 = .ok (.iload_n 3, 1) := by decide +kernel
theorem dX5_most_130 : decode cX5_most 130 = .ok (.invokevirtual 86, 3) := by decide +kernel
theorem dX5_most_133 : decode cX5_most 133 = .ok (.invokestatic 52, 3) := by decide +kernel
theorem dX5_most_136 : decode cX5_most 136 = .ok (.istore 6, 2) := by decide +kernel
theorem dX5_most_138 : decode cX5_most 138 = .ok (.iinc 7 1, 3) := by decide +kernel
theorem dX5_most_141 : decode cX5_most 141 = .ok (.goto (-43), 3) := by decide +kernel
theorem dX5_most_144 : decode cX5_most 144 = .ok (.iload 4, 2) := by decide +kernel
theorem dX5_most_146 : decode cX5_most 146 = .ok (.ifCond .eq 12, 3) := by decide +kernel
theorem dX5_most_149 : decode cX5_most 149 = .ok (.aload_n 0, 1) := by decide +kernel
theorem dX5_most_150 : decode cX5_most 150 = .ok (.getfield 9, 3) := by decide +kernel
theorem dX5_most_153 : decode cX5_most 153 = .ok (.iload 5, 2) := by decide +kernel
theorem dX5_most_155 : decode cX5_most 155 = .ok (.iload 6, 2) := by decide +kernel
theorem dX5_most_157 : decode cX5_most 157 = .ok (.iastore, 1) := by decide +kernel
theorem dX5_most_158 : decode cX5_most 158 = .ok (.iload 6, 2) := by decide +kernel
theorem dX5_most_160 : decode cX5_most 160 = .ok (.ireturn, 1) := by decide +kernel
set_option maxRecDepth 20000 in
theorem ggX5_mostBy_X2_waysAt : GoodIn wsX5_mostBy wsX2_waysAt := goodIn_r _ [7, 8, 9, 10, 11, 12, 13, 14, 15, 16, 17, 18, 6, 19, 20, 66, 67, 68] (by decide +kernel) (by decide +kernel)
set_option maxRecDepth 20000 in
theorem gX5_mostBy_X2_waysAt : GoodIn wsX5_mostBy (wsV RX5 90 RX2 yX2_waysAt wsX2_waysAt) := goodIn_app (goodIn_of _ (by decide +kernel)) ggX5_mostBy_X2_waysAt
set_option maxRecDepth 20000 in
theorem ggX5_mostBy_X2_shallower : GoodIn wsX5_mostBy wsX2_shallower := goodIn_r _ [24, 13, 14, 11, 15, 25, 26, 27, 6, 28, 8, 20, 66, 67, 68] (by decide +kernel) (by decide +kernel)
set_option maxRecDepth 20000 in
theorem gX5_mostBy_X2_shallower : GoodIn wsX5_mostBy (wsV RX5 93 RX2 yX2_shallower wsX2_shallower) := goodIn_app (goodIn_of _ (by decide +kernel)) ggX5_mostBy_X2_shallower
set_option maxRecDepth 20000 in
theorem ggX5_mostBy_X5_most : GoodIn wsX5_mostBy wsX5_most := goodIn_r _ [37, 38, 39, 40, 41, 42, 14, 11, 15, 43, 44, 45, 32, 46, 47, 48, 49, 50, 51, 52, 53, 6, 54, 55, 56, 57, 58, 0, 1, 2, 3, 4, 5, 7, 8, 9, 10, 12, 13, 16, 17, 18, 19, 20, 21, 22, 23, 24, 25, 26, 27, 28, 29, 30, 31, 33, 34, 35, 36, 59, 60, 61, 62, 63, 64, 65, 66, 67, 68] (by decide +kernel) (by decide +kernel)
set_option maxRecDepth 20000 in
theorem gX5_mostBy_X5_most : GoodIn wsX5_mostBy (wsV RX5 97 RX5 yX5_most wsX5_most) := goodIn_app (goodIn_of _ (by decide +kernel)) ggX5_mostBy_X5_most
set_option maxRecDepth 20000 in
theorem ggX5_mostBy_X2_deeper : GoodIn wsX5_mostBy wsX2_deeper := goodIn_r _ [36, 8, 20, 9, 10, 11, 12, 66, 67, 68] (by decide +kernel) (by decide +kernel)
set_option maxRecDepth 20000 in
theorem gX5_mostBy_X2_deeper : GoodIn wsX5_mostBy (wsV RX5 101 RX2 yX2_deeper wsX2_deeper) := goodIn_app (goodIn_of _ (by decide +kernel)) ggX5_mostBy_X2_deeper
theorem dX5_mostBy_0 : decode cX5_mostBy 0 = .ok (.aload_n 1, 1) := by decide +kernel
theorem dX5_mostBy_1 : decode cX5_mostBy 1 = .ok (.iload_n 3, 1) := by decide +kernel
theorem dX5_mostBy_2 : decode cX5_mostBy 2 = .ok (.aload_n 0, 1) := by decide +kernel
theorem dX5_mostBy_3 : decode cX5_mostBy 3 = .ok (.getfield 31, 3) := by decide +kernel
theorem dX5_mostBy_6 : decode cX5_mostBy 6 = .ok (.invokevirtual 90, 3) := by decide +kernel
theorem dX5_mostBy_9 : decode cX5_mostBy 9 = .ok (.istore 5, 2) := by decide +kernel
theorem dX5_mostBy_11 : decode cX5_mostBy 11 = .ok (.iload 4, 2) := by decide +kernel
theorem dX5_mostBy_13 : decode cX5_mostBy 13 = .ok (.aload_n 1, 1) := by decide +kernel
theorem dX5_mostBy_14 : decode cX5_mostBy 14 = .ok (.getfield 49, 3) := by decide +kernel
theorem dX5_mostBy_17 : decode cX5_mostBy 17 = .ok (.isub, 1) := by decide +kernel
theorem dX5_mostBy_18 : decode cX5_mostBy 18 = .ok (.istore 6, 2) := by decide +kernel
theorem dX5_mostBy_20 : decode cX5_mostBy 20 = .ok (.iconst 0, 1) := by decide +kernel
theorem dX5_mostBy_21 : decode cX5_mostBy 21 = .ok (.istore 7, 2) := by decide +kernel
theorem dX5_mostBy_23 : decode cX5_mostBy 23 = .ok (.iload 5, 2) := by decide +kernel
theorem dX5_mostBy_25 : decode cX5_mostBy 25 = .ok (.ifCond .le 25, 3) := by decide +kernel
theorem dX5_mostBy_28 : decode cX5_mostBy 28 = .ok (.iload 7, 2) := by decide +kernel
theorem dX5_mostBy_30 : decode cX5_mostBy 30 = .ok (.iload 5, 2) := by decide +kernel
theorem dX5_mostBy_32 : decode cX5_mostBy 32 = .ok (.aload_n 0, 1) := by decide +kernel
theorem dX5_mostBy_33 : decode cX5_mostBy 33 = .ok (.iload_n 2, 1) := by decide +kernel
theorem dX5_mostBy_34 : decode cX5_mostBy 34 = .ok (.iconst 1, 1) := by decide +kernel
theorem dX5_mostBy_35 : decode cX5_mostBy 35 = .ok (.isub, 1) := by decide +kernel
theorem dX5_mostBy_36 : decode cX5_mostBy 36 = .ok (.aload_n 1, 1) := by decide +kernel
theorem dX5_mostBy_37 : decode cX5_mostBy 37 = .ok (.iload_n 3, 1) := by decide +kernel
theorem dX5_mostBy_38 : decode cX5_mostBy 38 = .ok (.invokevirtual 93, 3) := by decide +kernel
theorem dX5_mostBy_41 : decode cX5_mostBy 41 = .ok (.iload 6, 2) := by decide +kernel
theorem dX5_mostBy_43 : decode cX5_mostBy 43 = .ok (.invokevirtual 97, 3) := by decide +kernel
theorem dX5_mostBy_46 : decode cX5_mostBy 46 = .ok (.imul, 1) := by decide +kernel
theorem dX5_mostBy_47 : decode cX5_mostBy 47 = .ok (.iadd, 1) := by decide +kernel
theorem dX5_mostBy_48 : decode cX5_mostBy 48 = .ok (.istore 7, 2) := by decide +kernel
theorem dX5_mostBy_50 : decode cX5_mostBy 50 = .ok (.iload 5, 2) := by decide +kernel
theorem dX5_mostBy_52 : decode cX5_mostBy 52 = .ok (.bipush 12, 2) := by decide +kernel
theorem dX5_mostBy_54 : decode cX5_mostBy 54 = .ok (.if_icmp .ge 32, 3) := by decide +kernel
theorem dX5_mostBy_57 : decode cX5_mostBy 57 = .ok (.iload 7, 2) := by decide +kernel
theorem dX5_mostBy_59 : decode cX5_mostBy 59 = .ok (.bipush 12, 2) := by decide +kernel
theorem dX5_mostBy_61 : decode cX5_mostBy 61 = .ok (.iload 5, 2) := by decide +kernel
theorem dX5_mostBy_63 : decode cX5_mostBy 63 = .ok (.isub, 1) := by decide +kernel
theorem dX5_mostBy_64 : decode cX5_mostBy 64 = .ok (.aload_n 0, 1) := by decide +kernel
theorem dX5_mostBy_65 : decode cX5_mostBy 65 = .ok (.iload_n 2, 1) := by decide +kernel
theorem dX5_mostBy_66 : decode cX5_mostBy 66 = .ok (.iconst 1, 1) := by decide +kernel
theorem dX5_mostBy_67 : decode cX5_mostBy 67 = .ok (.isub, 1) := by decide +kernel
theorem dX5_mostBy_68 : decode cX5_mostBy 68 = .ok (.aload_n 1, 1) := by decide +kernel
theorem dX5_mostBy_69 : decode cX5_mostBy 69 = .ok (.iload_n 3, 1) := by decide +kernel
theorem dX5_mostBy_70 : decode cX5_mostBy 70 = .ok (.aload_n 0, 1) := by decide +kernel
theorem dX5_mostBy_71 : decode cX5_mostBy 71 = .ok (.getfield 31, 3) := by decide +kernel
theorem dX5_mostBy_74 : decode cX5_mostBy 74 = .ok (.invokevirtual 101, 3) := by decide +kernel
theorem dX5_mostBy_77 : decode cX5_mostBy 77 = .ok (.iload 6, 2) := by decide +kernel
theorem dX5_mostBy_79 : decode cX5_mostBy 79 = .ok (.invokevirtual 97, 3) := by decide +kernel
theorem dX5_mostBy_82 : decode cX5_mostBy 82 = .ok (.imul, 1) := by decide +kernel
theorem dX5_mostBy_83 : decode cX5_mostBy 83 = .ok (.iadd, 1) := by decide +kernel
theorem dX5_mostBy_84 : decode cX5_mostBy 84 = .ok (.istore 7, 2) := by decide +kernel
theorem dX5_mostBy_86 : decode cX5_mostBy 86 = .ok (.iload 7, 2) := by decide +kernel
theorem dX5_mostBy_88 : decode cX5_mostBy 88 = .ok (.ireturn, 1) := by decide +kernel
set_option maxRecDepth 20000 in
theorem ggX5_next_X5_mayBeAt : GoodIn wsX5_next wsX5_mayBeAt := goodIn_r _ [6, 7, 8, 9, 10, 11, 12, 13, 14, 15, 16, 60, 61, 62, 63, 64, 65, 66, 67, 68, 69] (by decide +kernel) (by decide +kernel)
set_option maxRecDepth 20000 in
theorem gX5_next_X5_mayBeAt : GoodIn wsX5_next (wsV RX5 82 RX5 yX5_mayBeAt wsX5_mayBeAt) := goodIn_app (goodIn_of _ (by decide +kernel)) ggX5_next_X5_mayBeAt
set_option maxRecDepth 20000 in
theorem ggX5_next_X5_mostBy : GoodIn wsX5_next wsX5_mostBy := goodIn_r _ [20, 21, 22, 23, 24, 25, 14, 26, 27, 28, 29, 30, 31, 32, 33, 34, 35, 36, 37, 38, 39, 40, 41, 42, 43, 44, 45, 46, 47, 48, 49, 50, 5, 51, 52, 53, 54, 55, 56, 57, 58, 1, 59, 2, 3, 4, 6, 7, 8, 9, 10, 11, 12, 13, 15, 16, 17, 18, 19, 60, 61, 62, 63, 64, 65, 66, 67, 68, 69] (by decide +kernel) (by decide +kernel)
set_option maxRecDepth 20000 in
theorem gX5_next_X5_mostBy : GoodIn wsX5_next (wsV RX5 86 RX5 yX5_mostBy wsX5_mostBy) := goodIn_app (goodIn_of _ (by decide +kernel)) ggX5_next_X5_mostBy
theorem dX5_next_0 : decode cX5_next 0 = .ok (.iconst (-1), 1) := by decide +kernel
theorem dX5_next_1 : decode cX5_next 1 = .ok (.istore 4, 2) := by decide +kernel
theorem dX5_next_3 : decode cX5_next 3 = .ok (.iconst (-1), 1) := by decide +kernel
theorem dX5_next_4 : decode cX5_next 4 = .ok (.istore 5, 2) := by decide +kernel
theorem dX5_next_6 : decode cX5_next 6 = .ok (.iconst 0, 1) := by decide +kernel
theorem dX5_next_7 : decode cX5_next 7 = .ok (.istore 6, 2) := by decide +kernel
theorem dX5_next_9 : decode cX5_next 9 = .ok (.iload 6, 2) := by decide +kernel
theorem dX5_next_11 : decode cX5_next 11 = .ok (.aload_n 0, 1) := by decide +kernel
theorem dX5_next_12 : decode cX5_next 12 = .ok (.getfield 27, 3) := by decide +kernel
theorem dX5_next_15 : decode cX5_next 15 = .ok (.if_icmp .ge 58, 3) := by decide +kernel
theorem dX5_next_18 : decode cX5_next 18 = .ok (.iload_n 1, 1) := by decide +kernel
theorem dX5_next_19 : decode cX5_next 19 = .ok (.ifCond .le 54, 3) := by decide +kernel
theorem dX5_next_22 : decode cX5_next 22 = .ok (.aload_n 0, 1) := by decide +kernel
theorem dX5_next_23 : decode cX5_next 23 = .ok (.iload 6, 2) := by decide +kernel
theorem dX5_next_25 : decode cX5_next 25 = .ok (.iload_n 2, 1) := by decide +kernel
theorem dX5_next_26 : decode cX5_next 26 = .ok (.iload_n 3, 1) := by decide +kernel
theorem dX5_next_27 : decode cX5_next 27 = .ok (.invokevirtual 82, 3) := by decide +kernel
theorem dX5_next_30 : decode cX5_next 30 = .ok (.astore 7, 2) := by decide +kernel
theorem dX5_next_32 : decode cX5_next 32 = .ok (.aload 7, 2) := by decide +kernel
theorem dX5_next_34 : decode cX5_next 34 = .ok (.ifnonnull 7, 3) := by decide +kernel
theorem dX5_next_37 : decode cX5_next 37 = .ok (.iconst (-1), 1) := by decide +kernel
theorem dX5_next_38 : decode cX5_next 38 = .ok (.goto 12, 3) := by decide +kernel
theorem dX5_next_41 : decode cX5_next 41 = .ok (.aload_n 0, 1) := by decide +kernel
theorem dX5_next_42 : decode cX5_next 42 = .ok (.aload 7, 2) := by decide +kernel
theorem dX5_next_44 : decode cX5_next 44 = .ok (.iload_n 1, 1) := by decide +kernel
theorem dX5_next_45 : decode cX5_next 45 = .ok (.iload_n 2, 1) := by decide +kernel
theorem dX5_next_46 : decode cX5_next 46 = .ok (.iload_n 3, 1) := by decide +kernel
theorem dX5_next_47 : decode cX5_next 47 = .ok (.invokevirtual 86, 3) := by decide +kernel
theorem dX5_next_50 : decode cX5_next 50 = .ok (.istore 8, 2) := by decide +kernel
theorem dX5_next_52 : decode cX5_next 52 = .ok (.iload 8, 2) := by decide +kernel
theorem dX5_next_54 : decode cX5_next 54 = .ok (.iload 5, 2) := by decide +kernel
theorem dX5_next_56 : decode cX5_next 56 = .ok (.if_icmp .le 11, 3) := by decide +kernel
theorem dX5_next_59 : decode cX5_next 59 = .ok (.iload 8, 2) := by decide +kernel
theorem dX5_next_61 : decode cX5_next 61 = .ok (.istore 5, 2) := by decide +kernel
theorem dX5_next_63 : decode cX5_next 63 = .ok (.iload 6, 2) := by decide +kernel
theorem dX5_next_65 : decode cX5_next 65 = .ok (.istore 4, 2) := by decide +kernel
theorem dX5_next_67 : decode cX5_next 67 = .ok (.iinc 6 1, 3) := by decide +kernel
theorem dX5_next_70 : decode cX5_next 70 = .ok (.goto (-61), 3) := by decide +kernel
theorem dX5_next_73 : decode cX5_next 73 = .ok (.iload 4, 2) := by decide +kernel
theorem dX5_next_75 : decode cX5_next 75 = .ok (.ireturn, 1) := by decide +kernel
set_option maxRecDepth 20000 in
theorem ggX5_least_X5_leastAtOnce : GoodIn wsX5_least wsX5_leastAtOnce := goodIn_r _ [12, 13, 14, 15, 16, 17, 11, 18, 69, 70, 71, 72, 73, 74, 75] (by decide +kernel) (by decide +kernel)
set_option maxRecDepth 20000 in
theorem gX5_least_X5_leastAtOnce : GoodIn wsX5_least (wsV RX5 104 RX5 yX5_leastAtOnce wsX5_leastAtOnce) := goodIn_app (goodIn_of _ (by decide +kernel)) ggX5_least_X5_leastAtOnce
set_option maxRecDepth 20000 in
theorem ggX5_least_X5_mayBeAt : GoodIn wsX5_least wsX5_mayBeAt := goodIn_r _ [22, 23, 24, 25, 26, 27, 28, 29, 30, 31, 32, 69, 70, 71, 72, 73, 74, 75, 76, 77, 78] (by decide +kernel) (by decide +kernel)
set_option maxRecDepth 20000 in
theorem gX5_least_X5_mayBeAt : GoodIn wsX5_least (wsV RX5 82 RX5 yX5_mayBeAt wsX5_mayBeAt) := goodIn_app (goodIn_of _ (by decide +kernel)) ggX5_least_X5_mayBeAt
set_option maxRecDepth 20000 in
theorem ggX5_least_X5_leastBy : GoodIn wsX5_least wsX5_leastBy := goodIn_r _ [36, 37, 38, 39, 13, 14, 40, 41, 42, 30, 43, 44, 45, 5, 6, 7, 46, 47, 48, 49, 50, 51, 52, 53, 54, 55, 56, 57, 58, 59, 60, 61, 62, 63, 64, 11, 65, 66, 67, 68, 0, 1, 2, 3, 4, 8, 9, 10, 12, 15, 16, 17, 18, 19, 20, 21, 22, 23, 24, 25, 26, 27, 28, 29, 31, 32, 33, 34, 35, 69, 70, 71, 72, 73, 74, 75, 76, 77, 78] (by decide +kernel) (by decide +kernel)
set_option maxRecDepth 20000 in
theorem gX5_least_X5_leastBy : GoodIn wsX5_least (wsV RX5 107 RX5 yX5_leastBy wsX5_leastBy) := goodIn_app (goodIn_of _ (by decide +kernel)) ggX5_least_X5_leastBy
theorem dX5_least_0 : decode cX5_least 0 = .ok (.iload_n 1, 1) := by decide +kernel
theorem dX5_least_1 : decode cX5_least 1 = .ok (.ifCond .lt 19, 3) := by decide +kernel
theorem dX5_least_4 : decode cX5_least 4 = .ok (.iload_n 1, 1) := by decide +kernel
theorem dX5_least_5 : decode cX5_least 5 = .ok (.iconst 4, 1) := by decide +kernel
theorem dX5_least_6 : decode cX5_least 6 = .ok (.if_icmp .gt 14, 3) := by decide +kernel
theorem dX5_least_9 : decode cX5_least 9 = .ok (.iload_n 2, 1) := by decide +kernel
theorem dX5_least_10 : decode cX5_least 10 = .ok (.iconst 1, 1) := by decide +kernel
theorem dX5_least_11 : decode cX5_least 11 = .ok (.if_icmp .lt 9, 3) := by decide +kernel
theorem dX5_least_14 : decode cX5_least 14 = .ok (.iload_n 2, 1) := by decide +kernel
theorem dX5_least_15 : decode cX5_least 15 = .ok (.bipush 24, 2) := by decide +kernel
theorem dX5_least_17 : decode cX5_least 17 = .ok (.if_icmp .le 5, 3) := by decide +kernel
theorem dX5_least_20 : decode cX5_least 20 = .ok (.iconst 0, 1) := by decide +kernel
theorem dX5_least_21 : decode cX5_least 21 = .ok (.ireturn, 1) := by decide +kernel
theorem dX5_least_22 : decode cX5_least 22 = .ok (.iload_n 3, 1) := by decide +kernel
theorem dX5_least_23 : decode cX5_least 23 = .ok (.iload_n 1, 1) := by decide +kernel
theorem dX5_least_24 : decode cX5_least 24 = .ok (.aload_n 0, 1) := by decide +kernel
theorem dX5_least_25 : decode cX5_least 25 = .ok (.getfield 34, 3) := by decide +kernel
theorem dX5_least_28 : decode cX5_least 28 = .ok (.imul, 1) := by decide +kernel
theorem dX5_least_29 : decode cX5_least 29 = .ok (.bipush 30, 2) := by decide +kernel
theorem dX5_least_31 : decode cX5_least 31 = .ok (.iadd, 1) := by decide +kernel
theorem dX5_least_32 : decode cX5_least 32 = .ok (.if_icmp .lt 7, 3) := by decide +kernel
theorem dX5_least_35 : decode cX5_least 35 = .ok (.iconst 1, 1) := by decide +kernel
theorem dX5_least_36 : decode cX5_least 36 = .ok (.goto 4, 3) := by decide +kernel
theorem dX5_least_39 : decode cX5_least 39 = .ok (.iconst 0, 1) := by decide +kernel
theorem dX5_least_40 : decode cX5_least 40 = .ok (.istore 4, 2) := by decide +kernel
theorem dX5_least_42 : decode cX5_least 42 = .ok (.iload_n 1, 1) := by decide +kernel
theorem dX5_least_43 : decode cX5_least 43 = .ok (.bipush 25, 2) := by decide +kernel
theorem dX5_least_45 : decode cX5_least 45 = .ok (.imul, 1) := by decide +kernel
theorem dX5_least_46 : decode cX5_least 46 = .ok (.iload_n 2, 1) := by decide +kernel
theorem dX5_least_47 : decode cX5_least 47 = .ok (.iadd, 1) := by decide +kernel
theorem dX5_least_48 : decode cX5_least 48 = .ok (.istore 5, 2) := by decide +kernel
theorem dX5_least_50 : decode cX5_least 50 = .ok (.iload 4, 2) := by decide +kernel
theorem dX5_least_52 : decode cX5_least 52 = .ok (.ifCond .eq 22, 3) := by decide +kernel
theorem dX5_least_55 : decode cX5_least 55 = .ok (.aload_n 0, 1) := by decide +kernel
theorem dX5_least_56 : decode cX5_least 56 = .ok (.getfield 15, 3) := by decide +kernel
theorem dX5_least_59 : decode cX5_least 59 = .ok (.iload 5, 2) := by decide +kernel
theorem dX5_least_61 : decode cX5_least 61 = .ok (.iaload, 1) := by decide +kernel
theorem dX5_least_62 : decode cX5_least 62 = .ok (.iconst (-1), 1) := by decide +kernel
theorem dX5_least_63 : decode cX5_least 63 = .ok (.if_icmp .eq 11, 3) := by decide +kernel
theorem dX5_least_66 : decode cX5_least 66 = .ok (.aload_n 0, 1) := by decide +kernel
theorem dX5_least_67 : decode cX5_least 67 = .ok (.getfield 15, 3) := by decide +kernel
theorem dX5_least_70 : decode cX5_least 70 = .ok (.iload 5, 2) := by decide +kernel
theorem dX5_least_72 : decode cX5_least 72 = .ok (.iaload, 1) := by decide +kernel
theorem dX5_least_73 : decode cX5_least 73 = .ok (.ireturn, 1) := by decide +kernel
theorem dX5_least_74 : decode cX5_least 74 = .ok (.aload_n 0, 1) := by decide +kernel
theorem dX5_least_75 : decode cX5_least 75 = .ok (.iload_n 1, 1) := by decide +kernel
theorem dX5_least_76 : decode cX5_least 76 = .ok (.iload_n 3, 1) := by decide +kernel
theorem dX5_least_77 : decode cX5_least 77 = .ok (.invokevirtual 104, 3) := by decide +kernel
theorem dX5_least_80 : decode cX5_least 80 = .ok (.istore 6, 2) := by decide +kernel
theorem dX5_least_82 : decode cX5_least 82 = .ok (.iconst 0, 1) := by decide +kernel
theorem dX5_least_83 : decode cX5_least 83 = .ok (.istore 7, 2) := by decide +kernel
theorem dX5_least_85 : decode cX5_least 85 = .ok (.iload 7, 2) := by decide +kernel
theorem dX5_least_87 : decode cX5_least 87 = .ok (.aload_n 0, 1) := by decide +kernel
theorem dX5_least_88 : decode cX5_least 88 = .ok (.getfield 27, 3) := by decide +kernel
theorem dX5_least_91 : decode cX5_least 91 = .ok (.if_icmp .ge 44, 3) := by decide +kernel
theorem dX5_least_94 : decode cX5_least 94 = .ok (.iload_n 1, 1) := by decide +kernel
theorem dX5_least_95 : decode cX5_least 95 = .ok (.ifCond .le 40, 3) := by decide +kernel
theorem dX5_least_98 : decode cX5_least 98 = .ok (.aload_n 0, 1) := by decide +kernel
theorem dX5_least_99 : decode cX5_least 99 = .ok (.iload 7, 2) := by decide +kernel
theorem dX5_least_101 : decode cX5_least 101 = .ok (.iload_n 2, 1) := by decide +kernel
theorem dX5_least_102 : decode cX5_least 102 = .ok (.iload_n 3, 1) := by decide +kernel
theorem dX5_least_103 : decode cX5_least 103 = .ok (.invokevirtual 82, 3) := by decide +kernel
theorem dX5_least_106 : decode cX5_least 106 = .ok (.astore 8, 2) := by decide +kernel
theorem dX5_least_108 : decode cX5_least 108 = .ok (.aload 8, 2) := by decide +kernel
theorem dX5_least_110 : decode cX5_least 110 = .ok (.ifnull 19, 3) := by decide +kernel
theorem dX5_least_113 : decode cX5_least 113 = .ok (.iload 6, 2) := by decide +kernel
theorem dX5_least_115 : decode cX5_least 115 = .ok (.aload_n 0, 1) := by decide +kernel
theorem dX5_least_116 : decode cX5_least 116 = .ok (.aload 8, 2) := by decide +kernel
theorem dX5_least_118 : decode cX5_least 118 = .ok (.iload_n 1, 1) := by decide +kernel
theorem dX5_least_119 : decode cX5_least 119 = .ok (.iload_n 2, 1) := by decide +kernel
theorem dX5_least_120 : decode cX5_least 120 = .ok (.iload_n 3, 1) := by decide +kernel
theorem dX5_least_121 : decode cX5_least 121 = .ok (.invokevirtual 107, 3) := by decide +kernel
theorem dX5_least_124 : decode cX5_least 124 = .ok (.invokestatic 110, 3) := by decide +kernel
theorem dX5_least_127 : decode cX5_least 127 = .ok (.istore 6, 2) := by decide +kernel
theorem dX5_least_129 : decode cX5_least 129 = .ok (.iinc 7 1, 3) := by decide +kernel
theorem dX5_least_132 : decode cX5_least 132 = .ok (.goto (-47), 3) := by decide +kernel
theorem dX5_least_135 : decode cX5_least 135 = .ok (.iload 4, 2) := by decide +kernel
theorem dX5_least_137 : decode cX5_least 137 = .ok (.ifCond .eq 12, 3) := by decide +kernel
theorem dX5_least_140 : decode cX5_least 140 = .ok (.aload_n 0, 1) := by decide +kernel
theorem dX5_least_141 : decode cX5_least 141 = .ok (.getfield 15, 3) := by decide +kernel
theorem dX5_least_144 : decode cX5_least 144 = .ok (.iload 5, 2) := by decide +kernel
theorem dX5_least_146 : decode cX5_least 146 = .ok (.iload 6, 2) := by decide +kernel
theorem dX5_least_148 : decode cX5_least 148 = .ok (.iastore, 1) := by decide +kernel
theorem dX5_least_149 : decode cX5_least 149 = .ok (.iload 6, 2) := by decide +kernel
theorem dX5_least_151 : decode cX5_least 151 = .ok (.ireturn, 1) := by decide +kernel
theorem dX5_headIsCheapest_0 : decode cX5_headIsCheapest 0 = .ok (.iload_n 1, 1) := by decide +kernel
theorem dX5_headIsCheapest_1 : decode cX5_headIsCheapest 1 = .ok (.bipush 30, 2) := by decide +kernel
theorem dX5_headIsCheapest_3 : decode cX5_headIsCheapest 3 = .ok (.if_icmp .lt 22, 3) := by decide +kernel
theorem dX5_headIsCheapest_6 : decode cX5_headIsCheapest 6 = .ok (.aload_n 0, 1) := by decide +kernel
theorem dX5_headIsCheapest_7 : decode cX5_headIsCheapest 7 = .ok (.getfield 18, 3) := by decide +kernel
theorem dX5_headIsCheapest_10 : decode cX5_headIsCheapest 10 = .ok (.iconst 1, 1) := by decide +kernel
theorem dX5_headIsCheapest_11 : decode cX5_headIsCheapest 11 = .ok (.iaload, 1) := by decide +kernel
theorem dX5_headIsCheapest_12 : decode cX5_headIsCheapest 12 = .ok (.aload_n 0, 1) := by decide +kernel
theorem dX5_headIsCheapest_13 : decode cX5_headIsCheapest 13 = .ok (.getfield 18, 3) := by decide +kernel
theorem dX5_headIsCheapest_16 : decode cX5_headIsCheapest 16 = .ok (.iconst 2, 1) := by decide +kernel
theorem dX5_headIsCheapest_17 : decode cX5_headIsCheapest 17 = .ok (.iaload, 1) := by decide +kernel
theorem dX5_headIsCheapest_18 : decode cX5_headIsCheapest 18 = .ok (.if_icmp .gt 7, 3) := by decide +kernel
theorem dX5_headIsCheapest_21 : decode cX5_headIsCheapest 21 = .ok (.iconst 1, 1) := by decide +kernel
theorem dX5_headIsCheapest_22 : decode cX5_headIsCheapest 22 = .ok (.goto 4, 3) := by decide +kernel
theorem dX5_headIsCheapest_25 : decode cX5_headIsCheapest 25 = .ok (.iconst 0, 1) := by decide +kernel
theorem dX5_headIsCheapest_26 : decode cX5_headIsCheapest 26 = .ok (.ireturn, 1) := by decide +kernel
set_option maxRecDepth 20000 in
theorem ggX5_leastAtOnce_X5_headIsCheapest : GoodIn wsX5_leastAtOnce wsX5_headIsCheapest := goodIn_r _ [7, 2, 8, 9, 10, 11, 12, 13, 14] (by decide +kernel) (by decide +kernel)
set_option maxRecDepth 20000 in
theorem gX5_leastAtOnce_X5_headIsCheapest : GoodIn wsX5_leastAtOnce (wsV RX5 113 RX5 yX5_headIsCheapest wsX5_headIsCheapest) := goodIn_app (goodIn_of _ (by decide +kernel)) ggX5_leastAtOnce_X5_headIsCheapest
theorem dX5_leastAtOnce_0 : decode cX5_leastAtOnce 0 = .ok (.getstatic 79, 3) := by decide +kernel
theorem dX5_leastAtOnce_3 : decode cX5_leastAtOnce 3 = .ok (.iload_n 1, 1) := by decide +kernel
theorem dX5_leastAtOnce_4 : decode cX5_leastAtOnce 4 = .ok (.iaload, 1) := by decide +kernel
theorem dX5_leastAtOnce_5 : decode cX5_leastAtOnce 5 = .ok (.aload_n 0, 1) := by decide +kernel
theorem dX5_leastAtOnce_6 : decode cX5_leastAtOnce 6 = .ok (.getfield 18, 3) := by decide +kernel
theorem dX5_leastAtOnce_9 : decode cX5_leastAtOnce 9 = .ok (.aload_n 0, 1) := by decide +kernel
theorem dX5_leastAtOnce_10 : decode cX5_leastAtOnce 10 = .ok (.iload_n 2, 1) := by decide +kernel
theorem dX5_leastAtOnce_11 : decode cX5_leastAtOnce 11 = .ok (.invokevirtual 113, 3) := by decide +kernel
theorem dX5_leastAtOnce_14 : decode cX5_leastAtOnce 14 = .ok (.ifCond .eq 7, 3) := by decide +kernel
theorem dX5_leastAtOnce_17 : decode cX5_leastAtOnce 17 = .ok (.iconst 1, 1) := by decide +kernel
theorem dX5_leastAtOnce_18 : decode cX5_leastAtOnce 18 = .ok (.goto 4, 3) := by decide +kernel
theorem dX5_leastAtOnce_21 : decode cX5_leastAtOnce 21 = .ok (.iconst 2, 1) := by decide +kernel
theorem dX5_leastAtOnce_22 : decode cX5_leastAtOnce 22 = .ok (.iaload, 1) := by decide +kernel
theorem dX5_leastAtOnce_23 : decode cX5_leastAtOnce 23 = .ok (.imul, 1) := by decide +kernel
theorem dX5_leastAtOnce_24 : decode cX5_leastAtOnce 24 = .ok (.ireturn, 1) := by decide +kernel
set_option maxRecDepth 20000 in
theorem ggX5_leastBy_X2_waysAt : GoodIn wsX5_leastBy wsX2_waysAt := goodIn_r _ [10, 11, 12, 13, 14, 15, 16, 17, 18, 19, 20, 21, 9, 22, 23, 76, 77, 78] (by decide +kernel) (by decide +kernel)
set_option maxRecDepth 20000 in
theorem gX5_leastBy_X2_waysAt : GoodIn wsX5_leastBy (wsV RX5 90 RX2 yX2_waysAt wsX2_waysAt) := goodIn_app (goodIn_of _ (by decide +kernel)) ggX5_leastBy_X2_waysAt
set_option maxRecDepth 20000 in
theorem ggX5_leastBy_X2_shallower : GoodIn wsX5_leastBy wsX2_shallower := goodIn_r _ [27, 16, 17, 14, 18, 28, 29, 30, 9, 31, 11, 23, 76, 77, 78] (by decide +kernel) (by decide +kernel)
set_option maxRecDepth 20000 in
theorem gX5_leastBy_X2_shallower : GoodIn wsX5_leastBy (wsV RX5 93 RX2 yX2_shallower wsX2_shallower) := goodIn_app (goodIn_of _ (by decide +kernel)) ggX5_leastBy_X2_shallower
set_option maxRecDepth 20000 in
theorem ggX5_leastBy_X5_least : GoodIn wsX5_leastBy wsX5_least := goodIn_r _ [40, 41, 42, 43, 44, 13, 14, 15, 45, 46, 47, 35, 48, 4, 5, 49, 50, 51, 52, 53, 54, 55, 56, 57, 58, 59, 60, 61, 62, 63, 9, 64, 65, 66, 67, 68, 0, 1, 2, 3, 6, 7, 8, 10, 11, 12, 16, 17, 18, 19, 20, 21, 22, 23, 24, 25, 26, 27, 28, 29, 30, 31, 32, 33, 34, 36, 37, 38, 39, 69, 70, 71, 72, 73, 74, 75, 76, 77, 78] (by decide +kernel) (by decide +kernel)
set_option maxRecDepth 20000 in
theorem gX5_leastBy_X5_least : GoodIn wsX5_leastBy (wsV RX5 117 RX5 yX5_least wsX5_least) := goodIn_app (goodIn_of _ (by decide +kernel)) ggX5_leastBy_X5_least
set_option maxRecDepth 20000 in
theorem ggX5_leastBy_X2_deeper : GoodIn wsX5_leastBy wsX2_deeper := goodIn_r _ [39, 11, 23, 12, 13, 14, 15, 76, 77, 78] (by decide +kernel) (by decide +kernel)
set_option maxRecDepth 20000 in
theorem gX5_leastBy_X2_deeper : GoodIn wsX5_leastBy (wsV RX5 101 RX2 yX2_deeper wsX2_deeper) := goodIn_app (goodIn_of _ (by decide +kernel)) ggX5_leastBy_X2_deeper
theorem dX5_leastBy_0 : decode cX5_leastBy 0 = .ok (.aload_n 1, 1) := by decide +kernel
theorem dX5_leastBy_1 : decode cX5_leastBy 1 = .ok (.iload_n 3, 1) := by decide +kernel
theorem dX5_leastBy_2 : decode cX5_leastBy 2 = .ok (.aload_n 0, 1) := by decide +kernel
theorem dX5_leastBy_3 : decode cX5_leastBy 3 = .ok (.getfield 31, 3) := by decide +kernel
theorem dX5_leastBy_6 : decode cX5_leastBy 6 = .ok (.invokevirtual 90, 3) := by decide +kernel
theorem dX5_leastBy_9 : decode cX5_leastBy 9 = .ok (.istore 5, 2) := by decide +kernel
theorem dX5_leastBy_11 : decode cX5_leastBy 11 = .ok (.iload 4, 2) := by decide +kernel
theorem dX5_leastBy_13 : decode cX5_leastBy 13 = .ok (.aload_n 1, 1) := by decide +kernel
theorem dX5_leastBy_14 : decode cX5_leastBy 14 = .ok (.getfield 49, 3) := by decide +kernel
theorem dX5_leastBy_17 : decode cX5_leastBy 17 = .ok (.isub, 1) := by decide +kernel
theorem dX5_leastBy_18 : decode cX5_leastBy 18 = .ok (.istore 6, 2) := by decide +kernel
theorem dX5_leastBy_20 : decode cX5_leastBy 20 = .ok (.aload_n 1, 1) := by decide +kernel
theorem dX5_leastBy_21 : decode cX5_leastBy 21 = .ok (.getfield 46, 3) := by decide +kernel
theorem dX5_leastBy_24 : decode cX5_leastBy 24 = .ok (.iconst 5, 1) := by decide +kernel
theorem dX5_leastBy_25 : decode cX5_leastBy 25 = .ok (.if_icmp .ne 18, 3) := by decide +kernel
theorem dX5_leastBy_28 : decode cX5_leastBy 28 = .ok (.getstatic 79, 3) := by decide +kernel
theorem dX5_leastBy_31 : decode cX5_leastBy 31 = .ok (.iload_n 2, 1) := by decide +kernel
theorem dX5_leastBy_32 : decode cX5_leastBy 32 = .ok (.iaload, 1) := by decide +kernel
theorem dX5_leastBy_33 : decode cX5_leastBy 33 = .ok (.aload_n 0, 1) := by decide +kernel
theorem dX5_leastBy_34 : decode cX5_leastBy 34 = .ok (.getfield 18, 3) := by decide +kernel
theorem dX5_leastBy_37 : decode cX5_leastBy 37 = .ok (.iconst 0, 1) := by decide +kernel
theorem dX5_leastBy_38 : decode cX5_leastBy 38 = .ok (.iaload, 1) := by decide +kernel
theorem dX5_leastBy_39 : decode cX5_leastBy 39 = .ok (.imul, 1) := by decide +kernel
theorem dX5_leastBy_40 : decode cX5_leastBy 40 = .ok (.goto 4, 3) := by decide +kernel
theorem dX5_leastBy_43 : decode cX5_leastBy 43 = .ok (.iconst 0, 1) := by decide +kernel
theorem dX5_leastBy_44 : decode cX5_leastBy 44 = .ok (.istore 7, 2) := by decide +kernel
theorem dX5_leastBy_46 : decode cX5_leastBy 46 = .ok (.iload 5, 2) := by decide +kernel
theorem dX5_leastBy_48 : decode cX5_leastBy 48 = .ok (.ifCond .le 25, 3) := by decide +kernel
theorem dX5_leastBy_51 : decode cX5_leastBy 51 = .ok (.iload 7, 2) := by decide +kernel
theorem dX5_leastBy_53 : decode cX5_leastBy 53 = .ok (.iload 5, 2) := by decide +kernel
theorem dX5_leastBy_55 : decode cX5_leastBy 55 = .ok (.aload_n 0, 1) := by decide +kernel
theorem dX5_leastBy_56 : decode cX5_leastBy 56 = .ok (.iload_n 2, 1) := by decide +kernel
theorem dX5_leastBy_57 : decode cX5_leastBy 57 = .ok (.iconst 1, 1) := by decide +kernel
theorem dX5_leastBy_58 : decode cX5_leastBy 58 = .ok (.isub, 1) := by decide +kernel
theorem dX5_leastBy_59 : decode cX5_leastBy 59 = .ok (.aload_n 1, 1) := by decide +kernel
theorem dX5_leastBy_60 : decode cX5_leastBy 60 = .ok (.iload_n 3, 1) := by decide +kernel
theorem dX5_leastBy_61 : decode cX5_leastBy 61 = .ok (.invokevirtual 93, 3) := by decide +kernel
theorem dX5_leastBy_64 : decode cX5_leastBy 64 = .ok (.iload 6, 2) := by decide +kernel
theorem dX5_leastBy_66 : decode cX5_leastBy 66 = .ok (.invokevirtual 117, 3) := by decide +kernel
theorem dX5_leastBy_69 : decode cX5_leastBy 69 = .ok (.imul, 1) := by decide +kernel
theorem dX5_leastBy_70 : decode cX5_leastBy 70 = .ok (.iadd, 1) := by decide +kernel
theorem dX5_leastBy_71 : decode cX5_leastBy 71 = .ok (.istore 7, 2) := by decide +kernel
theorem dX5_leastBy_73 : decode cX5_leastBy 73 = .ok (.iload 5, 2) := by decide +kernel
theorem dX5_leastBy_75 : decode cX5_leastBy 75 = .ok (.bipush 12, 2) := by decide +kernel
theorem dX5_leastBy_77 : decode cX5_leastBy 77 = .ok (.if_icmp .ge 32, 3) := by decide +kernel
theorem dX5_leastBy_80 : decode cX5_leastBy 80 = .ok (.iload 7, 2) := by decide +kernel
theorem dX5_leastBy_82 : decode cX5_leastBy 82 = .ok (.bipush 12, 2) := by decide +kernel
theorem dX5_leastBy_84 : decode cX5_leastBy 84 = .ok (.iload 5, 2) := by decide +kernel
theorem dX5_leastBy_86 : decode cX5_leastBy 86 = .ok (.isub, 1) := by decide +kernel
theorem dX5_leastBy_87 : decode cX5_leastBy 87 = .ok (.aload_n 0, 1) := by decide +kernel
theorem dX5_leastBy_88 : decode cX5_leastBy 88 = .ok (.iload_n 2, 1) := by decide +kernel
theorem dX5_leastBy_89 : decode cX5_leastBy 89 = .ok (.iconst 1, 1) := by decide +kernel
theorem dX5_leastBy_90 : decode cX5_leastBy 90 = .ok (.isub, 1) := by decide +kernel
theorem dX5_leastBy_91 : decode cX5_leastBy 91 = .ok (.aload_n 1, 1) := by decide +kernel
theorem dX5_leastBy_92 : decode cX5_leastBy 92 = .ok (.iload_n 3, 1) := by decide +kernel
theorem dX5_leastBy_93 : decode cX5_leastBy 93 = .ok (.aload_n 0, 1) := by decide +kernel
theorem dX5_leastBy_94 : decode cX5_leastBy 94 = .ok (.getfield 31, 3) := by decide +kernel
theorem dX5_leastBy_97 : decode cX5_leastBy 97 = .ok (.invokevirtual 101, 3) := by decide +kernel
theorem dX5_leastBy_100 : decode cX5_leastBy 100 = .ok (.iload 6, 2) := by decide +kernel
theorem dX5_leastBy_102 : decode cX5_leastBy 102 = .ok (.invokevirtual 117, 3) := by decide +kernel
theorem dX5_leastBy_105 : decode cX5_leastBy 105 = .ok (.imul, 1) := by decide +kernel
theorem dX5_leastBy_106 : decode cX5_leastBy 106 = .ok (.iadd, 1) := by decide +kernel
theorem dX5_leastBy_107 : decode cX5_leastBy 107 = .ok (.istore 7, 2) := by decide +kernel
theorem dX5_leastBy_109 : decode cX5_leastBy 109 = .ok (.iload 7, 2) := by decide +kernel
theorem dX5_leastBy_111 : decode cX5_leastBy 111 = .ok (.ireturn, 1) := by decide +kernel
set_option maxRecDepth 20000 in
theorem ggX5_first_X5_least : GoodIn wsX5_first wsX5_least := goodIn_r _ [6, 7, 8, 1, 9, 10, 11, 12, 13, 14, 15, 5, 16, 17, 18, 19, 20, 21, 22, 23, 24, 25, 26, 27, 28, 29, 30, 31, 32, 33, 34, 35, 36, 37, 38, 39, 40, 41, 42, 43, 44, 45, 46, 47, 48, 49, 50, 51, 52, 53, 54, 55, 56, 57, 58, 59, 60, 61, 62, 63, 64, 65, 2, 3, 4, 66, 67, 68, 69, 70, 71, 72, 73, 74, 75, 76, 77, 78, 79] (by decide +kernel) (by decide +kernel)
set_option maxRecDepth 20000 in
theorem gX5_first_X5_least : GoodIn wsX5_first (wsV RX5 117 RX5 yX5_least wsX5_least) := goodIn_app (goodIn_of _ (by decide +kernel)) ggX5_first_X5_least
set_option maxRecDepth 20000 in
theorem ggX5_first_X5_mayBeAt : GoodIn wsX5_first wsX5_mayBeAt := goodIn_r _ [26, 27, 28, 29, 30, 31, 32, 33, 34, 35, 36, 70, 71, 72, 73, 74, 75, 76, 77, 78, 79] (by decide +kernel) (by decide +kernel)
set_option maxRecDepth 20000 in
theorem gX5_first_X5_mayBeAt : GoodIn wsX5_first (wsV RX5 82 RX5 yX5_mayBeAt wsX5_mayBeAt) := goodIn_app (goodIn_of _ (by decide +kernel)) ggX5_first_X5_mayBeAt
set_option maxRecDepth 20000 in
theorem ggX5_first_X5_leastBy : GoodIn wsX5_first wsX5_leastBy := goodIn_r _ [40, 41, 42, 43, 17, 18, 44, 45, 46, 34, 47, 48, 49, 10, 11, 12, 50, 51, 52, 53, 54, 55, 56, 57, 58, 59, 60, 61, 62, 63, 64, 65, 2, 3, 4, 5, 66, 67, 68, 69, 6, 7, 8, 1, 9, 13, 14, 15, 16, 19, 20, 21, 22, 23, 24, 25, 26, 27, 28, 29, 30, 31, 32, 33, 35, 36, 37, 38, 39, 70, 71, 72, 73, 74, 75, 76, 77, 78, 79] (by decide +kernel) (by decide +kernel)
set_option maxRecDepth 20000 in
theorem gX5_first_X5_leastBy : GoodIn wsX5_first (wsV RX5 107 RX5 yX5_leastBy wsX5_leastBy) := goodIn_app (goodIn_of _ (by decide +kernel)) ggX5_first_X5_leastBy
set_option maxRecDepth 20000 in
theorem ggX5_first_X5_headIsCheapest : GoodIn wsX5_first wsX5_headIsCheapest := goodIn_r _ [22, 18, 70, 71, 72, 73, 74, 75, 76] (by decide +kernel) (by decide +kernel)
set_option maxRecDepth 20000 in
theorem gX5_first_X5_headIsCheapest : GoodIn wsX5_first (wsV RX5 113 RX5 yX5_headIsCheapest wsX5_headIsCheapest) := goodIn_app (goodIn_of _ (by decide +kernel)) ggX5_first_X5_headIsCheapest
theorem dX5_first_0 : decode cX5_first 0 = .ok (.iload_n 2, 1) := by decide +kernel
theorem dX5_first_1 : decode cX5_first 1 = .ok (.ifCond .ne 5, 3) := by decide +kernel
theorem dX5_first_4 : decode cX5_first 4 = .ok (.iconst (-1), 1) := by decide +kernel
theorem dX5_first_5 : decode cX5_first 5 = .ok (.ireturn, 1) := by decide +kernel
theorem dX5_first_6 : decode cX5_first 6 = .ok (.aload_n 0, 1) := by decide +kernel
theorem dX5_first_7 : decode cX5_first 7 = .ok (.iload_n 1, 1) := by decide +kernel
theorem dX5_first_8 : decode cX5_first 8 = .ok (.iload_n 2, 1) := by decide +kernel
theorem dX5_first_9 : decode cX5_first 9 = .ok (.iload_n 3, 1) := by decide +kernel
theorem dX5_first_10 : decode cX5_first 10 = .ok (.invokevirtual 117, 3) := by decide +kernel
theorem dX5_first_13 : decode cX5_first 13 = .ok (.istore 4, 2) := by decide +kernel
theorem dX5_first_15 : decode cX5_first 15 = .ok (.iconst 0, 1) := by decide +kernel
theorem dX5_first_16 : decode cX5_first 16 = .ok (.istore 5, 2) := by decide +kernel
theorem dX5_first_18 : decode cX5_first 18 = .ok (.iload 5, 2) := by decide +kernel
theorem dX5_first_20 : decode cX5_first 20 = .ok (.aload_n 0, 1) := by decide +kernel
theorem dX5_first_21 : decode cX5_first 21 = .ok (.getfield 27, 3) := by decide +kernel
theorem dX5_first_24 : decode cX5_first 24 = .ok (.if_icmp .ge 45, 3) := by decide +kernel
