theorem dX7_slack_21 : decode cX7_slack 21 = .ok (.iconst 0, 1) := by decide +kernel
theorem dX7_slack_22 : decode cX7_slack 22 = .ok (.bipush 9, 2) := by decide +kernel
theorem dX7_slack_24 : decode cX7_slack 24 = .ok (.invokestatic 67, 3) := by decide +kernel
theorem dX7_slack_27 : decode cX7_slack 27 = .ok (.ifCond .ne 10, 3) := by decide +kernel
theorem dX7_slack_30 : decode cX7_slack 30 = .ok (.aload_n 0, 1) := by decide +kernel
theorem dX7_slack_31 : decode cX7_slack 31 = .ok (.bipush 6, 2) := by decide +kernel
theorem dX7_slack_33 : decode cX7_slack 33 = .ok (.invokevirtual 63, 3) := by decide +kernel
theorem dX7_slack_36 : decode cX7_slack 36 = .ok (.ireturn, 1) := by decide +kernel
theorem dX7_slack_37 : decode cX7_slack 37 = .ok (.aload_n 0, 1) := by decide +kernel
theorem dX7_slack_38 : decode cX7_slack 38 = .ok (.getfield 18, 3) := by decide +kernel
theorem dX7_slack_41 : decode cX7_slack 41 = .ok (.getfield 140, 3) := by decide +kernel
theorem dX7_slack_44 : decode cX7_slack 44 = .ok (.getfield 160, 3) := by decide +kernel
theorem dX7_slack_47 : decode cX7_slack 47 = .ok (.iload_n 1, 1) := by decide +kernel
theorem dX7_slack_48 : decode cX7_slack 48 = .ok (.iaload, 1) := by decide +kernel
theorem dX7_slack_49 : decode cX7_slack 49 = .ok (.istore_n 3, 1) := by decide +kernel
theorem dX7_slack_50 : decode cX7_slack 50 = .ok (.aload_n 0, 1) := by decide +kernel
theorem dX7_slack_51 : decode cX7_slack 51 = .ok (.getfield 18, 3) := by decide +kernel
theorem dX7_slack_54 : decode cX7_slack 54 = .ok (.getfield 140, 3) := by decide +kernel
theorem dX7_slack_57 : decode cX7_slack 57 = .ok (.getfield 160, 3) := by decide +kernel
theorem dX7_slack_60 : decode cX7_slack 60 = .ok (.iload_n 1, 1) := by decide +kernel
theorem dX7_slack_61 : decode cX7_slack 61 = .ok (.iload_n 2, 1) := by decide +kernel
theorem dX7_slack_62 : decode cX7_slack 62 = .ok (.iastore, 1) := by decide +kernel
theorem dX7_slack_63 : decode cX7_slack 63 = .ok (.iload_n 3, 1) := by decide +kernel
theorem dX7_slack_64 : decode cX7_slack 64 = .ok (.ireturn, 1) := by decide +kernel
set_option maxRecDepth 20000 in
theorem ggX7_ask_X7_within : GoodIn wsX7_ask wsX7_within := goodIn_r _ [5] (by decide +kernel) (by decide +kernel)
set_option maxRecDepth 20000 in
theorem gX7_ask_X7_within : GoodIn wsX7_ask (va_wsS RX7 67 yX7_within wsX7_within) := goodIn_app (goodIn_of _ (by decide +kernel)) ggX7_ask_X7_within
set_option maxRecDepth 20000 in
theorem ggX7_ask_X0_leastOf : GoodIn wsX7_ask wsX0_leastOf := goodIn_r _ [9] (by decide +kernel) (by decide +kernel)
set_option maxRecDepth 20000 in
theorem gX7_ask_X0_leastOf : GoodIn wsX7_ask (va_wsS RX7 163 yX0_leastOf wsX0_leastOf) := goodIn_app (goodIn_of _ (by decide +kernel)) ggX7_ask_X0_leastOf
set_option maxRecDepth 20000 in
theorem ggX7_ask_X0_mostOf : GoodIn wsX7_ask wsX0_mostOf := goodIn_r _ [13, 14, 15, 44, 45, 46, 47, 48, 49, 50, 51, 52, 53, 54, 55, 56, 57] (by decide +kernel) (by decide +kernel)
set_option maxRecDepth 20000 in
theorem gX7_ask_X0_mostOf : GoodIn wsX7_ask (wsV RX7 166 RX0 yX0_mostOf wsX0_mostOf) := goodIn_app (goodIn_of _ (by decide +kernel)) ggX7_ask_X0_mostOf
set_option maxRecDepth 20000 in
theorem ggX7_ask_X7_refuse : GoodIn wsX7_ask wsX7_refuse := goodIn_r _ [19, 20, 2, 3, 4, 5, 35, 36, 37, 38, 39, 40, 41, 42, 43] (by decide +kernel) (by decide +kernel)
set_option maxRecDepth 20000 in
theorem gX7_ask_X7_refuse : GoodIn wsX7_ask (wsV RX7 63 RX7 yX7_refuse wsX7_refuse) := goodIn_app (goodIn_of _ (by decide +kernel)) ggX7_ask_X7_refuse
set_option maxRecDepth 20000 in
theorem ggX7_ask_X0_number : GoodIn wsX7_ask wsX0_number := goodIn_r _ [24, 25, 26, 27, 14, 28, 29, 30, 3, 4, 5, 44, 45, 46, 47, 48, 49, 50, 51, 52, 53, 54, 55, 56, 57] (by decide +kernel) (by decide +kernel)
set_option maxRecDepth 20000 in
theorem gX7_ask_X0_number : GoodIn wsX7_ask (wsV RX7 169 RX0 yX0_number wsX0_number) := goodIn_app (goodIn_of _ (by decide +kernel)) ggX7_ask_X0_number
set_option maxRecDepth 20000 in
theorem ggX7_ask_X0_setNumber : GoodIn wsX7_ask wsX0_setNumber := goodIn_r _ [34, 25, 26, 27, 14, 28, 29, 30, 3, 4, 5, 44, 45, 46, 47, 48, 49, 50, 51, 52, 53, 54, 55, 56, 57] (by decide +kernel) (by decide +kernel)
set_option maxRecDepth 20000 in
theorem gX7_ask_X0_setNumber : GoodIn wsX7_ask (wsV RX7 172 RX0 yX0_setNumber wsX0_setNumber) := goodIn_app (goodIn_of _ (by decide +kernel)) ggX7_ask_X0_setNumber
theorem dX7_ask_0 : decode cX7_ask 0 = .ok (.iload_n 1, 1) := by decide +kernel
theorem dX7_ask_1 : decode cX7_ask 1 = .ok (.iconst 0, 1) := by decide +kernel
theorem dX7_ask_2 : decode cX7_ask 2 = .ok (.bipush 7, 2) := by decide +kernel
theorem dX7_ask_4 : decode cX7_ask 4 = .ok (.invokestatic 67, 3) := by decide +kernel
theorem dX7_ask_7 : decode cX7_ask 7 = .ok (.ifCond .eq 22, 3) := by decide +kernel
theorem dX7_ask_10 : decode cX7_ask 10 = .ok (.iload_n 2, 1) := by decide +kernel
theorem dX7_ask_11 : decode cX7_ask 11 = .ok (.iload_n 1, 1) := by decide +kernel
theorem dX7_ask_12 : decode cX7_ask 12 = .ok (.invokestatic 163, 3) := by decide +kernel
theorem dX7_ask_15 : decode cX7_ask 15 = .ok (.aload_n 0, 1) := by decide +kernel
theorem dX7_ask_16 : decode cX7_ask 16 = .ok (.getfield 18, 3) := by decide +kernel
theorem dX7_ask_19 : decode cX7_ask 19 = .ok (.iload_n 1, 1) := by decide +kernel
theorem dX7_ask_20 : decode cX7_ask 20 = .ok (.invokevirtual 166, 3) := by decide +kernel
theorem dX7_ask_23 : decode cX7_ask 23 = .ok (.invokestatic 67, 3) := by decide +kernel
theorem dX7_ask_26 : decode cX7_ask 26 = .ok (.ifCond .ne 10, 3) := by decide +kernel
theorem dX7_ask_29 : decode cX7_ask 29 = .ok (.aload_n 0, 1) := by decide +kernel
theorem dX7_ask_30 : decode cX7_ask 30 = .ok (.bipush 6, 2) := by decide +kernel
theorem dX7_ask_32 : decode cX7_ask 32 = .ok (.invokevirtual 63, 3) := by decide +kernel
theorem dX7_ask_35 : decode cX7_ask 35 = .ok (.ireturn, 1) := by decide +kernel
theorem dX7_ask_36 : decode cX7_ask 36 = .ok (.aload_n 0, 1) := by decide +kernel
theorem dX7_ask_37 : decode cX7_ask 37 = .ok (.getfield 18, 3) := by decide +kernel
theorem dX7_ask_40 : decode cX7_ask 40 = .ok (.iload_n 1, 1) := by decide +kernel
theorem dX7_ask_41 : decode cX7_ask 41 = .ok (.invokevirtual 169, 3) := by decide +kernel
theorem dX7_ask_44 : decode cX7_ask 44 = .ok (.istore_n 3, 1) := by decide +kernel
theorem dX7_ask_45 : decode cX7_ask 45 = .ok (.aload_n 0, 1) := by decide +kernel
theorem dX7_ask_46 : decode cX7_ask 46 = .ok (.getfield 18, 3) := by decide +kernel
theorem dX7_ask_49 : decode cX7_ask 49 = .ok (.iload_n 1, 1) := by decide +kernel
theorem dX7_ask_50 : decode cX7_ask 50 = .ok (.iload_n 2, 1) := by decide +kernel
theorem dX7_ask_51 : decode cX7_ask 51 = .ok (.invokevirtual 172, 3) := by decide +kernel
theorem dX7_ask_54 : decode cX7_ask 54 = .ok (.iload_n 3, 1) := by decide +kernel
theorem dX7_ask_55 : decode cX7_ask 55 = .ok (.ireturn, 1) := by decide +kernel
set_option maxRecDepth 20000 in
theorem ggX7_jacket_X7_shelfAt : GoodIn wsX7_jacket wsX7_shelfAt := goodIn_r _ [12, 13, 14, 15, 11, 16, 208, 209, 210, 211, 212, 213, 214, 215, 216] (by decide +kernel) (by decide +kernel)
set_option maxRecDepth 20000 in
theorem gX7_jacket_X7_shelfAt : GoodIn wsX7_jacket (wsV RX7 59 RX7 yX7_shelfAt wsX7_shelfAt) := goodIn_app (goodIn_of _ (by decide +kernel)) ggX7_jacket_X7_shelfAt
set_option maxRecDepth 20000 in
theorem ggX7_jacket_X7_refuse : GoodIn wsX7_jacket wsX7_refuse := goodIn_r _ [20, 21, 14, 15, 11, 16, 208, 209, 210, 211, 212, 213, 214, 215, 216] (by decide +kernel) (by decide +kernel)
set_option maxRecDepth 20000 in
theorem gX7_jacket_X7_refuse : GoodIn wsX7_jacket (wsV RX7 63 RX7 yX7_refuse wsX7_refuse) := goodIn_app (goodIn_of _ (by decide +kernel)) ggX7_jacket_X7_refuse
set_option maxRecDepth 20000 in
theorem ggX7_jacket_X4_noRow : GoodIn wsX7_jacket wsX4_noRow := goodIn_r _ [26, 27, 239, 240, 241] (by decide +kernel) (by decide +kernel)
set_option maxRecDepth 20000 in
theorem gX7_jacket_X4_noRow : GoodIn wsX7_jacket (wsV RX7 75 RX4 yX4_noRow wsX4_noRow) := goodIn_app (goodIn_of _ (by decide +kernel)) ggX7_jacket_X4_noRow
theorem dX7_jacket_0 : decode cX7_jacket 0 = .ok (.aload_n 0, 1) := by decide +kernel
theorem dX7_jacket_1 : decode cX7_jacket 1 = .ok (.iload_n 1, 1) := by decide +kernel
theorem dX7_jacket_2 : decode cX7_jacket 2 = .ok (.invokevirtual 59, 3) := by decide +kernel
theorem dX7_jacket_5 : decode cX7_jacket 5 = .ok (.astore_n 2, 1) := by decide +kernel
theorem dX7_jacket_6 : decode cX7_jacket 6 = .ok (.aload_n 2, 1) := by decide +kernel
theorem dX7_jacket_7 : decode cX7_jacket 7 = .ok (.ifnonnull 9, 3) := by decide +kernel
theorem dX7_jacket_10 : decode cX7_jacket 10 = .ok (.aload_n 0, 1) := by decide +kernel
theorem dX7_jacket_11 : decode cX7_jacket 11 = .ok (.iconst 1, 1) := by decide +kernel
theorem dX7_jacket_12 : decode cX7_jacket 12 = .ok (.invokevirtual 63, 3) := by decide +kernel
theorem dX7_jacket_15 : decode cX7_jacket 15 = .ok (.ireturn, 1) := by decide +kernel
theorem dX7_jacket_16 : decode cX7_jacket 16 = .ok (.aload_n 2, 1) := by decide +kernel
theorem dX7_jacket_17 : decode cX7_jacket 17 = .ok (.invokevirtual 75, 3) := by decide +kernel
theorem dX7_jacket_20 : decode cX7_jacket 20 = .ok (.istore_n 3, 1) := by decide +kernel
theorem dX7_jacket_21 : decode cX7_jacket 21 = .ok (.iload_n 3, 1) := by decide +kernel
theorem dX7_jacket_22 : decode cX7_jacket 22 = .ok (.ifCond .eq 9, 3) := by decide +kernel
theorem dX7_jacket_25 : decode cX7_jacket 25 = .ok (.aload_n 0, 1) := by decide +kernel
theorem dX7_jacket_26 : decode cX7_jacket 26 = .ok (.iload_n 3, 1) := by decide +kernel
theorem dX7_jacket_27 : decode cX7_jacket 27 = .ok (.invokevirtual 63, 3) := by decide +kernel
theorem dX7_jacket_30 : decode cX7_jacket 30 = .ok (.ireturn, 1) := by decide +kernel
theorem dX7_fault_0 : decode cX7_fault 0 = .ok (.aload_n 0, 1) := by decide +kernel
theorem dX7_fault_1 : decode cX7_fault 1 = .ok (.getfield 54, 3) := by decide +kernel
theorem dX7_fault_4 : decode cX7_fault 4 = .ok (.ireturn, 1) := by decide +kernel
set_option maxRecDepth 20000 in
theorem ggX7_frees_X0_pullAt : GoodIn wsX7_frees wsX0_pullAt := goodIn_r _ [7, 8, 9, 10, 11, 12, 58, 59, 60, 61, 62, 63, 64, 65, 66] (by decide +kernel) (by decide +kernel)
set_option maxRecDepth 20000 in
theorem gX7_frees_X0_pullAt : GoodIn wsX7_frees (wsV RX7 100 RX0 yX0_pullAt wsX0_pullAt) := goodIn_app (goodIn_of _ (by decide +kernel)) ggX7_frees_X0_pullAt
set_option maxRecDepth 20000 in
theorem ggX7_frees_X7_refuse : GoodIn wsX7_frees wsX7_refuse := goodIn_r _ [16, 17, 18, 10, 11, 12, 49, 50, 51, 52, 53, 54, 55, 56, 57] (by decide +kernel) (by decide +kernel)
set_option maxRecDepth 20000 in
theorem gX7_frees_X7_refuse : GoodIn wsX7_frees (wsV RX7 63 RX7 yX7_refuse wsX7_refuse) := goodIn_app (goodIn_of _ (by decide +kernel)) ggX7_frees_X7_refuse
theorem dX7_frees_0 : decode cX7_frees 0 = .ok (.aload_n 0, 1) := by decide +kernel
theorem dX7_frees_1 : decode cX7_frees 1 = .ok (.getfield 18, 3) := by decide +kernel
theorem dX7_frees_4 : decode cX7_frees 4 = .ok (.iload_n 1, 1) := by decide +kernel
theorem dX7_frees_5 : decode cX7_frees 5 = .ok (.invokevirtual 100, 3) := by decide +kernel
theorem dX7_frees_8 : decode cX7_frees 8 = .ok (.astore 4, 2) := by decide +kernel
theorem dX7_frees_10 : decode cX7_frees 10 = .ok (.aload 4, 2) := by decide +kernel
theorem dX7_frees_12 : decode cX7_frees 12 = .ok (.ifnonnull 9, 3) := by decide +kernel
theorem dX7_frees_15 : decode cX7_frees 15 = .ok (.aload_n 0, 1) := by decide +kernel
theorem dX7_frees_16 : decode cX7_frees 16 = .ok (.iconst 1, 1) := by decide +kernel
theorem dX7_frees_17 : decode cX7_frees 17 = .ok (.invokevirtual 63, 3) := by decide +kernel
theorem dX7_frees_20 : decode cX7_frees 20 = .ok (.ireturn, 1) := by decide +kernel
set_option maxRecDepth 20000 in
theorem ggX7_cases_X7_within : GoodIn wsX7_cases wsX7_within := goodIn_r _ [9] (by decide +kernel) (by decide +kernel)
set_option maxRecDepth 20000 in
theorem gX7_cases_X7_within : GoodIn wsX7_cases (va_wsS RX7 67 yX7_within wsX7_within) := goodIn_app (goodIn_of _ (by decide +kernel)) ggX7_cases_X7_within
set_option maxRecDepth 20000 in
theorem ggX7_cases_X7_refuseLower : GoodIn wsX7_cases wsX7_refuseLower := goodIn_r _ [13, 14, 15, 16, 8, 17, 18, 6, 7, 9, 103, 104, 105, 106, 107, 108, 109, 110, 111] (by decide +kernel) (by decide +kernel)
set_option maxRecDepth 20000 in
theorem gX7_cases_X7_refuseLower : GoodIn wsX7_cases (wsV RX7 192 RX7 yX7_refuseLower wsX7_refuseLower) := goodIn_app (goodIn_of _ (by decide +kernel)) ggX7_cases_X7_refuseLower
set_option maxRecDepth 20000 in
theorem ggX7_cases_X5_look : GoodIn wsX7_cases wsX5_look := goodIn_r _ [23, 24, 25, 26, 27, 28, 29, 30, 31, 32, 33, 34, 35, 36, 37, 38, 39, 40, 41, 42, 43, 44, 45, 46, 47, 48, 49, 7, 8, 9, 50, 51, 52, 53, 112, 113, 114, 115, 116, 117, 118, 119, 120, 121, 122, 123, 124, 125, 126, 127, 128, 129, 130] (by decide +kernel) (by decide +kernel)
set_option maxRecDepth 20000 in
theorem gX7_cases_X5_look : GoodIn wsX7_cases (wsV RX7 195 RX5 yX5_look wsX5_look) := goodIn_app (goodIn_of _ (by decide +kernel)) ggX7_cases_X5_look
set_option maxRecDepth 20000 in
theorem ggX7_cases_X5_next : GoodIn wsX7_cases wsX5_next := goodIn_r _ [57, 25, 58, 59, 60, 22, 61, 29, 7, 8, 9, 62, 63, 64, 65, 66, 67, 68, 69, 70, 71, 26, 30, 72, 73, 74, 75, 76, 77, 78, 33, 79, 80, 32, 34, 81, 82, 83, 84, 85, 86, 87, 88, 89, 90, 91, 92, 93, 94, 95, 96, 97, 98, 99, 100, 101, 102, 27, 41, 31, 121, 122, 123, 124, 125, 126, 127, 128, 129, 130] (by decide +kernel) (by decide +kernel)
set_option maxRecDepth 20000 in
theorem gX7_cases_X5_next : GoodIn wsX7_cases (wsV RX7 205 RX5 yX5_next wsX5_next) := goodIn_app (goodIn_of _ (by decide +kernel)) ggX7_cases_X5_next
set_option maxRecDepth 20000 in
theorem ggX7_cases_X5_most : GoodIn wsX7_cases wsX5_most := goodIn_r _ [101, 102, 27, 41, 25, 31, 32, 33, 34, 58, 59, 60, 22, 61, 29, 7, 8, 9, 62, 63, 64, 65, 66, 67, 68, 69, 70, 71, 26, 30, 72, 73, 74, 75, 76, 77, 78, 79, 80, 81, 82, 83, 84, 85, 86, 87, 88, 89, 90, 91, 92, 93, 94, 95, 96, 97, 98, 99, 100, 121, 122, 123, 124, 125, 126, 127, 128, 129, 130] (by decide +kernel) (by decide +kernel)
set_option maxRecDepth 20000 in
theorem gX7_cases_X5_most_n208 : GoodIn wsX7_cases (wsX5_most) := ggX7_cases_X5_most
theorem dX7_cases_0 : decode cX7_cases 0 = .ok (.iload_n 2, 1) := by decide +kernel
theorem dX7_cases_1 : decode cX7_cases 1 = .ok (.iconst 0, 1) := by decide +kernel
theorem dX7_cases_2 : decode cX7_cases 2 = .ok (.iconst 2, 1) := by decide +kernel
theorem dX7_cases_3 : decode cX7_cases 3 = .ok (.invokestatic 67, 3) := by decide +kernel
theorem dX7_cases_6 : decode cX7_cases 6 = .ok (.ifCond .ne 9, 3) := by decide +kernel
theorem dX7_cases_9 : decode cX7_cases 9 = .ok (.aload_n 0, 1) := by decide +kernel
theorem dX7_cases_10 : decode cX7_cases 10 = .ok (.iconst 5, 1) := by decide +kernel
theorem dX7_cases_11 : decode cX7_cases 11 = .ok (.invokevirtual 192, 3) := by decide +kernel
theorem dX7_cases_14 : decode cX7_cases 14 = .ok (.ireturn, 1) := by decide +kernel
theorem dX7_cases_15 : decode cX7_cases 15 = .ok (.iload_n 1, 1) := by decide +kernel
theorem dX7_cases_16 : decode cX7_cases 16 = .ok (.iconst 0, 1) := by decide +kernel
theorem dX7_cases_17 : decode cX7_cases 17 = .ok (.iconst 4, 1) := by decide +kernel
theorem dX7_cases_18 : decode cX7_cases 18 = .ok (.invokestatic 67, 3) := by decide +kernel
theorem dX7_cases_21 : decode cX7_cases 21 = .ok (.ifCond .ne 10, 3) := by decide +kernel
theorem dX7_cases_24 : decode cX7_cases 24 = .ok (.aload_n 0, 1) := by decide +kernel
theorem dX7_cases_25 : decode cX7_cases 25 = .ok (.bipush 6, 2) := by decide +kernel
theorem dX7_cases_27 : decode cX7_cases 27 = .ok (.invokevirtual 192, 3) := by decide +kernel
theorem dX7_cases_30 : decode cX7_cases 30 = .ok (.ireturn, 1) := by decide +kernel
theorem dX7_cases_31 : decode cX7_cases 31 = .ok (.aload_n 0, 1) := by decide +kernel
theorem dX7_cases_32 : decode cX7_cases 32 = .ok (.getfield 28, 3) := by decide +kernel
theorem dX7_cases_35 : decode cX7_cases 35 = .ok (.aload_n 0, 1) := by decide +kernel
theorem dX7_cases_36 : decode cX7_cases 36 = .ok (.getfield 18, 3) := by decide +kernel
theorem dX7_cases_39 : decode cX7_cases 39 = .ok (.aload_n 0, 1) := by decide +kernel
theorem dX7_cases_40 : decode cX7_cases 40 = .ok (.getfield 18, 3) := by decide +kernel
theorem dX7_cases_43 : decode cX7_cases 43 = .ok (.getfield 116, 3) := by decide +kernel
theorem dX7_cases_46 : decode cX7_cases 46 = .ok (.iload_n 2, 1) := by decide +kernel
theorem dX7_cases_47 : decode cX7_cases 47 = .ok (.iconst 2, 1) := by decide +kernel
theorem dX7_cases_48 : decode cX7_cases 48 = .ok (.if_icmp .eq 7, 3) := by decide +kernel
theorem dX7_cases_51 : decode cX7_cases 51 = .ok (.iconst 1, 1) := by decide +kernel
theorem dX7_cases_52 : decode cX7_cases 52 = .ok (.goto 4, 3) := by decide +kernel
theorem dX7_cases_55 : decode cX7_cases 55 = .ok (.iconst 0, 1) := by decide +kernel
theorem dX7_cases_56 : decode cX7_cases 56 = .ok (.invokevirtual 195, 3) := by decide +kernel
theorem dX7_cases_59 : decode cX7_cases 59 = .ok (.iload_n 2, 1) := by decide +kernel
theorem dX7_cases_60 : decode cX7_cases 60 = .ok (.iconst 1, 1) := by decide +kernel
theorem dX7_cases_61 : decode cX7_cases 61 = .ok (.if_icmp .ne 26, 3) := by decide +kernel
theorem dX7_cases_64 : decode cX7_cases 64 = .ok (.aload_n 0, 1) := by decide +kernel
theorem dX7_cases_65 : decode cX7_cases 65 = .ok (.getfield 28, 3) := by decide +kernel
theorem dX7_cases_68 : decode cX7_cases 68 = .ok (.iload_n 1, 1) := by decide +kernel
theorem dX7_cases_69 : decode cX7_cases 69 = .ok (.aload_n 0, 1) := by decide +kernel
theorem dX7_cases_70 : decode cX7_cases 70 = .ok (.getfield 18, 3) := by decide +kernel
theorem dX7_cases_73 : decode cX7_cases 73 = .ok (.getfield 199, 3) := by decide +kernel
theorem dX7_cases_76 : decode cX7_cases 76 = .ok (.aload_n 0, 1) := by decide +kernel
theorem dX7_cases_77 : decode cX7_cases 77 = .ok (.getfield 18, 3) := by decide +kernel
theorem dX7_cases_80 : decode cX7_cases 80 = .ok (.getfield 202, 3) := by decide +kernel
theorem dX7_cases_83 : decode cX7_cases 83 = .ok (.invokevirtual 205, 3) := by decide +kernel
theorem dX7_cases_86 : decode cX7_cases 86 = .ok (.ireturn, 1) := by decide +kernel
theorem dX7_cases_87 : decode cX7_cases 87 = .ok (.aload_n 0, 1) := by decide +kernel
theorem dX7_cases_88 : decode cX7_cases 88 = .ok (.getfield 28, 3) := by decide +kernel
theorem dX7_cases_91 : decode cX7_cases 91 = .ok (.iload_n 1, 1) := by decide +kernel
theorem dX7_cases_92 : decode cX7_cases 92 = .ok (.aload_n 0, 1) := by decide +kernel
theorem dX7_cases_93 : decode cX7_cases 93 = .ok (.getfield 18, 3) := by decide +kernel
theorem dX7_cases_96 : decode cX7_cases 96 = .ok (.getfield 199, 3) := by decide +kernel
theorem dX7_cases_99 : decode cX7_cases 99 = .ok (.aload_n 0, 1) := by decide +kernel
theorem dX7_cases_100 : decode cX7_cases 100 = .ok (.getfield 18, 3) := by decide +kernel
theorem dX7_cases_103 : decode cX7_cases 103 = .ok (.getfield 202, 3) := by decide +kernel
theorem dX7_cases_106 : decode cX7_cases 106 = .ok (.invokevirtual 208, 3) := by decide +kernel
theorem dX7_cases_109 : decode cX7_cases 109 = .ok (.ireturn, 1) := by decide +kernel
set_option maxRecDepth 20000 in
theorem ggX7_line_X7_within : GoodIn wsX7_line wsX7_within := goodIn_r _ [9] (by decide +kernel) (by decide +kernel)
set_option maxRecDepth 20000 in
theorem gX7_line_X7_within : GoodIn wsX7_line (va_wsS RX7 67 yX7_within wsX7_within) := goodIn_app (goodIn_of _ (by decide +kernel)) ggX7_line_X7_within
set_option maxRecDepth 20000 in
theorem ggX7_line_X7_refuseLower : GoodIn wsX7_line wsX7_refuseLower := goodIn_r _ [13, 14, 15, 16, 8, 17, 18, 6, 7, 9, 112, 113, 114, 115, 116, 117, 118, 119, 120] (by decide +kernel) (by decide +kernel)
set_option maxRecDepth 20000 in
theorem gX7_line_X7_refuseLower : GoodIn wsX7_line (wsV RX7 192 RX7 yX7_refuseLower wsX7_refuseLower) := goodIn_app (goodIn_of _ (by decide +kernel)) ggX7_line_X7_refuseLower
set_option maxRecDepth 20000 in
theorem ggX7_line_X5_look : GoodIn wsX7_line wsX5_look := goodIn_r _ [23, 24, 25, 26, 27, 28, 29, 30, 31, 32, 33, 34, 35, 36, 37, 38, 39, 40, 41, 42, 43, 44, 45, 46, 47, 48, 49, 7, 8, 9, 50, 51, 52, 53, 121, 122, 123, 124, 125, 126, 127, 128, 129, 130, 131, 132, 133, 134, 135, 136, 137, 138, 139] (by decide +kernel) (by decide +kernel)
set_option maxRecDepth 20000 in
theorem gX7_line_X5_look : GoodIn wsX7_line (wsV RX7 195 RX5 yX5_look wsX5_look) := goodIn_app (goodIn_of _ (by decide +kernel)) ggX7_line_X5_look
set_option maxRecDepth 20000 in
theorem ggX7_line_X5_first : GoodIn wsX7_line wsX5_first := goodIn_r _ [57, 25, 58, 59, 60, 22, 61, 27, 42, 62, 63, 33, 64, 65, 66, 67, 68, 69, 36, 70, 71, 72, 73, 74, 75, 76, 77, 29, 7, 8, 9, 78, 79, 80, 81, 82, 83, 84, 85, 86, 87, 26, 30, 28, 88, 89, 90, 91, 92, 93, 94, 32, 34, 95, 96, 97, 98, 99, 100, 101, 102, 103, 104, 105, 106, 107, 108, 109, 110, 111, 130, 131, 132, 133, 134, 135, 136, 137, 138, 139] (by decide +kernel) (by decide +kernel)
set_option maxRecDepth 20000 in
theorem gX7_line_X5_first : GoodIn wsX7_line (wsV RX7 211 RX5 yX5_first wsX5_first) := goodIn_app (goodIn_of _ (by decide +kernel)) ggX7_line_X5_first
set_option maxRecDepth 20000 in
theorem ggX7_line_X5_least : GoodIn wsX7_line wsX5_least := goodIn_r _ [61, 27, 42, 25, 62, 63, 33, 64, 65, 66, 67, 22, 68, 69, 36, 70, 71, 72, 73, 74, 75, 76, 77, 29, 7, 8, 9, 78, 79, 80, 81, 82, 83, 84, 85, 86, 87, 26, 30, 28, 88, 89, 90, 91, 92, 93, 94, 32, 34, 95, 96, 97, 98, 99, 100, 101, 102, 103, 104, 105, 106, 107, 58, 59, 60, 108, 109, 110, 111, 130, 131, 132, 133, 134, 135, 136, 137, 138, 139] (by decide +kernel) (by decide +kernel)
set_option maxRecDepth 20000 in
theorem gX7_line_X5_least_n214 : GoodIn wsX7_line (wsX5_least) := ggX7_line_X5_least
theorem dX7_line_0 : decode cX7_line 0 = .ok (.iload_n 2, 1) := by decide +kernel
theorem dX7_line_1 : decode cX7_line 1 = .ok (.iconst 0, 1) := by decide +kernel
theorem dX7_line_2 : decode cX7_line 2 = .ok (.iconst 1, 1) := by decide +kernel
theorem dX7_line_3 : decode cX7_line 3 = .ok (.invokestatic 67, 3) := by decide +kernel
theorem dX7_line_6 : decode cX7_line 6 = .ok (.ifCond .ne 9, 3) := by decide +kernel
theorem dX7_line_9 : decode cX7_line 9 = .ok (.aload_n 0, 1) := by decide +kernel
theorem dX7_line_10 : decode cX7_line 10 = .ok (.iconst 5, 1) := by decide +kernel
theorem dX7_line_11 : decode cX7_line 11 = .ok (.invokevirtual 192, 3) := by decide +kernel
theorem dX7_line_14 : decode cX7_line 14 = .ok (.ireturn, 1) := by decide +kernel
theorem dX7_line_15 : decode cX7_line 15 = .ok (.iload_n 1, 1) := by decide +kernel
theorem dX7_line_16 : decode cX7_line 16 = .ok (.iconst 0, 1) := by decide +kernel
theorem dX7_line_17 : decode cX7_line 17 = .ok (.iconst 4, 1) := by decide +kernel
theorem dX7_line_18 : decode cX7_line 18 = .ok (.invokestatic 67, 3) := by decide +kernel
theorem dX7_line_21 : decode cX7_line 21 = .ok (.ifCond .ne 10, 3) := by decide +kernel
theorem dX7_line_24 : decode cX7_line 24 = .ok (.aload_n 0, 1) := by decide +kernel
theorem dX7_line_25 : decode cX7_line 25 = .ok (.bipush 6, 2) := by decide +kernel
theorem dX7_line_27 : decode cX7_line 27 = .ok (.invokevirtual 192, 3) := by decide +kernel
theorem dX7_line_30 : decode cX7_line 30 = .ok (.ireturn, 1) := by decide +kernel
theorem dX7_line_31 : decode cX7_line 31 = .ok (.aload_n 0, 1) := by decide +kernel
theorem dX7_line_32 : decode cX7_line 32 = .ok (.getfield 28, 3) := by decide +kernel
theorem dX7_line_35 : decode cX7_line 35 = .ok (.aload_n 0, 1) := by decide +kernel
theorem dX7_line_36 : decode cX7_line 36 = .ok (.getfield 18, 3) := by decide +kernel
theorem dX7_line_39 : decode cX7_line 39 = .ok (.aload_n 0, 1) := by decide +kernel
theorem dX7_line_40 : decode cX7_line 40 = .ok (.getfield 18, 3) := by decide +kernel
theorem dX7_line_43 : decode cX7_line 43 = .ok (.getfield 116, 3) := by decide +kernel
theorem dX7_line_46 : decode cX7_line 46 = .ok (.iconst 1, 1) := by decide +kernel
theorem dX7_line_47 : decode cX7_line 47 = .ok (.invokevirtual 195, 3) := by decide +kernel
theorem dX7_line_50 : decode cX7_line 50 = .ok (.iload_n 2, 1) := by decide +kernel
theorem dX7_line_51 : decode cX7_line 51 = .ok (.iconst 1, 1) := by decide +kernel
theorem dX7_line_52 : decode cX7_line 52 = .ok (.if_icmp .ne 26, 3) := by decide +kernel
theorem dX7_line_55 : decode cX7_line 55 = .ok (.aload_n 0, 1) := by decide +kernel
theorem dX7_line_56 : decode cX7_line 56 = .ok (.getfield 28, 3) := by decide +kernel
theorem dX7_line_59 : decode cX7_line 59 = .ok (.iload_n 1, 1) := by decide +kernel
theorem dX7_line_60 : decode cX7_line 60 = .ok (.aload_n 0, 1) := by decide +kernel
theorem dX7_line_61 : decode cX7_line 61 = .ok (.getfield 18, 3) := by decide +kernel
theorem dX7_line_64 : decode cX7_line 64 = .ok (.getfield 199, 3) := by decide +kernel
theorem dX7_line_67 : decode cX7_line 67 = .ok (.aload_n 0, 1) := by decide +kernel
theorem dX7_line_68 : decode cX7_line 68 = .ok (.getfield 18, 3) := by decide +kernel
theorem dX7_line_71 : decode cX7_line 71 = .ok (.getfield 202, 3) := by decide +kernel
theorem dX7_line_74 : decode cX7_line 74 = .ok (.invokevirtual 211, 3) := by decide +kernel
theorem dX7_line_77 : decode cX7_line 77 = .ok (.ireturn, 1) := by decide +kernel
theorem dX7_line_78 : decode cX7_line 78 = .ok (.aload_n 0, 1) := by decide +kernel
theorem dX7_line_79 : decode cX7_line 79 = .ok (.getfield 28, 3) := by decide +kernel
theorem dX7_line_82 : decode cX7_line 82 = .ok (.iload_n 1, 1) := by decide +kernel
theorem dX7_line_83 : decode cX7_line 83 = .ok (.aload_n 0, 1) := by decide +kernel
theorem dX7_line_84 : decode cX7_line 84 = .ok (.getfield 18, 3) := by decide +kernel
theorem dX7_line_87 : decode cX7_line 87 = .ok (.getfield 199, 3) := by decide +kernel
theorem dX7_line_90 : decode cX7_line 90 = .ok (.aload_n 0, 1) := by decide +kernel
theorem dX7_line_91 : decode cX7_line 91 = .ok (.getfield 18, 3) := by decide +kernel
theorem dX7_line_94 : decode cX7_line 94 = .ok (.getfield 202, 3) := by decide +kernel
theorem dX7_line_97 : decode cX7_line 97 = .ok (.invokevirtual 214, 3) := by decide +kernel
theorem dX7_line_100 : decode cX7_line 100 = .ok (.ireturn, 1) := by decide +kernel
set_option maxRecDepth 20000 in
theorem ggX7_haste_X7_within : GoodIn wsX7_haste wsX7_within := goodIn_r _ [4] (by decide +kernel) (by decide +kernel)
set_option maxRecDepth 20000 in
theorem gX7_haste_X7_within : GoodIn wsX7_haste (va_wsS RX7 67 yX7_within wsX7_within) := goodIn_app (goodIn_of _ (by decide +kernel)) ggX7_haste_X7_within
set_option maxRecDepth 20000 in
theorem ggX7_haste_X7_refuse : GoodIn wsX7_haste wsX7_refuse := goodIn_r _ [8, 9, 1, 2, 3, 4, 98, 99, 100, 101, 102, 103, 104, 105, 106] (by decide +kernel) (by decide +kernel)
set_option maxRecDepth 20000 in
theorem gX7_haste_X7_refuse : GoodIn wsX7_haste (wsV RX7 63 RX7 yX7_refuse wsX7_refuse) := goodIn_app (goodIn_of _ (by decide +kernel)) ggX7_haste_X7_refuse
set_option maxRecDepth 20000 in
theorem ggX7_haste_X7_casesBy : GoodIn wsX7_haste wsX7_casesBy := goodIn_r _ [13, 14, 15, 16, 17, 18, 19, 20, 21, 22, 23, 24, 25, 26, 27, 28, 29, 30, 31, 32, 33, 34, 35, 36, 37, 38, 39, 40, 41, 42, 43, 44, 45, 46, 47, 48, 2, 3, 4, 49, 50, 51, 52, 53, 54, 55, 56, 57, 58, 59, 60, 61, 62, 63, 64, 65, 66, 67, 68, 69, 70, 71, 72, 73, 74, 75, 76, 77, 78, 79, 80, 81, 82, 83, 84, 85, 86, 87, 88, 89, 90, 91, 92, 93, 94, 95, 96, 97, 98, 99, 100, 101, 102, 103, 104, 105, 106, 107, 108, 109, 110, 111, 112, 113, 114, 115, 116, 117, 118, 119, 120, 121, 122, 123, 124, 125] (by decide +kernel) (by decide +kernel)
set_option maxRecDepth 20000 in
theorem gX7_haste_X7_casesBy : GoodIn wsX7_haste (wsV RX7 217 RX7 yX7_casesBy wsX7_casesBy) := goodIn_app (goodIn_of _ (by decide +kernel)) ggX7_haste_X7_casesBy
theorem dX7_haste_0 : decode cX7_haste 0 = .ok (.iload_n 2, 1) := by decide +kernel
theorem dX7_haste_1 : decode cX7_haste 1 = .ok (.iconst 0, 1) := by decide +kernel
theorem dX7_haste_2 : decode cX7_haste 2 = .ok (.iconst 1, 1) := by decide +kernel
theorem dX7_haste_3 : decode cX7_haste 3 = .ok (.invokestatic 67, 3) := by decide +kernel
theorem dX7_haste_6 : decode cX7_haste 6 = .ok (.ifCond .ne 9, 3) := by decide +kernel
theorem dX7_haste_9 : decode cX7_haste 9 = .ok (.aload_n 0, 1) := by decide +kernel
theorem dX7_haste_10 : decode cX7_haste 10 = .ok (.iconst 5, 1) := by decide +kernel
theorem dX7_haste_11 : decode cX7_haste 11 = .ok (.invokevirtual 63, 3) := by decide +kernel
theorem dX7_haste_14 : decode cX7_haste 14 = .ok (.ireturn, 1) := by decide +kernel
theorem dX7_haste_15 : decode cX7_haste 15 = .ok (.iload_n 1, 1) := by decide +kernel
theorem dX7_haste_16 : decode cX7_haste 16 = .ok (.iconst 0, 1) := by decide +kernel
theorem dX7_haste_17 : decode cX7_haste 17 = .ok (.iconst 4, 1) := by decide +kernel
theorem dX7_haste_18 : decode cX7_haste 18 = .ok (.invokestatic 67, 3) := by decide +kernel
theorem dX7_haste_21 : decode cX7_haste 21 = .ok (.ifCond .ne 10, 3) := by decide +kernel
theorem dX7_haste_24 : decode cX7_haste 24 = .ok (.aload_n 0, 1) := by decide +kernel
theorem dX7_haste_25 : decode cX7_haste 25 = .ok (.bipush 6, 2) := by decide +kernel
theorem dX7_haste_27 : decode cX7_haste 27 = .ok (.invokevirtual 63, 3) := by decide +kernel
theorem dX7_haste_30 : decode cX7_haste 30 = .ok (.ireturn, 1) := by decide +kernel
theorem dX7_haste_31 : decode cX7_haste 31 = .ok (.iload_n 2, 1) := by decide +kernel
theorem dX7_haste_32 : decode cX7_haste 32 = .ok (.iconst 1, 1) := by decide +kernel
theorem dX7_haste_33 : decode cX7_haste 33 = .ok (.if_icmp .ne 25, 3) := by decide +kernel
theorem dX7_haste_36 : decode cX7_haste 36 = .ok (.aload_n 0, 1) := by decide +kernel
theorem dX7_haste_37 : decode cX7_haste 37 = .ok (.bipush 9, 2) := by decide +kernel
theorem dX7_haste_39 : decode cX7_haste 39 = .ok (.iload_n 1, 1) := by decide +kernel
theorem dX7_haste_40 : decode cX7_haste 40 = .ok (.invokevirtual 217, 3) := by decide +kernel
theorem dX7_haste_43 : decode cX7_haste 43 = .ok (.aload_n 0, 1) := by decide +kernel
theorem dX7_haste_44 : decode cX7_haste 44 = .ok (.iconst 0, 1) := by decide +kernel
theorem dX7_haste_45 : decode cX7_haste 45 = .ok (.iload_n 1, 1) := by decide +kernel
theorem dX7_haste_46 : decode cX7_haste 46 = .ok (.invokevirtual 217, 3) := by decide +kernel
theorem dX7_haste_49 : decode cX7_haste 49 = .ok (.if_icmp .ge 7, 3) := by decide +kernel
theorem dX7_haste_56 : decode cX7_haste 56 = .ok (.iconst 0, 1) := by decide +kernel
theorem dX7_haste_57 : decode cX7_haste 57 = .ok (.ireturn, 1) := by decide +kernel
theorem dX7_haste_58 : decode cX7_haste 58 = .ok (.iconst 0, 1) := by decide +kernel
theorem dX7_haste_59 : decode cX7_haste 59 = .ok (.istore_n 3, 1) := by decide +kernel
theorem dX7_haste_60 : decode cX7_haste 60 = .ok (.aload_n 0, 1) := by decide +kernel
theorem dX7_haste_61 : decode cX7_haste 61 = .ok (.iconst 0, 1) := by decide +kernel
theorem dX7_haste_62 : decode cX7_haste 62 = .ok (.iload_n 1, 1) := by decide +kernel
theorem dX7_haste_63 : decode cX7_haste 63 = .ok (.invokevirtual 217, 3) := by decide +kernel
theorem dX7_haste_66 : decode cX7_haste 66 = .ok (.istore 4, 2) := by decide +kernel
theorem dX7_haste_68 : decode cX7_haste 68 = .ok (.iconst 1, 1) := by decide +kernel
theorem dX7_haste_69 : decode cX7_haste 69 = .ok (.istore 5, 2) := by decide +kernel
theorem dX7_haste_71 : decode cX7_haste 71 = .ok (.iload 5, 2) := by decide +kernel
theorem dX7_haste_73 : decode cX7_haste 73 = .ok (.bipush 9, 2) := by decide +kernel
theorem dX7_haste_75 : decode cX7_haste 75 = .ok (.if_icmp .gt 32, 3) := by decide +kernel
theorem dX7_haste_78 : decode cX7_haste 78 = .ok (.aload_n 0, 1) := by decide +kernel
theorem dX7_haste_79 : decode cX7_haste 79 = .ok (.iload 5, 2) := by decide +kernel
theorem dX7_haste_81 : decode cX7_haste 81 = .ok (.iload_n 1, 1) := by decide +kernel
theorem dX7_haste_82 : decode cX7_haste 82 = .ok (.invokevirtual 217, 3) := by decide +kernel
theorem dX7_haste_85 : decode cX7_haste 85 = .ok (.istore 6, 2) := by decide +kernel
theorem dX7_haste_87 : decode cX7_haste 87 = .ok (.iload 6, 2) := by decide +kernel
theorem dX7_haste_89 : decode cX7_haste 89 = .ok (.iload 4, 2) := by decide +kernel
theorem dX7_haste_91 : decode cX7_haste 91 = .ok (.if_icmp .le 10, 3) := by decide +kernel
theorem dX7_haste_101 : decode cX7_haste 101 = .ok (.iinc 5 1, 3) := by decide +kernel
theorem dX7_haste_104 : decode cX7_haste 104 = .ok (.goto (-33), 3) := by decide +kernel
theorem dX7_haste_107 : decode cX7_haste 107 = .ok (.iload_n 3, 1) := by decide +kernel
theorem dX7_haste_108 : decode cX7_haste 108 = .ok (.ireturn, 1) := by decide +kernel
set_option maxRecDepth 20000 in
theorem ggX7_freed_X7_shelfAt : GoodIn wsX7_freed wsX7_shelfAt := goodIn_r _ [6, 7, 8, 9, 5, 10, 71, 72, 73, 74, 75, 76, 77, 78, 79] (by decide +kernel) (by decide +kernel)
set_option maxRecDepth 20000 in
theorem gX7_freed_X7_shelfAt : GoodIn wsX7_freed (wsV RX7 59 RX7 yX7_shelfAt wsX7_shelfAt) := goodIn_app (goodIn_of _ (by decide +kernel)) ggX7_freed_X7_shelfAt
set_option maxRecDepth 20000 in
theorem ggX7_freed_X0_pullAt : GoodIn wsX7_freed wsX0_pullAt := goodIn_r _ [15, 16, 17, 9, 5, 10, 80, 81, 82, 83, 84, 85, 86, 87, 88] (by decide +kernel) (by decide +kernel)
set_option maxRecDepth 20000 in
theorem gX7_freed_X0_pullAt : GoodIn wsX7_freed (wsV RX7 100 RX0 yX0_pullAt wsX0_pullAt) := goodIn_app (goodIn_of _ (by decide +kernel)) ggX7_freed_X0_pullAt
set_option maxRecDepth 20000 in
theorem ggX7_freed_X7_refuse : GoodIn wsX7_freed wsX7_refuse := goodIn_r _ [21, 22, 8, 9, 5, 10, 71, 72, 73, 74, 75, 76, 77, 78, 79] (by decide +kernel) (by decide +kernel)
set_option maxRecDepth 20000 in
theorem gX7_freed_X7_refuse : GoodIn wsX7_freed (wsV RX7 63 RX7 yX7_refuse wsX7_refuse) := goodIn_app (goodIn_of _ (by decide +kernel)) ggX7_freed_X7_refuse
theorem dX7_freed_0 : decode cX7_freed 0 = .ok (.aload_n 0, 1) := by decide +kernel
theorem dX7_freed_1 : decode cX7_freed 1 = .ok (.iload_n 1, 1) := by decide +kernel
theorem dX7_freed_2 : decode cX7_freed 2 = .ok (.invokevirtual 59, 3) := by decide +kernel
theorem dX7_freed_5 : decode cX7_freed 5 = .ok (.astore_n 3, 1) := by decide +kernel
theorem dX7_freed_6 : decode cX7_freed 6 = .ok (.aload_n 0, 1) := by decide +kernel
theorem dX7_freed_7 : decode cX7_freed 7 = .ok (.getfield 18, 3) := by decide +kernel
theorem dX7_freed_10 : decode cX7_freed 10 = .ok (.iload_n 2, 1) := by decide +kernel
theorem dX7_freed_11 : decode cX7_freed 11 = .ok (.invokevirtual 100, 3) := by decide +kernel
theorem dX7_freed_14 : decode cX7_freed 14 = .ok (.astore 4, 2) := by decide +kernel
theorem dX7_freed_16 : decode cX7_freed 16 = .ok (.aload_n 3, 1) := by decide +kernel
theorem dX7_freed_17 : decode cX7_freed 17 = .ok (.ifnull 8, 3) := by decide +kernel
theorem dX7_freed_20 : decode cX7_freed 20 = .ok (.aload 4, 2) := by decide +kernel
theorem dX7_freed_22 : decode cX7_freed 22 = .ok (.ifnonnull 9, 3) := by decide +kernel
theorem dX7_freed_25 : decode cX7_freed 25 = .ok (.aload_n 0, 1) := by decide +kernel
theorem dX7_freed_26 : decode cX7_freed 26 = .ok (.iconst 1, 1) := by decide +kernel
theorem dX7_freed_27 : decode cX7_freed 27 = .ok (.invokevirtual 63, 3) := by decide +kernel
theorem dX7_freed_30 : decode cX7_freed 30 = .ok (.ireturn, 1) := by decide +kernel
set_option maxRecDepth 20000 in
theorem ggX7_best_X7_shelfAt : GoodIn wsX7_best wsX7_shelfAt := goodIn_r _ [7, 8, 9, 10, 6, 11, 76, 77, 78, 79, 80, 81, 82, 83, 84] (by decide +kernel) (by decide +kernel)
set_option maxRecDepth 20000 in
theorem gX7_best_X7_shelfAt : GoodIn wsX7_best (wsV RX7 59 RX7 yX7_shelfAt wsX7_shelfAt) := goodIn_app (goodIn_of _ (by decide +kernel)) ggX7_best_X7_shelfAt
set_option maxRecDepth 20000 in
theorem ggX7_best_X7_refuseLower : GoodIn wsX7_best wsX7_refuseLower := goodIn_r _ [15, 16, 17, 18, 6, 19, 20, 9, 10, 11, 76, 77, 78, 79, 80, 81, 82, 83, 84] (by decide +kernel) (by decide +kernel)
set_option maxRecDepth 20000 in
theorem gX7_best_X7_refuseLower : GoodIn wsX7_best (wsV RX7 192 RX7 yX7_refuseLower wsX7_refuseLower) := goodIn_app (goodIn_of _ (by decide +kernel)) ggX7_best_X7_refuseLower
set_option maxRecDepth 20000 in
theorem ggX7_best_X4_noBelief : GoodIn wsX7_best wsX4_noBelief := goodIn_r _ [25, 26, 27, 28, 29, 24, 30, 31, 32, 33, 34, 35, 36, 37, 38, 39, 40, 41, 42, 43, 44, 10, 6, 11, 94, 95, 96] (by decide +kernel) (by decide +kernel)
set_option maxRecDepth 20000 in
theorem gX7_best_X4_noBelief : GoodIn wsX7_best (wsV RX7 220 RX4 yX4_noBelief wsX4_noBelief) := goodIn_app (goodIn_of _ (by decide +kernel)) ggX7_best_X4_noBelief
theorem dX7_best_0 : decode cX7_best 0 = .ok (.aload_n 0, 1) := by decide +kernel
theorem dX7_best_1 : decode cX7_best 1 = .ok (.iload_n 1, 1) := by decide +kernel
theorem dX7_best_2 : decode cX7_best 2 = .ok (.invokevirtual 59, 3) := by decide +kernel
theorem dX7_best_5 : decode cX7_best 5 = .ok (.astore_n 2, 1) := by decide +kernel
theorem dX7_best_6 : decode cX7_best 6 = .ok (.aload_n 2, 1) := by decide +kernel
theorem dX7_best_7 : decode cX7_best 7 = .ok (.ifnonnull 9, 3) := by decide +kernel
theorem dX7_best_10 : decode cX7_best 10 = .ok (.aload_n 0, 1) := by decide +kernel
theorem dX7_best_11 : decode cX7_best 11 = .ok (.iconst 1, 1) := by decide +kernel
theorem dX7_best_12 : decode cX7_best 12 = .ok (.invokevirtual 192, 3) := by decide +kernel
theorem dX7_best_15 : decode cX7_best 15 = .ok (.ireturn, 1) := by decide +kernel
theorem dX7_best_16 : decode cX7_best 16 = .ok (.aload_n 2, 1) := by decide +kernel
theorem dX7_best_17 : decode cX7_best 17 = .ok (.invokevirtual 220, 3) := by decide +kernel
theorem dX7_best_20 : decode cX7_best 20 = .ok (.istore_n 3, 1) := by decide +kernel
theorem dX7_best_21 : decode cX7_best 21 = .ok (.iload_n 3, 1) := by decide +kernel
theorem dX7_best_22 : decode cX7_best 22 = .ok (.ifCond .eq 9, 3) := by decide +kernel
theorem dX7_best_25 : decode cX7_best 25 = .ok (.aload_n 0, 1) := by decide +kernel
theorem dX7_best_26 : decode cX7_best 26 = .ok (.iload_n 3, 1) := by decide +kernel
theorem dX7_best_27 : decode cX7_best 27 = .ok (.invokevirtual 192, 3) := by decide +kernel
theorem dX7_best_30 : decode cX7_best 30 = .ok (.ireturn, 1) := by decide +kernel
set_option maxRecDepth 20000 in
theorem ggX7_behind_X7_shelfAt : GoodIn wsX7_behind wsX7_shelfAt := goodIn_r _ [7, 8, 9, 10, 6, 11, 79, 80, 81, 82, 83, 84, 85, 86, 87] (by decide +kernel) (by decide +kernel)
set_option maxRecDepth 20000 in
theorem gX7_behind_X7_shelfAt : GoodIn wsX7_behind (wsV RX7 59 RX7 yX7_shelfAt wsX7_shelfAt) := goodIn_app (goodIn_of _ (by decide +kernel)) ggX7_behind_X7_shelfAt
set_option maxRecDepth 20000 in
theorem ggX7_behind_X0_pullAt : GoodIn wsX7_behind wsX0_pullAt := goodIn_r _ [16, 17, 18, 10, 6, 11, 88, 89, 90, 91, 92, 93, 94, 95, 96] (by decide +kernel) (by decide +kernel)
set_option maxRecDepth 20000 in
theorem gX7_behind_X0_pullAt : GoodIn wsX7_behind (wsV RX7 100 RX0 yX0_pullAt wsX0_pullAt) := goodIn_app (goodIn_of _ (by decide +kernel)) ggX7_behind_X0_pullAt
set_option maxRecDepth 20000 in
theorem ggX7_behind_X7_refuse : GoodIn wsX7_behind wsX7_refuse := goodIn_r _ [22, 23, 9, 10, 6, 11, 79, 80, 81, 82, 83, 84, 85, 86, 87] (by decide +kernel) (by decide +kernel)
set_option maxRecDepth 20000 in
theorem gX7_behind_X7_refuse : GoodIn wsX7_behind (wsV RX7 63 RX7 yX7_refuse wsX7_refuse) := goodIn_app (goodIn_of _ (by decide +kernel)) ggX7_behind_X7_refuse
theorem dX7_behind_0 : decode cX7_behind 0 = .ok (.aload_n 0, 1) := by decide +kernel
theorem dX7_behind_1 : decode cX7_behind 1 = .ok (.iload_n 1, 1) := by decide +kernel
theorem dX7_behind_2 : decode cX7_behind 2 = .ok (.invokevirtual 59, 3) := by decide +kernel
theorem dX7_behind_5 : decode cX7_behind 5 = .ok (.astore 4, 2) := by decide +kernel
theorem dX7_behind_7 : decode cX7_behind 7 = .ok (.aload_n 0, 1) := by decide +kernel
theorem dX7_behind_8 : decode cX7_behind 8 = .ok (.getfield 18, 3) := by decide +kernel
theorem dX7_behind_11 : decode cX7_behind 11 = .ok (.iload_n 2, 1) := by decide +kernel
theorem dX7_behind_12 : decode cX7_behind 12 = .ok (.invokevirtual 100, 3) := by decide +kernel
theorem dX7_behind_15 : decode cX7_behind 15 = .ok (.astore 5, 2) := by decide +kernel
theorem dX7_behind_17 : decode cX7_behind 17 = .ok (.aload 4, 2) := by decide +kernel
theorem dX7_behind_19 : decode cX7_behind 19 = .ok (.ifnull 8, 3) := by decide +kernel
theorem dX7_behind_22 : decode cX7_behind 22 = .ok (.aload 5, 2) := by decide +kernel
theorem dX7_behind_24 : decode cX7_behind 24 = .ok (.ifnonnull 9, 3) := by decide +kernel
theorem dX7_behind_27 : decode cX7_behind 27 = .ok (.aload_n 0, 1) := by decide +kernel
theorem dX7_behind_28 : decode cX7_behind 28 = .ok (.iconst 1, 1) := by decide +kernel
theorem dX7_behind_29 : decode cX7_behind 29 = .ok (.invokevirtual 63, 3) := by decide +kernel
theorem dX7_behind_32 : decode cX7_behind 32 = .ok (.ireturn, 1) := by decide +kernel
set_option maxRecDepth 20000 in
theorem ggX7_strong_X6_isStrong : GoodIn wsX7_strong wsX6_isStrong := goodIn_r _ [7, 8, 9, 10, 11, 6, 12, 13, 14, 15, 16, 17, 18, 19, 20, 21, 70, 71, 72, 73, 74] (by decide +kernel) (by decide +kernel)
set_option maxRecDepth 20000 in
theorem gX7_strong_X6_isStrong : GoodIn wsX7_strong (wsV RX7 230 RX6 yX6_isStrong wsX6_isStrong) := goodIn_app (goodIn_of _ (by decide +kernel)) ggX7_strong_X6_isStrong
set_option maxRecDepth 20000 in
theorem ggX7_strong_X6_frailTeeth : GoodIn wsX7_strong wsX6_frailTeeth := goodIn_r _ [25, 8, 17, 26, 4, 5, 6, 7, 9, 10, 11, 12, 13, 14, 15, 16, 18, 19, 20, 21, 27, 28, 29, 30, 70, 71, 72, 73, 74] (by decide +kernel) (by decide +kernel)
set_option maxRecDepth 20000 in
theorem gX7_strong_X6_frailTeeth : GoodIn wsX7_strong (wsV RX7 234 RX6 yX6_frailTeeth wsX6_frailTeeth) := goodIn_app (goodIn_of _ (by decide +kernel)) ggX7_strong_X6_frailTeeth
set_option maxRecDepth 20000 in
theorem ggX7_strong_X6_spareTeeth : GoodIn wsX7_strong wsX6_spareTeeth := goodIn_r _ [34, 8, 17, 35, 36, 37, 38, 26, 4, 5, 6, 7, 9, 10, 11, 12, 13, 14, 15, 16, 18, 19, 20, 21, 70, 71, 72, 73, 74] (by decide +kernel) (by decide +kernel)
set_option maxRecDepth 20000 in
theorem gX7_strong_X6_spareTeeth : GoodIn wsX7_strong (wsV RX7 237 RX6 yX6_spareTeeth wsX6_spareTeeth) := goodIn_app (goodIn_of _ (by decide +kernel)) ggX7_strong_X6_spareTeeth
set_option maxRecDepth 20000 in
theorem ggX7_strong_X6_lackingTeeth : GoodIn wsX7_strong wsX6_lackingTeeth := goodIn_r _ [42, 8, 17, 70, 71, 72, 73, 74] (by decide +kernel) (by decide +kernel)
set_option maxRecDepth 20000 in
theorem gX7_strong_X6_lackingTeeth : GoodIn wsX7_strong (wsV RX7 240 RX6 yX6_lackingTeeth wsX6_lackingTeeth) := goodIn_app (goodIn_of _ (by decide +kernel)) ggX7_strong_X6_lackingTeeth
set_option maxRecDepth 20000 in
theorem ggX7_strong_X7_refuse : GoodIn wsX7_strong wsX7_refuse := goodIn_r _ [47, 48, 49, 50, 46, 51, 52, 53, 54, 55, 56, 57, 58, 59, 60] (by decide +kernel) (by decide +kernel)
set_option maxRecDepth 20000 in
theorem gX7_strong_X7_refuse : GoodIn wsX7_strong (wsV RX7 63 RX7 yX7_refuse wsX7_refuse) := goodIn_app (goodIn_of _ (by decide +kernel)) ggX7_strong_X7_refuse
theorem dX7_strong_0 : decode cX7_strong 0 = .ok (.iload_n 1, 1) := by decide +kernel
theorem dX7_strong_1 : decode cX7_strong 1 = .ok (.tableswitch 83 0 3 #[31, 50, 61, 72], 31) := by decide +kernel
theorem dX7_strong_32 : decode cX7_strong 32 = .ok (.aload_n 0, 1) := by decide +kernel
theorem dX7_strong_33 : decode cX7_strong 33 = .ok (.getfield 18, 3) := by decide +kernel
theorem dX7_strong_36 : decode cX7_strong 36 = .ok (.getfield 140, 3) := by decide +kernel
theorem dX7_strong_39 : decode cX7_strong 39 = .ok (.invokevirtual 230, 3) := by decide +kernel
theorem dX7_strong_42 : decode cX7_strong 42 = .ok (.ifCond .eq 7, 3) := by decide +kernel
theorem dX7_strong_45 : decode cX7_strong 45 = .ok (.iconst 1, 1) := by decide +kernel
theorem dX7_strong_46 : decode cX7_strong 46 = .ok (.goto 4, 3) := by decide +kernel
theorem dX7_strong_50 : decode cX7_strong 50 = .ok (.ireturn, 1) := by decide +kernel
theorem dX7_strong_51 : decode cX7_strong 51 = .ok (.aload_n 0, 1) := by decide +kernel
theorem dX7_strong_52 : decode cX7_strong 52 = .ok (.getfield 18, 3) := by decide +kernel
theorem dX7_strong_55 : decode cX7_strong 55 = .ok (.getfield 140, 3) := by decide +kernel
theorem dX7_strong_58 : decode cX7_strong 58 = .ok (.invokevirtual 234, 3) := by decide +kernel
theorem dX7_strong_61 : decode cX7_strong 61 = .ok (.ireturn, 1) := by decide +kernel
theorem dX7_strong_62 : decode cX7_strong 62 = .ok (.aload_n 0, 1) := by decide +kernel
theorem dX7_strong_63 : decode cX7_strong 63 = .ok (.getfield 18, 3) := by decide +kernel
theorem dX7_strong_66 : decode cX7_strong 66 = .ok (.getfield 140, 3) := by decide +kernel
theorem dX7_strong_69 : decode cX7_strong 69 = .ok (.invokevirtual 237, 3) := by decide +kernel
theorem dX7_strong_72 : decode cX7_strong 72 = .ok (.ireturn, 1) := by decide +kernel
theorem dX7_strong_73 : decode cX7_strong 73 = .ok (.aload_n 0, 1) := by decide +kernel
theorem dX7_strong_74 : decode cX7_strong 74 = .ok (.getfield 18, 3) := by decide +kernel
theorem dX7_strong_77 : decode cX7_strong 77 = .ok (.getfield 140, 3) := by decide +kernel
theorem dX7_strong_80 : decode cX7_strong 80 = .ok (.invokevirtual 240, 3) := by decide +kernel
theorem dX7_strong_83 : decode cX7_strong 83 = .ok (.ireturn, 1) := by decide +kernel
theorem dX7_strong_84 : decode cX7_strong 84 = .ok (.aload_n 0, 1) := by decide +kernel
theorem dX7_strong_85 : decode cX7_strong 85 = .ok (.iconst 5, 1) := by decide +kernel
theorem dX7_strong_86 : decode cX7_strong 86 = .ok (.invokevirtual 63, 3) := by decide +kernel
theorem dX7_strong_89 : decode cX7_strong 89 = .ok (.ireturn, 1) := by decide +kernel
set_option maxRecDepth 20000 in
theorem ggX7_catches_X6_catchingTeeth : GoodIn wsX7_catches wsX6_catchingTeeth := goodIn_r _ [7, 8, 9, 10, 11, 6, 12, 13, 14, 15, 16, 17, 18, 19, 47, 48, 49, 50, 51] (by decide +kernel) (by decide +kernel)
set_option maxRecDepth 20000 in
theorem gX7_catches_X6_catchingTeeth : GoodIn wsX7_catches (wsV RX7 243 RX6 yX6_catchingTeeth wsX6_catchingTeeth) := goodIn_app (goodIn_of _ (by decide +kernel)) ggX7_catches_X6_catchingTeeth
set_option maxRecDepth 20000 in
theorem ggX7_catches_X7_refuse : GoodIn wsX7_catches wsX7_refuse := goodIn_r _ [24, 25, 26, 27, 23, 28, 29, 30, 31, 32, 33, 34, 35, 36, 37] (by decide +kernel) (by decide +kernel)
set_option maxRecDepth 20000 in
theorem gX7_catches_X7_refuse : GoodIn wsX7_catches (wsV RX7 63 RX7 yX7_refuse wsX7_refuse) := goodIn_app (goodIn_of _ (by decide +kernel)) ggX7_catches_X7_refuse
theorem dX7_catches_0 : decode cX7_catches 0 = .ok (.aload_n 0, 1) := by decide +kernel
theorem dX7_catches_1 : decode cX7_catches 1 = .ok (.getfield 18, 3) := by decide +kernel
theorem dX7_catches_4 : decode cX7_catches 4 = .ok (.getfield 140, 3) := by decide +kernel
theorem dX7_catches_7 : decode cX7_catches 7 = .ok (.iload_n 1, 1) := by decide +kernel
theorem dX7_catches_8 : decode cX7_catches 8 = .ok (.invokevirtual 243, 3) := by decide +kernel
theorem dX7_catches_11 : decode cX7_catches 11 = .ok (.istore_n 2, 1) := by decide +kernel
theorem dX7_catches_12 : decode cX7_catches 12 = .ok (.iload_n 2, 1) := by decide +kernel
theorem dX7_catches_13 : decode cX7_catches 13 = .ok (.iconst (-1), 1) := by decide +kernel
theorem dX7_catches_14 : decode cX7_catches 14 = .ok (.if_icmp .ne 11, 3) := by decide +kernel
theorem dX7_catches_17 : decode cX7_catches 17 = .ok (.aload_n 0, 1) := by decide +kernel
theorem dX7_catches_18 : decode cX7_catches 18 = .ok (.iconst 5, 1) := by decide +kernel
theorem dX7_catches_19 : decode cX7_catches 19 = .ok (.invokevirtual 63, 3) := by decide +kernel
theorem dX7_catches_22 : decode cX7_catches 22 = .ok (.goto 4, 3) := by decide +kernel
theorem dX7_catches_25 : decode cX7_catches 25 = .ok (.iload_n 2, 1) := by decide +kernel
theorem dX7_catches_26 : decode cX7_catches 26 = .ok (.ireturn, 1) := by decide +kernel
set_option maxRecDepth 20000 in
theorem ggX7_stitches_X6_stitchesNeeded : GoodIn wsX7_stitches wsX6_stitchesNeeded := goodIn_r _ [7, 8, 9, 10, 11, 12, 13, 14, 15, 6, 16, 17, 18, 19, 20, 21, 22, 23, 51, 52, 53, 54, 55] (by decide +kernel) (by decide +kernel)
set_option maxRecDepth 20000 in
theorem gX7_stitches_X6_stitchesNeeded : GoodIn wsX7_stitches (wsV RX7 246 RX6 yX6_stitchesNeeded wsX6_stitchesNeeded) := goodIn_app (goodIn_of _ (by decide +kernel)) ggX7_stitches_X6_stitchesNeeded
set_option maxRecDepth 20000 in
theorem ggX7_stitches_X7_refuse : GoodIn wsX7_stitches wsX7_refuse := goodIn_r _ [28, 29, 30, 31, 27, 32, 33, 34, 35, 36, 37, 38, 39, 40, 41] (by decide +kernel) (by decide +kernel)
set_option maxRecDepth 20000 in
theorem gX7_stitches_X7_refuse : GoodIn wsX7_stitches (wsV RX7 63 RX7 yX7_refuse wsX7_refuse) := goodIn_app (goodIn_of _ (by decide +kernel)) ggX7_stitches_X7_refuse
theorem dX7_stitches_0 : decode cX7_stitches 0 = .ok (.aload_n 0, 1) := by decide +kernel
theorem dX7_stitches_1 : decode cX7_stitches 1 = .ok (.getfield 18, 3) := by decide +kernel
theorem dX7_stitches_4 : decode cX7_stitches 4 = .ok (.getfield 140, 3) := by decide +kernel
theorem dX7_stitches_7 : decode cX7_stitches 7 = .ok (.iload_n 1, 1) := by decide +kernel
theorem dX7_stitches_8 : decode cX7_stitches 8 = .ok (.invokevirtual 246, 3) := by decide +kernel
theorem dX7_stitches_11 : decode cX7_stitches 11 = .ok (.istore_n 2, 1) := by decide +kernel
theorem dX7_stitches_12 : decode cX7_stitches 12 = .ok (.iload_n 2, 1) := by decide +kernel
theorem dX7_stitches_13 : decode cX7_stitches 13 = .ok (.iconst (-1), 1) := by decide +kernel
theorem dX7_stitches_14 : decode cX7_stitches 14 = .ok (.if_icmp .ne 11, 3) := by decide +kernel
theorem dX7_stitches_17 : decode cX7_stitches 17 = .ok (.aload_n 0, 1) := by decide +kernel
theorem dX7_stitches_18 : decode cX7_stitches 18 = .ok (.iconst 5, 1) := by decide +kernel
theorem dX7_stitches_19 : decode cX7_stitches 19 = .ok (.invokevirtual 63, 3) := by decide +kernel
theorem dX7_stitches_22 : decode cX7_stitches 22 = .ok (.goto 4, 3) := by decide +kernel
theorem dX7_stitches_25 : decode cX7_stitches 25 = .ok (.iload_n 2, 1) := by decide +kernel
theorem dX7_stitches_26 : decode cX7_stitches 26 = .ok (.ireturn, 1) := by decide +kernel
set_option maxRecDepth 20000 in
theorem ggX7_judge_X7_shelfAt : GoodIn wsX7_judge wsX7_shelfAt := goodIn_r _ [5, 6, 7, 8, 4, 9, 90, 91, 92, 93, 94, 95, 96, 97, 98] (by decide +kernel) (by decide +kernel)
set_option maxRecDepth 20000 in
theorem gX7_judge_X7_shelfAt : GoodIn wsX7_judge (wsV RX7 59 RX7 yX7_shelfAt wsX7_shelfAt) := goodIn_app (goodIn_of _ (by decide +kernel)) ggX7_judge_X7_shelfAt
set_option maxRecDepth 20000 in
theorem ggX7_judge_X7_refuseLower : GoodIn wsX7_judge wsX7_refuseLower := goodIn_r _ [13, 14, 15, 16, 4, 17, 18, 7, 8, 9, 90, 91, 92, 93, 94, 95, 96, 97, 98] (by decide +kernel) (by decide +kernel)
set_option maxRecDepth 20000 in
theorem gX7_judge_X7_refuseLower : GoodIn wsX7_judge (wsV RX7 192 RX7 yX7_refuseLower wsX7_refuseLower) := goodIn_app (goodIn_of _ (by decide +kernel)) ggX7_judge_X7_refuseLower
set_option maxRecDepth 20000 in
theorem ggX7_judge_X4_noTelling : GoodIn wsX7_judge wsX4_noTelling := goodIn_r _ [23, 24, 25, 26, 27, 22, 28, 29, 99, 100, 101] (by decide +kernel) (by decide +kernel)
set_option maxRecDepth 20000 in
theorem gX7_judge_X4_noTelling : GoodIn wsX7_judge (wsV RX7 249 RX4 yX4_noTelling wsX4_noTelling) := goodIn_app (goodIn_of _ (by decide +kernel)) ggX7_judge_X4_noTelling
theorem dX7_judge_0 : decode cX7_judge 0 = .ok (.aload_n 0, 1) := by decide +kernel
theorem dX7_judge_1 : decode cX7_judge 1 = .ok (.iload_n 1, 1) := by decide +kernel
theorem dX7_judge_2 : decode cX7_judge 2 = .ok (.invokevirtual 59, 3) := by decide +kernel
theorem dX7_judge_5 : decode cX7_judge 5 = .ok (.astore_n 3, 1) := by decide +kernel
theorem dX7_judge_6 : decode cX7_judge 6 = .ok (.aload_n 3, 1) := by decide +kernel
theorem dX7_judge_7 : decode cX7_judge 7 = .ok (.ifnonnull 9, 3) := by decide +kernel
theorem dX7_judge_10 : decode cX7_judge 10 = .ok (.aload_n 0, 1) := by decide +kernel
theorem dX7_judge_11 : decode cX7_judge 11 = .ok (.iconst 1, 1) := by decide +kernel
theorem dX7_judge_12 : decode cX7_judge 12 = .ok (.invokevirtual 192, 3) := by decide +kernel
theorem dX7_judge_15 : decode cX7_judge 15 = .ok (.ireturn, 1) := by decide +kernel
theorem dX7_judge_16 : decode cX7_judge 16 = .ok (.aload_n 3, 1) := by decide +kernel
theorem dX7_judge_17 : decode cX7_judge 17 = .ok (.iload_n 2, 1) := by decide +kernel
theorem dX7_judge_18 : decode cX7_judge 18 = .ok (.invokevirtual 249, 3) := by decide +kernel
theorem dX7_judge_21 : decode cX7_judge 21 = .ok (.istore 4, 2) := by decide +kernel
theorem dX7_judge_23 : decode cX7_judge 23 = .ok (.iload 4, 2) := by decide +kernel
theorem dX7_judge_25 : decode cX7_judge 25 = .ok (.ifCond .eq 10, 3) := by decide +kernel
theorem dX7_judge_28 : decode cX7_judge 28 = .ok (.aload_n 0, 1) := by decide +kernel
theorem dX7_judge_29 : decode cX7_judge 29 = .ok (.iload 4, 2) := by decide +kernel
theorem dX7_judge_31 : decode cX7_judge 31 = .ok (.invokevirtual 192, 3) := by decide +kernel
theorem dX7_judge_34 : decode cX7_judge 34 = .ok (.ireturn, 1) := by decide +kernel
set_option maxRecDepth 20000 in
theorem ggX7_meant_X7_shelfAt : GoodIn wsX7_meant wsX7_shelfAt := goodIn_r _ [7, 8, 9, 10, 6, 11, 98, 99, 100, 101, 102, 103, 104, 105, 106] (by decide +kernel) (by decide +kernel)
set_option maxRecDepth 20000 in
theorem gX7_meant_X7_shelfAt : GoodIn wsX7_meant (wsV RX7 59 RX7 yX7_shelfAt wsX7_shelfAt) := goodIn_app (goodIn_of _ (by decide +kernel)) ggX7_meant_X7_shelfAt
set_option maxRecDepth 20000 in
theorem ggX7_meant_X7_refuse : GoodIn wsX7_meant wsX7_refuse := goodIn_r _ [15, 16, 9, 10, 6, 11, 98, 99, 100, 101, 102, 103, 104, 105, 106] (by decide +kernel) (by decide +kernel)
set_option maxRecDepth 20000 in
theorem gX7_meant_X7_refuse : GoodIn wsX7_meant (wsV RX7 63 RX7 yX7_refuse wsX7_refuse) := goodIn_app (goodIn_of _ (by decide +kernel)) ggX7_meant_X7_refuse
set_option maxRecDepth 20000 in
theorem ggX7_meant_X4_noTelling : GoodIn wsX7_meant wsX4_noTelling := goodIn_r _ [21, 22, 23, 24, 25, 20, 26, 27, 116, 117, 118] (by decide +kernel) (by decide +kernel)
set_option maxRecDepth 20000 in
theorem gX7_meant_X4_noTelling : GoodIn wsX7_meant (wsV RX7 249 RX4 yX4_noTelling wsX4_noTelling) := goodIn_app (goodIn_of _ (by decide +kernel)) ggX7_meant_X4_noTelling
theorem dX7_meant_0 : decode cX7_meant 0 = .ok (.aload_n 0, 1) := by decide +kernel
theorem dX7_meant_1 : decode cX7_meant 1 = .ok (.iload_n 1, 1) := by decide +kernel
theorem dX7_meant_2 : decode cX7_meant 2 = .ok (.invokevirtual 59, 3) := by decide +kernel
theorem dX7_meant_5 : decode cX7_meant 5 = .ok (.astore 4, 2) := by decide +kernel
theorem dX7_meant_7 : decode cX7_meant 7 = .ok (.aload 4, 2) := by decide +kernel
theorem dX7_meant_9 : decode cX7_meant 9 = .ok (.ifnonnull 9, 3) := by decide +kernel
theorem dX7_meant_12 : decode cX7_meant 12 = .ok (.aload_n 0, 1) := by decide +kernel
theorem dX7_meant_13 : decode cX7_meant 13 = .ok (.iconst 1, 1) := by decide +kernel
theorem dX7_meant_14 : decode cX7_meant 14 = .ok (.invokevirtual 63, 3) := by decide +kernel
theorem dX7_meant_17 : decode cX7_meant 17 = .ok (.ireturn, 1) := by decide +kernel
theorem dX7_meant_18 : decode cX7_meant 18 = .ok (.aload 4, 2) := by decide +kernel
theorem dX7_meant_20 : decode cX7_meant 20 = .ok (.iload_n 2, 1) := by decide +kernel
theorem dX7_meant_21 : decode cX7_meant 21 = .ok (.invokevirtual 249, 3) := by decide +kernel
theorem dX7_meant_24 : decode cX7_meant 24 = .ok (.istore 5, 2) := by decide +kernel
theorem dX7_meant_26 : decode cX7_meant 26 = .ok (.iload 5, 2) := by decide +kernel
theorem dX7_meant_28 : decode cX7_meant 28 = .ok (.ifCond .eq 10, 3) := by decide +kernel
theorem dX7_meant_31 : decode cX7_meant 31 = .ok (.aload_n 0, 1) := by decide +kernel
theorem dX7_meant_32 : decode cX7_meant 32 = .ok (.iload 5, 2) := by decide +kernel
theorem dX7_meant_34 : decode cX7_meant 34 = .ok (.invokevirtual 63, 3) := by decide +kernel
theorem dX7_meant_37 : decode cX7_meant 37 = .ok (.ireturn, 1) := by decide +kernel
set_option maxRecDepth 20000 in
theorem ggX7_closed_X6_runsTo : GoodIn wsX7_closed wsX6_runsTo := goodIn_r _ [7, 8, 9, 10, 11, 12, 6, 13, 14, 15, 16, 17, 18, 19, 20, 21, 22, 23, 24, 25, 26, 27, 28, 47, 48, 49, 50, 51] (by decide +kernel) (by decide +kernel)
set_option maxRecDepth 20000 in
theorem gX7_closed_X6_runsTo : GoodIn wsX7_closed (wsV RX7 265 RX6 yX6_runsTo wsX6_runsTo) := goodIn_app (goodIn_of _ (by decide +kernel)) ggX7_closed_X6_runsTo
theorem dX7_closed_0 : decode cX7_closed 0 = .ok (.aload_n 0, 1) := by decide +kernel
theorem dX7_closed_1 : decode cX7_closed 1 = .ok (.getfield 18, 3) := by decide +kernel
theorem dX7_closed_4 : decode cX7_closed 4 = .ok (.getfield 140, 3) := by decide +kernel
theorem dX7_closed_7 : decode cX7_closed 7 = .ok (.invokevirtual 265, 3) := by decide +kernel
theorem dX7_closed_10 : decode cX7_closed 10 = .ok (.ireturn, 1) := by decide +kernel
set_option maxRecDepth 20000 in
theorem ggX7_pulls_X0_pullAt : GoodIn wsX7_pulls wsX0_pullAt := goodIn_r _ [7, 8, 9, 10, 11, 12, 83, 84, 85, 86, 87, 88, 89, 90, 91] (by decide +kernel) (by decide +kernel)
set_option maxRecDepth 20000 in
theorem gX7_pulls_X0_pullAt : GoodIn wsX7_pulls (wsV RX7 100 RX0 yX0_pullAt wsX0_pullAt) := goodIn_app (goodIn_of _ (by decide +kernel)) ggX7_pulls_X0_pullAt
set_option maxRecDepth 20000 in
theorem ggX7_pulls_X7_refuse : GoodIn wsX7_pulls wsX7_refuse := goodIn_r _ [16, 17, 18, 10, 11, 12, 74, 75, 76, 77, 78, 79, 80, 81, 82] (by decide +kernel) (by decide +kernel)
set_option maxRecDepth 20000 in
theorem gX7_pulls_X7_refuse : GoodIn wsX7_pulls (wsV RX7 63 RX7 yX7_refuse wsX7_refuse) := goodIn_app (goodIn_of _ (by decide +kernel)) ggX7_pulls_X7_refuse
theorem dX7_pulls_0 : decode cX7_pulls 0 = .ok (.aload_n 0, 1) := by decide +kernel
theorem dX7_pulls_1 : decode cX7_pulls 1 = .ok (.getfield 18, 3) := by decide +kernel
theorem dX7_pulls_4 : decode cX7_pulls 4 = .ok (.iload_n 1, 1) := by decide +kernel
theorem dX7_pulls_5 : decode cX7_pulls 5 = .ok (.invokevirtual 100, 3) := by decide +kernel
theorem dX7_pulls_8 : decode cX7_pulls 8 = .ok (.astore_n 2, 1) := by decide +kernel
theorem dX7_pulls_9 : decode cX7_pulls 9 = .ok (.aload_n 2, 1) := by decide +kernel
theorem dX7_pulls_10 : decode cX7_pulls 10 = .ok (.ifnonnull 9, 3) := by decide +kernel
theorem dX7_pulls_13 : decode cX7_pulls 13 = .ok (.aload_n 0, 1) := by decide +kernel
theorem dX7_pulls_14 : decode cX7_pulls 14 = .ok (.iconst 1, 1) := by decide +kernel
theorem dX7_pulls_15 : decode cX7_pulls 15 = .ok (.invokevirtual 63, 3) := by decide +kernel
theorem dX7_pulls_18 : decode cX7_pulls 18 = .ok (.ireturn, 1) := by decide +kernel
set_option maxRecDepth 20000 in
theorem ggX7_close_X0_closeInTruth : GoodIn wsX7_close wsX0_closeInTruth := goodIn_r _ [18, 19, 20, 21, 22, 23, 24, 25, 26, 27, 28, 29, 30, 31, 32, 33, 34, 35, 36, 37, 38, 39, 40, 17, 41, 42, 43, 44, 45, 46, 47, 48, 49, 50, 51, 61, 62, 63, 64, 65, 66, 67, 68, 69, 70, 71, 72, 73, 74] (by decide +kernel) (by decide +kernel)
set_option maxRecDepth 20000 in
theorem gX7_close_X0_closeInTruth : GoodIn wsX7_close (wsV RX7 272 RX0 yX0_closeInTruth wsX0_closeInTruth) := goodIn_app (goodIn_of _ (by decide +kernel)) ggX7_close_X0_closeInTruth
theorem dX7_close_0 : decode cX7_close 0 = .ok (.aload_n 0, 1) := by decide +kernel
theorem dX7_close_1 : decode cX7_close 1 = .ok (.getfield 18, 3) := by decide +kernel
theorem dX7_close_4 : decode cX7_close 4 = .ok (.getfield 199, 3) := by decide +kernel
theorem dX7_close_7 : decode cX7_close 7 = .ok (.ifCond .eq 10, 3) := by decide +kernel
theorem dX7_close_17 : decode cX7_close 17 = .ok (.aload_n 0, 1) := by decide +kernel
theorem dX7_close_18 : decode cX7_close 18 = .ok (.getfield 18, 3) := by decide +kernel
theorem dX7_close_21 : decode cX7_close 21 = .ok (.invokevirtual 272, 3) := by decide +kernel
theorem dX7_close_24 : decode cX7_close 24 = .ok (.aload_n 0, 1) := by decide +kernel
theorem dX7_close_25 : decode cX7_close 25 = .ok (.getfield 18, 3) := by decide +kernel
theorem dX7_close_28 : decode cX7_close 28 = .ok (.getfield 140, 3) := by decide +kernel
theorem dX7_close_31 : decode cX7_close 31 = .ok (.getfield 275, 3) := by decide +kernel
theorem dX7_close_34 : decode cX7_close 34 = .ok (.ireturn, 1) := by decide +kernel
set_option maxRecDepth 20000 in
theorem ggX7_winter_X7_within : GoodIn wsX7_winter wsX7_within := goodIn_r _ [7] (by decide +kernel) (by decide +kernel)
set_option maxRecDepth 20000 in
theorem gX7_winter_X7_within : GoodIn wsX7_winter (va_wsS RX7 67 yX7_within wsX7_within) := goodIn_app (goodIn_of _ (by decide +kernel)) ggX7_winter_X7_within
set_option maxRecDepth 20000 in
theorem ggX7_winter_X7_refuse : GoodIn wsX7_winter wsX7_refuse := goodIn_r _ [11, 12, 4, 5, 6, 7, 155, 156, 157, 158, 159, 160, 161, 162, 163] (by decide +kernel) (by decide +kernel)
set_option maxRecDepth 20000 in
theorem gX7_winter_X7_refuse : GoodIn wsX7_winter (wsV RX7 63 RX7 yX7_refuse wsX7_refuse) := goodIn_app (goodIn_of _ (by decide +kernel)) ggX7_winter_X7_refuse
set_option maxRecDepth 20000 in
theorem ggX7_winter_X5_look : GoodIn wsX7_winter wsX5_look := goodIn_r _ [17, 18, 19, 20, 21, 22, 23, 24, 25, 26, 27, 28, 29, 30, 31, 32, 33, 34, 35, 36, 37, 38, 39, 40, 41, 42, 43, 5, 6, 7, 44, 45, 46, 47, 164, 165, 166, 167, 168, 169, 170, 171, 172, 173, 174, 175, 176, 177, 178, 179, 180, 181, 182] (by decide +kernel) (by decide +kernel)
set_option maxRecDepth 20000 in
theorem gX7_winter_X5_look : GoodIn wsX7_winter (wsV RX7 195 RX5 yX5_look wsX5_look) := goodIn_app (goodIn_of _ (by decide +kernel)) ggX7_winter_X5_look
set_option maxRecDepth 20000 in
theorem ggX7_winter_X0_dayInTruth : GoodIn wsX7_winter wsX0_dayInTruth := goodIn_r _ [51, 52, 53, 54, 55, 56, 57, 58, 59, 40, 60, 61, 62, 63, 64, 65, 66, 67, 68, 69, 70, 71, 72, 73, 74, 75, 76, 77, 78, 79, 80, 81, 82, 83, 84, 85, 86, 87, 88, 89, 90, 91, 92, 93, 94, 95, 96, 16, 97, 19, 98, 99, 100, 101, 23, 5, 6, 7, 102, 103, 104, 105, 106, 107, 108, 109, 110, 111, 20, 24, 112, 113, 114, 115, 116, 117, 118, 27, 119, 120, 26, 28, 121, 122, 123, 124, 125, 126, 127, 128, 129, 130, 131, 132, 133, 134, 135, 136, 137, 138, 139, 140, 141, 142, 21, 35, 25, 143, 38, 39, 41, 42, 43, 144, 145, 146, 147, 148, 149, 150, 151, 152, 153, 154, 164, 165, 166, 167, 168, 169, 170, 171, 172, 183, 184, 185, 186, 187, 173, 174, 175, 176, 177, 178, 179, 180, 181, 182] (by decide +kernel) (by decide +kernel)
set_option maxRecDepth 20000 in
theorem gX7_winter_X0_dayInTruth : GoodIn wsX7_winter (wsV RX7 278 RX0 yX0_dayInTruth wsX0_dayInTruth) := goodIn_app (goodIn_of _ (by decide +kernel)) ggX7_winter_X0_dayInTruth
theorem dX7_winter_0 : decode cX7_winter 0 = .ok (.iload_n 1, 1) := by decide +kernel
theorem dX7_winter_1 : decode cX7_winter 1 = .ok (.iconst 1, 1) := by decide +kernel
theorem dX7_winter_2 : decode cX7_winter 2 = .ok (.bipush 60, 2) := by decide +kernel
theorem dX7_winter_4 : decode cX7_winter 4 = .ok (.invokestatic 67, 3) := by decide +kernel
theorem dX7_winter_7 : decode cX7_winter 7 = .ok (.ifCond .ne 10, 3) := by decide +kernel
theorem dX7_winter_10 : decode cX7_winter 10 = .ok (.aload_n 0, 1) := by decide +kernel
theorem dX7_winter_11 : decode cX7_winter 11 = .ok (.bipush 6, 2) := by decide +kernel
theorem dX7_winter_13 : decode cX7_winter 13 = .ok (.invokevirtual 63, 3) := by decide +kernel
theorem dX7_winter_16 : decode cX7_winter 16 = .ok (.ireturn, 1) := by decide +kernel
theorem dX7_winter_17 : decode cX7_winter 17 = .ok (.aload_n 0, 1) := by decide +kernel
theorem dX7_winter_18 : decode cX7_winter 18 = .ok (.getfield 28, 3) := by decide +kernel
theorem dX7_winter_21 : decode cX7_winter 21 = .ok (.aload_n 0, 1) := by decide +kernel
theorem dX7_winter_22 : decode cX7_winter 22 = .ok (.getfield 18, 3) := by decide +kernel
theorem dX7_winter_25 : decode cX7_winter 25 = .ok (.aload_n 0, 1) := by decide +kernel
theorem dX7_winter_26 : decode cX7_winter 26 = .ok (.getfield 18, 3) := by decide +kernel
theorem dX7_winter_29 : decode cX7_winter 29 = .ok (.getfield 116, 3) := by decide +kernel
theorem dX7_winter_32 : decode cX7_winter 32 = .ok (.iconst 1, 1) := by decide +kernel
theorem dX7_winter_33 : decode cX7_winter 33 = .ok (.invokevirtual 195, 3) := by decide +kernel
theorem dX7_winter_36 : decode cX7_winter 36 = .ok (.iconst 0, 1) := by decide +kernel
theorem dX7_winter_37 : decode cX7_winter 37 = .ok (.istore_n 2, 1) := by decide +kernel
theorem dX7_winter_38 : decode cX7_winter 38 = .ok (.iconst 0, 1) := by decide +kernel
theorem dX7_winter_39 : decode cX7_winter 39 = .ok (.istore_n 3, 1) := by decide +kernel
theorem dX7_winter_40 : decode cX7_winter 40 = .ok (.iload_n 3, 1) := by decide +kernel
theorem dX7_winter_41 : decode cX7_winter 41 = .ok (.iload_n 1, 1) := by decide +kernel
theorem dX7_winter_42 : decode cX7_winter 42 = .ok (.if_icmp .ge 26, 3) := by decide +kernel
theorem dX7_winter_45 : decode cX7_winter 45 = .ok (.aload_n 0, 1) := by decide +kernel
theorem dX7_winter_46 : decode cX7_winter 46 = .ok (.getfield 18, 3) := by decide +kernel
theorem dX7_winter_49 : decode cX7_winter 49 = .ok (.aload_n 0, 1) := by decide +kernel
theorem dX7_winter_50 : decode cX7_winter 50 = .ok (.getfield 28, 3) := by decide +kernel
theorem dX7_winter_53 : decode cX7_winter 53 = .ok (.invokevirtual 278, 3) := by decide +kernel
theorem dX7_winter_56 : decode cX7_winter 56 = .ok (.ifCond .eq 6, 3) := by decide +kernel
theorem dX7_winter_59 : decode cX7_winter 59 = .ok (.iinc 2 1, 3) := by decide +kernel
theorem dX7_winter_62 : decode cX7_winter 62 = .ok (.iinc 3 1, 3) := by decide +kernel
theorem dX7_winter_65 : decode cX7_winter 65 = .ok (.goto (-25), 3) := by decide +kernel
theorem dX7_winter_68 : decode cX7_winter 68 = .ok (.iload_n 2, 1) := by decide +kernel
theorem dX7_winter_69 : decode cX7_winter 69 = .ok (.ireturn, 1) := by decide +kernel
set_option maxRecDepth 20000 in
theorem ggX7_stitch_X6_has : GoodIn wsX7_stitch wsX6_has := goodIn_r _ [7, 8, 42, 43, 44, 45, 46] (by decide +kernel) (by decide +kernel)
set_option maxRecDepth 20000 in
theorem gX7_stitch_X6_has : GoodIn wsX7_stitch (wsV RX7 153 RX6 yX6_has wsX6_has) := goodIn_app (goodIn_of _ (by decide +kernel)) ggX7_stitch_X6_has
set_option maxRecDepth 20000 in
theorem ggX7_stitch_X7_refuse : GoodIn wsX7_stitch wsX7_refuse := goodIn_r _ [13, 14, 15, 16, 12, 17, 24, 25, 26, 27, 28, 29, 30, 31, 32] (by decide +kernel) (by decide +kernel)
set_option maxRecDepth 20000 in
theorem gX7_stitch_X7_refuse : GoodIn wsX7_stitch (wsV RX7 63 RX7 yX7_refuse wsX7_refuse) := goodIn_app (goodIn_of _ (by decide +kernel)) ggX7_stitch_X7_refuse
set_option maxRecDepth 20000 in
theorem ggX7_stitch_X6_takeSlack : GoodIn wsX7_stitch wsX6_takeSlack := goodIn_r _ [21, 22, 23, 4, 5, 6, 7, 8, 42, 43, 44, 45, 46] (by decide +kernel) (by decide +kernel)
set_option maxRecDepth 20000 in
theorem gX7_stitch_X6_takeSlack : GoodIn wsX7_stitch (wsV RX7 282 RX6 yX6_takeSlack wsX6_takeSlack) := goodIn_app (goodIn_of _ (by decide +kernel)) ggX7_stitch_X6_takeSlack
theorem dX7_stitch_0 : decode cX7_stitch 0 = .ok (.aload_n 0, 1) := by decide +kernel
theorem dX7_stitch_1 : decode cX7_stitch 1 = .ok (.getfield 18, 3) := by decide +kernel
theorem dX7_stitch_4 : decode cX7_stitch 4 = .ok (.getfield 140, 3) := by decide +kernel
theorem dX7_stitch_7 : decode cX7_stitch 7 = .ok (.iload_n 1, 1) := by decide +kernel
theorem dX7_stitch_8 : decode cX7_stitch 8 = .ok (.invokevirtual 153, 3) := by decide +kernel
theorem dX7_stitch_11 : decode cX7_stitch 11 = .ok (.ifCond .ne 9, 3) := by decide +kernel
theorem dX7_stitch_14 : decode cX7_stitch 14 = .ok (.aload_n 0, 1) := by decide +kernel
theorem dX7_stitch_15 : decode cX7_stitch 15 = .ok (.iconst 1, 1) := by decide +kernel
theorem dX7_stitch_16 : decode cX7_stitch 16 = .ok (.invokevirtual 63, 3) := by decide +kernel
theorem dX7_stitch_19 : decode cX7_stitch 19 = .ok (.ireturn, 1) := by decide +kernel
theorem dX7_stitch_20 : decode cX7_stitch 20 = .ok (.aload_n 0, 1) := by decide +kernel
theorem dX7_stitch_21 : decode cX7_stitch 21 = .ok (.getfield 18, 3) := by decide +kernel
theorem dX7_stitch_24 : decode cX7_stitch 24 = .ok (.getfield 140, 3) := by decide +kernel
theorem dX7_stitch_27 : decode cX7_stitch 27 = .ok (.iload_n 1, 1) := by decide +kernel
theorem dX7_stitch_28 : decode cX7_stitch 28 = .ok (.invokevirtual 282, 3) := by decide +kernel
theorem dX7_stitch_31 : decode cX7_stitch 31 = .ok (.ireturn, 1) := by decide +kernel
theorem dX7_seed_0 : decode cX7_seed 0 = .ok (.aload_n 0, 1) := by decide +kernel
theorem dX7_seed_1 : decode cX7_seed 1 = .ok (.getfield 18, 3) := by decide +kernel
theorem dX7_seed_4 : decode cX7_seed 4 = .ok (.getfield 285, 3) := by decide +kernel
theorem dX7_seed_7 : decode cX7_seed 7 = .ok (.istore_n 2, 1) := by decide +kernel
theorem dX7_seed_8 : decode cX7_seed 8 = .ok (.aload_n 0, 1) := by decide +kernel
theorem dX7_seed_9 : decode cX7_seed 9 = .ok (.getfield 18, 3) := by decide +kernel
theorem dX7_seed_12 : decode cX7_seed 12 = .ok (.iload_n 1, 1) := by decide +kernel
theorem dX7_seed_13 : decode cX7_seed 13 = .ok (.putfield 285, 3) := by decide +kernel
theorem dX7_seed_16 : decode cX7_seed 16 = .ok (.iload_n 2, 1) := by decide +kernel
theorem dX7_seed_17 : decode cX7_seed 17 = .ok (.ireturn, 1) := by decide +kernel
set_option maxRecDepth 20000 in
theorem ggX7_act_X0_pullAt : GoodIn wsX7_act wsX0_pullAt := goodIn_r _ [8, 9, 10, 11, 12, 13, 55, 56, 57, 58, 59, 60, 61, 62, 63] (by decide +kernel) (by decide +kernel)
set_option maxRecDepth 20000 in
theorem gX7_act_X0_pullAt : GoodIn wsX7_act (wsV RX7 100 RX0 yX0_pullAt wsX0_pullAt) := goodIn_app (goodIn_of _ (by decide +kernel)) ggX7_act_X0_pullAt
theorem dX7_act_0 : decode cX7_act 0 = .ok (.aload_n 0, 1) := by decide +kernel
theorem dX7_act_1 : decode cX7_act 1 = .ok (.getfield 42, 3) := by decide +kernel
theorem dX7_act_4 : decode cX7_act 4 = .ok (.iconst 0, 1) := by decide +kernel
theorem dX7_act_5 : decode cX7_act 5 = .ok (.putfield 288, 3) := by decide +kernel
theorem dX7_act_8 : decode cX7_act 8 = .ok (.aload_n 0, 1) := by decide +kernel
theorem dX7_act_9 : decode cX7_act 9 = .ok (.getfield 18, 3) := by decide +kernel
theorem dX7_act_12 : decode cX7_act 12 = .ok (.iload_n 1, 1) := by decide +kernel
theorem dX7_act_13 : decode cX7_act 13 = .ok (.invokevirtual 100, 3) := by decide +kernel
theorem dX7_act_16 : decode cX7_act 16 = .ok (.astore 4, 2) := by decide +kernel
theorem dX7_act_18 : decode cX7_act 18 = .ok (.aload 4, 2) := by decide +kernel
theorem dX7_act_20 : decode cX7_act 20 = .ok (.ifnull 12, 3) := by decide +kernel
theorem dX7_act_32 : decode cX7_act 32 = .ok (.iconst 0, 1) := by decide +kernel
theorem dX7_act_33 : decode cX7_act 33 = .ok (.ireturn, 1) := by decide +kernel
set_option maxRecDepth 20000 in
theorem ggX7_trace_X1_bodyAt : GoodIn wsX7_trace wsX1_bodyAt := goodIn_r _ [6, 7, 8, 9, 10, 11, 12, 13, 14, 15, 25, 26, 27, 28, 29] (by decide +kernel) (by decide +kernel)
set_option maxRecDepth 20000 in
theorem gX7_trace_X1_bodyAt : GoodIn wsX7_trace (wsV RX7 295 RX1 yX1_bodyAt wsX1_bodyAt) := goodIn_app (goodIn_of _ (by decide +kernel)) ggX7_trace_X1_bodyAt
theorem dX7_trace_0 : decode cX7_trace 0 = .ok (.aload_n 0, 1) := by decide +kernel
theorem dX7_trace_1 : decode cX7_trace 1 = .ok (.getfield 42, 3) := by decide +kernel
theorem dX7_trace_4 : decode cX7_trace 4 = .ok (.iload_n 1, 1) := by decide +kernel
theorem dX7_trace_5 : decode cX7_trace 5 = .ok (.invokevirtual 295, 3) := by decide +kernel
theorem dX7_trace_8 : decode cX7_trace 8 = .ok (.ireturn, 1) := by decide +kernel
set_option maxRecDepth 20000 in
theorem ggX7_image_X0_become : GoodIn wsX7_image wsX0_become := goodIn_r _ [9, 10, 11, 12, 13, 14, 15, 16, 17, 18, 19, 20, 21, 22, 23, 24, 25, 26, 27, 28, 29, 30, 31, 32, 42, 43, 44, 45, 46, 47, 48, 49, 50, 51, 52, 53, 54, 55] (by decide +kernel) (by decide +kernel)
set_option maxRecDepth 20000 in
theorem gX7_image_X0_become : GoodIn wsX7_image (wsV RX7 298 RX0 yX0_become wsX0_become) := goodIn_app (goodIn_of _ (by decide +kernel)) ggX7_image_X0_become
theorem dX7_image_0 : decode cX7_image 0 = .ok (.aload_n 0, 1) := by decide +kernel
theorem dX7_image_1 : decode cX7_image 1 = .ok (.getfield 22, 3) := by decide +kernel
theorem dX7_image_4 : decode cX7_image 4 = .ok (.aload_n 0, 1) := by decide +kernel
theorem dX7_image_5 : decode cX7_image 5 = .ok (.getfield 18, 3) := by decide +kernel
theorem dX7_image_8 : decode cX7_image 8 = .ok (.invokevirtual 298, 3) := by decide +kernel
theorem dX7_image_11 : decode cX7_image 11 = .ok (.aload_n 0, 1) := by decide +kernel
theorem dX7_image_12 : decode cX7_image 12 = .ok (.iconst 1, 1) := by decide +kernel
theorem dX7_image_13 : decode cX7_image 13 = .ok (.putfield 50, 3) := by decide +kernel
theorem dX7_image_16 : decode cX7_image 16 = .ok (.aload_n 0, 1) := by decide +kernel
theorem dX7_image_17 : decode cX7_image 17 = .ok (.getfield 22, 3) := by decide +kernel
theorem dX7_image_20 : decode cX7_image 20 = .ok (.getfield 123, 3) := by decide +kernel
theorem dX7_image_23 : decode cX7_image 23 = .ok (.ireturn, 1) := by decide +kernel
set_option maxRecDepth 20000 in
theorem ggX7_restore_X7_refuse : GoodIn wsX7_restore wsX7_refuse := goodIn_r _ [10, 11, 12, 13, 9, 14, 49, 50, 51, 52, 53, 54, 55, 56, 57] (by decide +kernel) (by decide +kernel)
set_option maxRecDepth 20000 in
theorem gX7_restore_X7_refuse : GoodIn wsX7_restore (wsV RX7 63 RX7 yX7_refuse wsX7_refuse) := goodIn_app (goodIn_of _ (by decide +kernel)) ggX7_restore_X7_refuse
theorem dX7_restore_0 : decode cX7_restore 0 = .ok (.aload_n 0, 1) := by decide +kernel
theorem dX7_restore_1 : decode cX7_restore 1 = .ok (.getfield 50, 3) := by decide +kernel
theorem dX7_restore_4 : decode cX7_restore 4 = .ok (.ifCond .ne 10, 3) := by decide +kernel
theorem dX7_restore_7 : decode cX7_restore 7 = .ok (.aload_n 0, 1) := by decide +kernel
theorem dX7_restore_8 : decode cX7_restore 8 = .ok (.bipush 6, 2) := by decide +kernel
theorem dX7_restore_10 : decode cX7_restore 10 = .ok (.invokevirtual 63, 3) := by decide +kernel
theorem dX7_restore_13 : decode cX7_restore 13 = .ok (.ireturn, 1) := by decide +kernel
set_option maxRecDepth 20000 in
theorem ggX7_status_X7_within : GoodIn wsX7_status wsX7_within := goodIn_r _ [18] (by decide +kernel) (by decide +kernel)
set_option maxRecDepth 20000 in
theorem gX7_status_X7_within : GoodIn wsX7_status (va_wsS RX7 67 yX7_within wsX7_within) := goodIn_app (goodIn_of _ (by decide +kernel)) ggX7_status_X7_within
theorem dX7_status_0 : decode cX7_status 0 = .ok (.iload_n 1, 1) := by decide +kernel
theorem dX7_status_1 : decode cX7_status 1 = .ok (.bipush 11, 2) := by decide +kernel
theorem dX7_status_3 : decode cX7_status 3 = .ok (.bipush 17, 2) := by decide +kernel
theorem dX7_status_5 : decode cX7_status 5 = .ok (.invokestatic 67, 3) := by decide +kernel
theorem dX7_status_8 : decode cX7_status 8 = .ok (.ifCond .eq 13, 3) := by decide +kernel
theorem dX7_status_11 : decode cX7_status 11 = .ok (.aload_n 0, 1) := by decide +kernel
theorem dX7_status_12 : decode cX7_status 12 = .ok (.getfield 46, 3) := by decide +kernel
theorem dX7_status_15 : decode cX7_status 15 = .ok (.iload_n 1, 1) := by decide +kernel
theorem dX7_status_16 : decode cX7_status 16 = .ok (.bipush 10, 2) := by decide +kernel
theorem dX7_status_18 : decode cX7_status 18 = .ok (.isub, 1) := by decide +kernel
theorem dX7_status_19 : decode cX7_status 19 = .ok (.iaload, 1) := by decide +kernel
theorem dX7_status_20 : decode cX7_status 20 = .ok (.ireturn, 1) := by decide +kernel
theorem dX7_status_21 : decode cX7_status 21 = .ok (.iload_n 1, 1) := by decide +kernel
theorem dX7_status_22 : decode cX7_status 22 = .ok (.tableswitch 143 0 9 #[54, 62, 73, 84, 92, 100, 108, 116, 127, 135], 54) := by decide +kernel
theorem dX7_status_76 : decode cX7_status 76 = .ok (.aload_n 0, 1) := by decide +kernel
theorem dX7_status_77 : decode cX7_status 77 = .ok (.getfield 18, 3) := by decide +kernel
theorem dX7_status_80 : decode cX7_status 80 = .ok (.getfield 123, 3) := by decide +kernel
theorem dX7_status_83 : decode cX7_status 83 = .ok (.ireturn, 1) := by decide +kernel
theorem dX7_status_84 : decode cX7_status 84 = .ok (.aload_n 0, 1) := by decide +kernel
theorem dX7_status_85 : decode cX7_status 85 = .ok (.getfield 18, 3) := by decide +kernel
theorem dX7_status_88 : decode cX7_status 88 = .ok (.getfield 140, 3) := by decide +kernel
theorem dX7_status_91 : decode cX7_status 91 = .ok (.getfield 144, 3) := by decide +kernel
theorem dX7_status_94 : decode cX7_status 94 = .ok (.ireturn, 1) := by decide +kernel
theorem dX7_status_95 : decode cX7_status 95 = .ok (.aload_n 0, 1) := by decide +kernel
theorem dX7_status_96 : decode cX7_status 96 = .ok (.getfield 18, 3) := by decide +kernel
theorem dX7_status_99 : decode cX7_status 99 = .ok (.getfield 140, 3) := by decide +kernel
theorem dX7_status_102 : decode cX7_status 102 = .ok (.getfield 275, 3) := by decide +kernel
theorem dX7_status_105 : decode cX7_status 105 = .ok (.ireturn, 1) := by decide +kernel
theorem dX7_status_106 : decode cX7_status 106 = .ok (.aload_n 0, 1) := by decide +kernel
theorem dX7_status_107 : decode cX7_status 107 = .ok (.getfield 18, 3) := by decide +kernel
theorem dX7_status_110 : decode cX7_status 110 = .ok (.getfield 199, 3) := by decide +kernel
theorem dX7_status_113 : decode cX7_status 113 = .ok (.ireturn, 1) := by decide +kernel
theorem dX7_status_114 : decode cX7_status 114 = .ok (.aload_n 0, 1) := by decide +kernel
theorem dX7_status_115 : decode cX7_status 115 = .ok (.getfield 18, 3) := by decide +kernel
theorem dX7_status_118 : decode cX7_status 118 = .ok (.getfield 304, 3) := by decide +kernel
theorem dX7_status_121 : decode cX7_status 121 = .ok (.ireturn, 1) := by decide +kernel
theorem dX7_status_122 : decode cX7_status 122 = .ok (.aload_n 0, 1) := by decide +kernel
theorem dX7_status_123 : decode cX7_status 123 = .ok (.getfield 18, 3) := by decide +kernel
theorem dX7_status_126 : decode cX7_status 126 = .ok (.getfield 202, 3) := by decide +kernel
theorem dX7_status_129 : decode cX7_status 129 = .ok (.ireturn, 1) := by decide +kernel
theorem dX7_status_130 : decode cX7_status 130 = .ok (.aload_n 0, 1) := by decide +kernel
theorem dX7_status_131 : decode cX7_status 131 = .ok (.getfield 18, 3) := by decide +kernel
theorem dX7_status_134 : decode cX7_status 134 = .ok (.getfield 116, 3) := by decide +kernel
theorem dX7_status_137 : decode cX7_status 137 = .ok (.ireturn, 1) := by decide +kernel
theorem dX7_status_138 : decode cX7_status 138 = .ok (.aload_n 0, 1) := by decide +kernel
theorem dX7_status_139 : decode cX7_status 139 = .ok (.getfield 18, 3) := by decide +kernel
theorem dX7_status_142 : decode cX7_status 142 = .ok (.getfield 140, 3) := by decide +kernel
theorem dX7_status_145 : decode cX7_status 145 = .ok (.getfield 307, 3) := by decide +kernel
theorem dX7_status_148 : decode cX7_status 148 = .ok (.ireturn, 1) := by decide +kernel
theorem dX7_status_149 : decode cX7_status 149 = .ok (.aload_n 0, 1) := by decide +kernel
theorem dX7_status_150 : decode cX7_status 150 = .ok (.getfield 18, 3) := by decide +kernel
theorem dX7_status_153 : decode cX7_status 153 = .ok (.getfield 285, 3) := by decide +kernel
theorem dX7_status_156 : decode cX7_status 156 = .ok (.ireturn, 1) := by decide +kernel
theorem dX7_status_157 : decode cX7_status 157 = .ok (.aload_n 0, 1) := by decide +kernel
theorem dX7_status_158 : decode cX7_status 158 = .ok (.getfield 42, 3) := by decide +kernel
theorem dX7_status_161 : decode cX7_status 161 = .ok (.getfield 288, 3) := by decide +kernel
theorem dX7_status_164 : decode cX7_status 164 = .ok (.ireturn, 1) := by decide +kernel
theorem dX7_status_165 : decode cX7_status 165 = .ok (.iconst (-1), 1) := by decide +kernel
theorem dX7_status_166 : decode cX7_status 166 = .ok (.ireturn, 1) := by decide +kernel
theorem dX7_within_0 : decode cX7_within 0 = .ok (.iload_n 0, 1) := by decide +kernel
theorem dX7_within_1 : decode cX7_within 1 = .ok (.iload_n 1, 1) := by decide +kernel
theorem dX7_within_2 : decode cX7_within 2 = .ok (.if_icmp .lt 12, 3) := by decide +kernel
theorem dX7_within_5 : decode cX7_within 5 = .ok (.iload_n 0, 1) := by decide +kernel
theorem dX7_within_6 : decode cX7_within 6 = .ok (.iload_n 2, 1) := by decide +kernel
theorem dX7_within_7 : decode cX7_within 7 = .ok (.if_icmp .gt 7, 3) := by decide +kernel
theorem dX7_within_10 : decode cX7_within 10 = .ok (.iconst 1, 1) := by decide +kernel
theorem dX7_within_11 : decode cX7_within 11 = .ok (.goto 4, 3) := by decide +kernel
theorem dX7_within_14 : decode cX7_within 14 = .ok (.iconst 0, 1) := by decide +kernel
theorem dX7_within_15 : decode cX7_within 15 = .ok (.ireturn, 1) := by decide +kernel
set_option maxRecDepth 20000 in
theorem ggX7_refuse_X7_within : GoodIn wsX7_refuse wsX7_within := goodIn_r _ [5] (by decide +kernel) (by decide +kernel)
set_option maxRecDepth 20000 in
theorem gX7_refuse_X7_within : GoodIn wsX7_refuse (va_wsS RX7 67 yX7_within wsX7_within) := goodIn_app (goodIn_of _ (by decide +kernel)) ggX7_refuse_X7_within
theorem dX7_refuse_0 : decode cX7_refuse 0 = .ok (.iload_n 1, 1) := by decide +kernel
theorem dX7_refuse_1 : decode cX7_refuse 1 = .ok (.iconst 1, 1) := by decide +kernel
theorem dX7_refuse_2 : decode cX7_refuse 2 = .ok (.bipush 7, 2) := by decide +kernel
theorem dX7_refuse_4 : decode cX7_refuse 4 = .ok (.invokestatic 67, 3) := by decide +kernel
theorem dX7_refuse_7 : decode cX7_refuse 7 = .ok (.ifCond .eq 13, 3) := by decide +kernel
theorem dX7_refuse_10 : decode cX7_refuse 10 = .ok (.aload_n 0, 1) := by decide +kernel
theorem dX7_refuse_11 : decode cX7_refuse 11 = .ok (.getfield 46, 3) := by decide +kernel
theorem dX7_refuse_14 : decode cX7_refuse 14 = .ok (.iload_n 1, 1) := by decide +kernel
theorem dX7_refuse_15 : decode cX7_refuse 15 = .ok (.dup2, 1) := by decide +kernel
theorem dX7_refuse_16 : decode cX7_refuse 16 = .ok (.iaload, 1) := by decide +kernel
theorem dX7_refuse_17 : decode cX7_refuse 17 = .ok (.iconst 1, 1) := by decide +kernel
theorem dX7_refuse_18 : decode cX7_refuse 18 = .ok (.iadd, 1) := by decide +kernel
theorem dX7_refuse_19 : decode cX7_refuse 19 = .ok (.iastore, 1) := by decide +kernel
theorem dX7_refuse_20 : decode cX7_refuse 20 = .ok (.iload_n 1, 1) := by decide +kernel
theorem dX7_refuse_21 : decode cX7_refuse 21 = .ok (.ineg, 1) := by decide +kernel
theorem dX7_refuse_22 : decode cX7_refuse 22 = .ok (.ireturn, 1) := by decide +kernel
set_option maxRecDepth 20000 in
theorem ggX7_refuseLower_X7_refuse : GoodIn wsX7_refuseLower wsX7_refuse := goodIn_r _ [5, 6, 7, 8, 4, 9, 10, 11, 12, 13, 14, 15, 16, 17, 18] (by decide +kernel) (by decide +kernel)
set_option maxRecDepth 20000 in
theorem gX7_refuseLower_X7_refuse : GoodIn wsX7_refuseLower (wsV RX7 63 RX7 yX7_refuse wsX7_refuse) := goodIn_app (goodIn_of _ (by decide +kernel)) ggX7_refuseLower_X7_refuse
theorem dX7_refuseLower_0 : decode cX7_refuseLower 0 = .ok (.aload_n 0, 1) := by decide +kernel
theorem dX7_refuseLower_1 : decode cX7_refuseLower 1 = .ok (.iload_n 1, 1) := by decide +kernel
theorem dX7_refuseLower_2 : decode cX7_refuseLower 2 = .ok (.invokevirtual 63, 3) := by decide +kernel
theorem dX7_refuseLower_5 : decode cX7_refuseLower 5 = .ok (.bipush 10, 2) := by decide +kernel
theorem dX7_refuseLower_7 : decode cX7_refuseLower 7 = .ok (.isub, 1) := by decide +kernel
theorem dX7_refuseLower_8 : decode cX7_refuseLower 8 = .ok (.ireturn, 1) := by decide +kernel
set_option maxRecDepth 20000 in
theorem ggX7_shelfAt_X7_within : GoodIn wsX7_shelfAt wsX7_within := goodIn_r _ [5] (by decide +kernel) (by decide +kernel)
set_option maxRecDepth 20000 in
theorem gX7_shelfAt_X7_within : GoodIn wsX7_shelfAt (va_wsS RX7 67 yX7_within wsX7_within) := goodIn_app (goodIn_of _ (by decide +kernel)) ggX7_shelfAt_X7_within
theorem dX7_shelfAt_0 : decode cX7_shelfAt 0 = .ok (.iload_n 1, 1) := by decide +kernel
theorem dX7_shelfAt_1 : decode cX7_shelfAt 1 = .ok (.iconst 0, 1) := by decide +kernel
theorem dX7_shelfAt_2 : decode cX7_shelfAt 2 = .ok (.bipush 7, 2) := by decide +kernel
theorem dX7_shelfAt_4 : decode cX7_shelfAt 4 = .ok (.invokestatic 67, 3) := by decide +kernel
theorem dX7_shelfAt_7 : decode cX7_shelfAt 7 = .ok (.ifCond .eq 12, 3) := by decide +kernel
theorem dX7_shelfAt_10 : decode cX7_shelfAt 10 = .ok (.aload_n 0, 1) := by decide +kernel
theorem dX7_shelfAt_11 : decode cX7_shelfAt 11 = .ok (.getfield 11, 3) := by decide +kernel
theorem dX7_shelfAt_14 : decode cX7_shelfAt 14 = .ok (.iload_n 1, 1) := by decide +kernel
theorem dX7_shelfAt_15 : decode cX7_shelfAt 15 = .ok (.aaload, 1) := by decide +kernel
theorem dX7_shelfAt_16 : decode cX7_shelfAt 16 = .ok (.goto 4, 3) := by decide +kernel
theorem dX7_shelfAt_19 : decode cX7_shelfAt 19 = .ok (.aconst_null, 1) := by decide +kernel
theorem dX7_shelfAt_20 : decode cX7_shelfAt 20 = .ok (.areturn, 1) := by decide +kernel
set_option maxRecDepth 20000 in
theorem ggX7_casesBy_X5_look : GoodIn wsX7_casesBy wsX5_look := goodIn_r _ [9, 10, 11, 12, 13, 14, 15, 16, 17, 18, 19, 20, 21, 22, 23, 24, 25, 26, 27, 28, 29, 30, 31, 32, 33, 34, 35, 36, 37, 38, 39, 40, 41, 42, 97, 98, 99, 100, 101, 102, 103, 104, 105, 106, 107, 108, 109, 110, 111, 112, 113, 114, 115] (by decide +kernel) (by decide +kernel)
set_option maxRecDepth 20000 in
theorem gX7_casesBy_X5_look : GoodIn wsX7_casesBy (wsV RX7 195 RX5 yX5_look wsX5_look) := goodIn_app (goodIn_of _ (by decide +kernel)) ggX7_casesBy_X5_look
set_option maxRecDepth 20000 in
theorem ggX7_casesBy_X5_most : GoodIn wsX7_casesBy wsX5_most := goodIn_r _ [45, 46, 13, 27, 11, 17, 18, 19, 20, 47, 48, 49, 8, 50, 15, 36, 37, 38, 51, 52, 53, 54, 55, 56, 57, 58, 59, 60, 12, 16, 61, 62, 63, 64, 65, 66, 67, 68, 69, 70, 71, 72, 73, 74, 75, 76, 77, 78, 79, 80, 81, 82, 83, 43, 44, 84, 85, 86, 87, 106, 107, 108, 109, 110, 111, 112, 113, 114, 115] (by decide +kernel) (by decide +kernel)
set_option maxRecDepth 20000 in
theorem gX7_casesBy_X5_most_n208 : GoodIn wsX7_casesBy (wsX5_most) := ggX7_casesBy_X5_most
theorem dX7_casesBy_0 : decode cX7_casesBy 0 = .ok (.aload_n 0, 1) := by decide +kernel
theorem dX7_casesBy_1 : decode cX7_casesBy 1 = .ok (.getfield 28, 3) := by decide +kernel
theorem dX7_casesBy_4 : decode cX7_casesBy 4 = .ok (.aload_n 0, 1) := by decide +kernel
theorem dX7_casesBy_5 : decode cX7_casesBy 5 = .ok (.getfield 18, 3) := by decide +kernel
theorem dX7_casesBy_8 : decode cX7_casesBy 8 = .ok (.iload_n 1, 1) := by decide +kernel
theorem dX7_casesBy_9 : decode cX7_casesBy 9 = .ok (.iconst 1, 1) := by decide +kernel
theorem dX7_casesBy_10 : decode cX7_casesBy 10 = .ok (.invokevirtual 195, 3) := by decide +kernel
theorem dX7_casesBy_13 : decode cX7_casesBy 13 = .ok (.aload_n 0, 1) := by decide +kernel
theorem dX7_casesBy_14 : decode cX7_casesBy 14 = .ok (.getfield 28, 3) := by decide +kernel
theorem dX7_casesBy_17 : decode cX7_casesBy 17 = .ok (.iload_n 2, 1) := by decide +kernel
theorem dX7_casesBy_18 : decode cX7_casesBy 18 = .ok (.aload_n 0, 1) := by decide +kernel
theorem dX7_casesBy_19 : decode cX7_casesBy 19 = .ok (.getfield 18, 3) := by decide +kernel
theorem dX7_casesBy_22 : decode cX7_casesBy 22 = .ok (.getfield 199, 3) := by decide +kernel
theorem dX7_casesBy_25 : decode cX7_casesBy 25 = .ok (.aload_n 0, 1) := by decide +kernel
theorem dX7_casesBy_26 : decode cX7_casesBy 26 = .ok (.getfield 18, 3) := by decide +kernel
theorem dX7_casesBy_29 : decode cX7_casesBy 29 = .ok (.getfield 202, 3) := by decide +kernel
theorem dX7_casesBy_32 : decode cX7_casesBy 32 = .ok (.invokevirtual 208, 3) := by decide +kernel
theorem dX7_casesBy_35 : decode cX7_casesBy 35 = .ok (.ireturn, 1) := by decide +kernel
theorem dX8_no_0 : decode cX8_no 0 = .ok (.aload_n 0, 1) := by decide +kernel
theorem dX8_no_1 : decode cX8_no 1 = .ok (.getfield 25, 3) := by decide +kernel
theorem dX8_no_4 : decode cX8_no 4 = .ok (.iload_n 1, 1) := by decide +kernel
theorem dX8_no_5 : decode cX8_no 5 = .ok (.ineg, 1) := by decide +kernel
theorem dX8_no_6 : decode cX8_no 6 = .ok (.dup2, 1) := by decide +kernel
theorem dX8_no_7 : decode cX8_no 7 = .ok (.iaload, 1) := by decide +kernel
theorem dX8_no_8 : decode cX8_no 8 = .ok (.iconst 1, 1) := by decide +kernel
theorem dX8_no_9 : decode cX8_no 9 = .ok (.iadd, 1) := by decide +kernel
theorem dX8_no_10 : decode cX8_no 10 = .ok (.iastore, 1) := by decide +kernel
theorem dX8_no_11 : decode cX8_no 11 = .ok (.iload_n 1, 1) := by decide +kernel
theorem dX8_no_12 : decode cX8_no 12 = .ok (.ireturn, 1) := by decide +kernel
theorem dX8_noTen_0 : decode cX8_noTen 0 = .ok (.aload_n 0, 1) := by decide +kernel
theorem dX8_noTen_1 : decode cX8_noTen 1 = .ok (.getfield 25, 3) := by decide +kernel
theorem dX8_noTen_4 : decode cX8_noTen 4 = .ok (.iload_n 1, 1) := by decide +kernel
theorem dX8_noTen_5 : decode cX8_noTen 5 = .ok (.ineg, 1) := by decide +kernel
theorem dX8_noTen_6 : decode cX8_noTen 6 = .ok (.dup2, 1) := by decide +kernel
theorem dX8_noTen_7 : decode cX8_noTen 7 = .ok (.iaload, 1) := by decide +kernel
theorem dX8_noTen_8 : decode cX8_noTen 8 = .ok (.iconst 1, 1) := by decide +kernel
theorem dX8_noTen_9 : decode cX8_noTen 9 = .ok (.iadd, 1) := by decide +kernel
theorem dX8_noTen_10 : decode cX8_noTen 10 = .ok (.iastore, 1) := by decide +kernel
theorem dX8_noTen_11 : decode cX8_noTen 11 = .ok (.iload_n 1, 1) := by decide +kernel
theorem dX8_noTen_12 : decode cX8_noTen 12 = .ok (.bipush 10, 2) := by decide +kernel
theorem dX8_noTen_14 : decode cX8_noTen 14 = .ok (.isub, 1) := by decide +kernel
theorem dX8_noTen_15 : decode cX8_noTen 15 = .ok (.ireturn, 1) := by decide +kernel
theorem dX8_isShelf_0 : decode cX8_isShelf 0 = .ok (.iload_n 1, 1) := by decide +kernel
theorem dX8_isShelf_1 : decode cX8_isShelf 1 = .ok (.ifCond .lt 13, 3) := by decide +kernel
theorem dX8_isShelf_4 : decode cX8_isShelf 4 = .ok (.iload_n 1, 1) := by decide +kernel
theorem dX8_isShelf_5 : decode cX8_isShelf 5 = .ok (.bipush 8, 2) := by decide +kernel
theorem dX8_isShelf_7 : decode cX8_isShelf 7 = .ok (.if_icmp .ge 7, 3) := by decide +kernel
theorem dX8_isShelf_10 : decode cX8_isShelf 10 = .ok (.iconst 1, 1) := by decide +kernel
theorem dX8_isShelf_11 : decode cX8_isShelf 11 = .ok (.goto 4, 3) := by decide +kernel
theorem dX8_isShelf_14 : decode cX8_isShelf 14 = .ok (.iconst 0, 1) := by decide +kernel
theorem dX8_isShelf_15 : decode cX8_isShelf 15 = .ok (.ireturn, 1) := by decide +kernel
theorem dX8_isPull_0 : decode cX8_isPull 0 = .ok (.iload_n 1, 1) := by decide +kernel
theorem dX8_isPull_1 : decode cX8_isPull 1 = .ok (.ifCond .lt 15, 3) := by decide +kernel
theorem dX8_isPull_4 : decode cX8_isPull 4 = .ok (.iload_n 1, 1) := by decide +kernel
theorem dX8_isPull_5 : decode cX8_isPull 5 = .ok (.aload_n 0, 1) := by decide +kernel
theorem dX8_isPull_6 : decode cX8_isPull 6 = .ok (.getfield 90, 3) := by decide +kernel
theorem dX8_isPull_9 : decode cX8_isPull 9 = .ok (.if_icmp .ge 7, 3) := by decide +kernel
theorem dX8_isPull_16 : decode cX8_isPull 16 = .ok (.iconst 0, 1) := by decide +kernel
theorem dX8_isPull_17 : decode cX8_isPull 17 = .ok (.ireturn, 1) := by decide +kernel
theorem dX8_isTooth_0 : decode cX8_isTooth 0 = .ok (.iload_n 1, 1) := by decide +kernel
theorem dX8_isTooth_1 : decode cX8_isTooth 1 = .ok (.ifCond .lt 15, 3) := by decide +kernel
theorem dX8_isTooth_4 : decode cX8_isTooth 4 = .ok (.iload_n 1, 1) := by decide +kernel
theorem dX8_isTooth_5 : decode cX8_isTooth 5 = .ok (.aload_n 0, 1) := by decide +kernel
theorem dX8_isTooth_6 : decode cX8_isTooth 6 = .ok (.getfield 7, 3) := by decide +kernel
theorem dX8_isTooth_9 : decode cX8_isTooth 9 = .ok (.if_icmp .ge 7, 3) := by decide +kernel
theorem dX8_isTooth_12 : decode cX8_isTooth 12 = .ok (.iconst 1, 1) := by decide +kernel
theorem dX8_isTooth_13 : decode cX8_isTooth 13 = .ok (.goto 4, 3) := by decide +kernel
theorem dX8_isTooth_16 : decode cX8_isTooth 16 = .ok (.iconst 0, 1) := by decide +kernel
theorem dX8_isTooth_17 : decode cX8_isTooth 17 = .ok (.ireturn, 1) := by decide +kernel
set_option maxRecDepth 20000 in
theorem ggX8_row_X8_isShelf : GoodIn wsX8_row wsX8_isShelf := goodIn_r _ [9] (by decide +kernel) (by decide +kernel)
set_option maxRecDepth 20000 in
theorem gX8_row_X8_isShelf : GoodIn wsX8_row (wsV RX8 93 RX8 yX8_isShelf wsX8_isShelf) := goodIn_app (goodIn_of _ (by decide +kernel)) ggX8_row_X8_isShelf
set_option maxRecDepth 20000 in
theorem ggX8_row_X8_no : GoodIn wsX8_row wsX8_no := goodIn_r _ [13, 14, 15, 16, 17, 18, 19, 20, 21, 22, 23, 24, 25, 26, 27, 28, 29, 30, 31, 32, 33, 34, 35, 36, 37, 38, 39, 40, 41, 42, 43, 44, 45, 46, 47, 48, 49, 50, 51, 52] (by decide +kernel) (by decide +kernel)
set_option maxRecDepth 20000 in
theorem gX8_row_X8_no : GoodIn wsX8_row (wsV RX8 97 RX8 yX8_no wsX8_no) := goodIn_app (goodIn_of _ (by decide +kernel)) ggX8_row_X8_no
theorem dX8_row_0 : decode cX8_row 0 = .ok (.aload_n 0, 1) := by decide +kernel
theorem dX8_row_1 : decode cX8_row 1 = .ok (.iload_n 1, 1) := by decide +kernel
theorem dX8_row_2 : decode cX8_row 2 = .ok (.invokevirtual 93, 3) := by decide +kernel
theorem dX8_row_5 : decode cX8_row 5 = .ok (.ifCond .ne 9, 3) := by decide +kernel
theorem dX8_row_8 : decode cX8_row 8 = .ok (.aload_n 0, 1) := by decide +kernel
theorem dX8_row_9 : decode cX8_row 9 = .ok (.iconst (-1), 1) := by decide +kernel
theorem dX8_row_10 : decode cX8_row 10 = .ok (.invokevirtual 97, 3) := by decide +kernel
theorem dX8_row_13 : decode cX8_row 13 = .ok (.ireturn, 1) := by decide +kernel
theorem dX8_row_14 : decode cX8_row 14 = .ok (.iload_n 3, 1) := by decide +kernel
theorem dX8_row_15 : decode cX8_row 15 = .ok (.ifCond .ge 10, 3) := by decide +kernel
theorem dX8_row_18 : decode cX8_row 18 = .ok (.aload_n 0, 1) := by decide +kernel
theorem dX8_row_19 : decode cX8_row 19 = .ok (.bipush (-4), 2) := by decide +kernel
theorem dX8_row_21 : decode cX8_row 21 = .ok (.invokevirtual 97, 3) := by decide +kernel
theorem dX8_row_24 : decode cX8_row 24 = .ok (.ireturn, 1) := by decide +kernel
theorem dX8_row_25 : decode cX8_row 25 = .ok (.iload_n 2, 1) := by decide +kernel
theorem dX8_row_26 : decode cX8_row 26 = .ok (.ifCond .lt 8, 3) := by decide +kernel
theorem dX8_row_29 : decode cX8_row 29 = .ok (.iload_n 2, 1) := by decide +kernel
theorem dX8_row_30 : decode cX8_row 30 = .ok (.iconst 3, 1) := by decide +kernel
theorem dX8_row_31 : decode cX8_row 31 = .ok (.if_icmp .le 10, 3) := by decide +kernel
theorem dX8_row_34 : decode cX8_row 34 = .ok (.aload_n 0, 1) := by decide +kernel
theorem dX8_row_35 : decode cX8_row 35 = .ok (.bipush (-6), 2) := by decide +kernel
theorem dX8_row_37 : decode cX8_row 37 = .ok (.invokevirtual 97, 3) := by decide +kernel
theorem dX8_row_40 : decode cX8_row 40 = .ok (.ireturn, 1) := by decide +kernel
theorem dX8_row_41 : decode cX8_row 41 = .ok (.iload_n 3, 1) := by decide +kernel
theorem dX8_row_42 : decode cX8_row 42 = .ok (.sipush 160, 3) := by decide +kernel
theorem dX8_row_45 : decode cX8_row 45 = .ok (.if_icmp .le 10, 3) := by decide +kernel
theorem dX8_row_48 : decode cX8_row 48 = .ok (.aload_n 0, 1) := by decide +kernel
theorem dX8_row_49 : decode cX8_row 49 = .ok (.bipush (-7), 2) := by decide +kernel
theorem dX8_row_51 : decode cX8_row 51 = .ok (.invokevirtual 97, 3) := by decide +kernel
theorem dX8_row_54 : decode cX8_row 54 = .ok (.ireturn, 1) := by decide +kernel
theorem dX8_row_55 : decode cX8_row 55 = .ok (.aload_n 0, 1) := by decide +kernel
theorem dX8_row_56 : decode cX8_row 56 = .ok (.getfield 47, 3) := by decide +kernel
theorem dX8_row_59 : decode cX8_row 59 = .ok (.iload_n 1, 1) := by decide +kernel
theorem dX8_row_60 : decode cX8_row 60 = .ok (.iconst 1, 1) := by decide +kernel
theorem dX8_row_61 : decode cX8_row 61 = .ok (.iastore, 1) := by decide +kernel
theorem dX8_row_62 : decode cX8_row 62 = .ok (.aload_n 0, 1) := by decide +kernel
theorem dX8_row_63 : decode cX8_row 63 = .ok (.getfield 50, 3) := by decide +kernel
theorem dX8_row_66 : decode cX8_row 66 = .ok (.iload_n 1, 1) := by decide +kernel
theorem dX8_row_67 : decode cX8_row 67 = .ok (.iload_n 2, 1) := by decide +kernel
theorem dX8_row_68 : decode cX8_row 68 = .ok (.iastore, 1) := by decide +kernel
theorem dX8_row_69 : decode cX8_row 69 = .ok (.aload_n 0, 1) := by decide +kernel
theorem dX8_row_70 : decode cX8_row 70 = .ok (.getfield 53, 3) := by decide +kernel
theorem dX8_row_73 : decode cX8_row 73 = .ok (.iload_n 1, 1) := by decide +kernel
theorem dX8_row_74 : decode cX8_row 74 = .ok (.iload_n 3, 1) := by decide +kernel
theorem dX8_row_75 : decode cX8_row 75 = .ok (.iastore, 1) := by decide +kernel
theorem dX8_row_76 : decode cX8_row 76 = .ok (.iconst 0, 1) := by decide +kernel
theorem dX8_row_77 : decode cX8_row 77 = .ok (.istore 4, 2) := by decide +kernel
theorem dX8_row_79 : decode cX8_row 79 = .ok (.iload 4, 2) := by decide +kernel
theorem dX8_row_81 : decode cX8_row 81 = .ok (.sipush 160, 3) := by decide +kernel
theorem dX8_row_84 : decode cX8_row 84 = .ok (.if_icmp .ge 23, 3) := by decide +kernel
theorem dX8_row_87 : decode cX8_row 87 = .ok (.aload_n 0, 1) := by decide +kernel
theorem dX8_row_88 : decode cX8_row 88 = .ok (.getfield 59, 3) := by decide +kernel
theorem dX8_row_91 : decode cX8_row 91 = .ok (.sipush 160, 3) := by decide +kernel
theorem dX8_row_94 : decode cX8_row 94 = .ok (.iload_n 1, 1) := by decide +kernel
theorem dX8_row_95 : decode cX8_row 95 = .ok (.imul, 1) := by decide +kernel
theorem dX8_row_96 : decode cX8_row 96 = .ok (.iload 4, 2) := by decide +kernel
theorem dX8_row_98 : decode cX8_row 98 = .ok (.iadd, 1) := by decide +kernel
theorem dX8_row_99 : decode cX8_row 99 = .ok (.lconst 0, 1) := by decide +kernel
theorem dX8_row_100 : decode cX8_row 100 = .ok (.lastore, 1) := by decide +kernel
theorem dX8_row_101 : decode cX8_row 101 = .ok (.iinc 4 1, 3) := by decide +kernel
theorem dX8_row_104 : decode cX8_row 104 = .ok (.goto (-25), 3) := by decide +kernel
theorem dX8_row_107 : decode cX8_row 107 = .ok (.iconst 1, 1) := by decide +kernel
theorem dX8_row_108 : decode cX8_row 108 = .ok (.ireturn, 1) := by decide +kernel
set_option maxRecDepth 20000 in
theorem ggX8_set_X8_isShelf : GoodIn wsX8_set wsX8_isShelf := goodIn_r _ [9] (by decide +kernel) (by decide +kernel)
set_option maxRecDepth 20000 in
theorem gX8_set_X8_isShelf : GoodIn wsX8_set (wsV RX8 93 RX8 yX8_isShelf wsX8_isShelf) := goodIn_app (goodIn_of _ (by decide +kernel)) ggX8_set_X8_isShelf
set_option maxRecDepth 20000 in
theorem ggX8_set_X8_no : GoodIn wsX8_set wsX8_no := goodIn_r _ [13, 14, 15, 16, 17, 18, 19, 20, 21, 22, 23, 24, 25, 26, 27, 28, 29, 30, 31, 32, 33, 34, 35, 36, 37, 38, 39, 40, 41, 42, 43, 44, 45, 46, 47, 48, 49, 50, 51, 52] (by decide +kernel) (by decide +kernel)
set_option maxRecDepth 20000 in
theorem gX8_set_X8_no : GoodIn wsX8_set (wsV RX8 97 RX8 yX8_no wsX8_no) := goodIn_app (goodIn_of _ (by decide +kernel)) ggX8_set_X8_no
theorem dX8_set_0 : decode cX8_set 0 = .ok (.aload_n 0, 1) := by decide +kernel
theorem dX8_set_1 : decode cX8_set 1 = .ok (.iload_n 1, 1) := by decide +kernel
theorem dX8_set_2 : decode cX8_set 2 = .ok (.invokevirtual 93, 3) := by decide +kernel
theorem dX8_set_5 : decode cX8_set 5 = .ok (.ifCond .ne 9, 3) := by decide +kernel
theorem dX8_set_8 : decode cX8_set 8 = .ok (.aload_n 0, 1) := by decide +kernel
theorem dX8_set_9 : decode cX8_set 9 = .ok (.iconst (-1), 1) := by decide +kernel
theorem dX8_set_10 : decode cX8_set 10 = .ok (.invokevirtual 97, 3) := by decide +kernel
theorem dX8_set_13 : decode cX8_set 13 = .ok (.ireturn, 1) := by decide +kernel
theorem dX8_set_14 : decode cX8_set 14 = .ok (.aload_n 0, 1) := by decide +kernel
theorem dX8_set_15 : decode cX8_set 15 = .ok (.getfield 47, 3) := by decide +kernel
theorem dX8_set_18 : decode cX8_set 18 = .ok (.iload_n 1, 1) := by decide +kernel
theorem dX8_set_19 : decode cX8_set 19 = .ok (.iaload, 1) := by decide +kernel
theorem dX8_set_20 : decode cX8_set 20 = .ok (.iconst 2, 1) := by decide +kernel
theorem dX8_set_21 : decode cX8_set 21 = .ok (.if_icmp .ne 10, 3) := by decide +kernel
theorem dX8_set_31 : decode cX8_set 31 = .ok (.aload_n 0, 1) := by decide +kernel
theorem dX8_set_32 : decode cX8_set 32 = .ok (.getfield 47, 3) := by decide +kernel
theorem dX8_set_35 : decode cX8_set 35 = .ok (.iload_n 1, 1) := by decide +kernel
theorem dX8_set_36 : decode cX8_set 36 = .ok (.iaload, 1) := by decide +kernel
theorem dX8_set_37 : decode cX8_set 37 = .ok (.ifCond .ne 10, 3) := by decide +kernel
theorem dX8_set_40 : decode cX8_set 40 = .ok (.aload_n 0, 1) := by decide +kernel
theorem dX8_set_41 : decode cX8_set 41 = .ok (.bipush (-3), 2) := by decide +kernel
theorem dX8_set_43 : decode cX8_set 43 = .ok (.invokevirtual 97, 3) := by decide +kernel
theorem dX8_set_46 : decode cX8_set 46 = .ok (.ireturn, 1) := by decide +kernel
set_option maxRecDepth 20000 in
theorem ggX8_copy_X8_isShelf : GoodIn wsX8_copy wsX8_isShelf := goodIn_r _ [10] (by decide +kernel) (by decide +kernel)
set_option maxRecDepth 20000 in
theorem gX8_copy_X8_isShelf : GoodIn wsX8_copy (wsV RX8 93 RX8 yX8_isShelf wsX8_isShelf) := goodIn_app (goodIn_of _ (by decide +kernel)) ggX8_copy_X8_isShelf
set_option maxRecDepth 20000 in
theorem ggX8_copy_X8_no : GoodIn wsX8_copy wsX8_no := goodIn_r _ [14, 15, 16, 17, 18, 19, 20, 21, 22, 23, 24, 25, 26, 27, 28, 29, 30, 31, 32, 33, 34, 35, 36, 37, 38, 39, 40, 41, 42, 43, 44, 45, 46, 47, 48, 49, 50, 51, 52, 53] (by decide +kernel) (by decide +kernel)
set_option maxRecDepth 20000 in
theorem gX8_copy_X8_no : GoodIn wsX8_copy (wsV RX8 97 RX8 yX8_no wsX8_no) := goodIn_app (goodIn_of _ (by decide +kernel)) ggX8_copy_X8_no
theorem dX8_copy_0 : decode cX8_copy 0 = .ok (.aload_n 0, 1) := by decide +kernel
theorem dX8_copy_1 : decode cX8_copy 1 = .ok (.iload_n 1, 1) := by decide +kernel
theorem dX8_copy_2 : decode cX8_copy 2 = .ok (.invokevirtual 93, 3) := by decide +kernel
theorem dX8_copy_5 : decode cX8_copy 5 = .ok (.ifCond .eq 11, 3) := by decide +kernel
theorem dX8_copy_8 : decode cX8_copy 8 = .ok (.aload_n 0, 1) := by decide +kernel
theorem dX8_copy_9 : decode cX8_copy 9 = .ok (.iload_n 2, 1) := by decide +kernel
theorem dX8_copy_10 : decode cX8_copy 10 = .ok (.invokevirtual 93, 3) := by decide +kernel
theorem dX8_copy_13 : decode cX8_copy 13 = .ok (.ifCond .ne 9, 3) := by decide +kernel
theorem dX8_copy_16 : decode cX8_copy 16 = .ok (.aload_n 0, 1) := by decide +kernel
theorem dX8_copy_17 : decode cX8_copy 17 = .ok (.iconst (-1), 1) := by decide +kernel
theorem dX8_copy_18 : decode cX8_copy 18 = .ok (.invokevirtual 97, 3) := by decide +kernel
theorem dX8_copy_21 : decode cX8_copy 21 = .ok (.ireturn, 1) := by decide +kernel
theorem dX8_copy_22 : decode cX8_copy 22 = .ok (.aload_n 0, 1) := by decide +kernel
theorem dX8_copy_23 : decode cX8_copy 23 = .ok (.getfield 47, 3) := by decide +kernel
theorem dX8_copy_26 : decode cX8_copy 26 = .ok (.iload_n 1, 1) := by decide +kernel
theorem dX8_copy_27 : decode cX8_copy 27 = .ok (.iaload, 1) := by decide +kernel
theorem dX8_copy_28 : decode cX8_copy 28 = .ok (.iconst 2, 1) := by decide +kernel
theorem dX8_copy_29 : decode cX8_copy 29 = .ok (.if_icmp .eq 48, 3) := by decide +kernel
theorem dX8_copy_32 : decode cX8_copy 32 = .ok (.aload_n 0, 1) := by decide +kernel
theorem dX8_copy_33 : decode cX8_copy 33 = .ok (.getfield 47, 3) := by decide +kernel
theorem dX8_copy_36 : decode cX8_copy 36 = .ok (.iload_n 2, 1) := by decide +kernel
theorem dX8_copy_37 : decode cX8_copy 37 = .ok (.iaload, 1) := by decide +kernel
theorem dX8_copy_38 : decode cX8_copy 38 = .ok (.iconst 2, 1) := by decide +kernel
theorem dX8_copy_39 : decode cX8_copy 39 = .ok (.if_icmp .eq 38, 3) := by decide +kernel
theorem dX8_copy_42 : decode cX8_copy 42 = .ok (.aload_n 0, 1) := by decide +kernel
theorem dX8_copy_43 : decode cX8_copy 43 = .ok (.getfield 47, 3) := by decide +kernel
theorem dX8_copy_46 : decode cX8_copy 46 = .ok (.iload_n 1, 1) := by decide +kernel
theorem dX8_copy_47 : decode cX8_copy 47 = .ok (.iaload, 1) := by decide +kernel
theorem dX8_copy_48 : decode cX8_copy 48 = .ok (.iconst 1, 1) := by decide +kernel
theorem dX8_copy_49 : decode cX8_copy 49 = .ok (.if_icmp .ne 35, 3) := by decide +kernel
theorem dX8_copy_84 : decode cX8_copy 84 = .ok (.aload_n 0, 1) := by decide +kernel
theorem dX8_copy_85 : decode cX8_copy 85 = .ok (.getfield 47, 3) := by decide +kernel
theorem dX8_copy_88 : decode cX8_copy 88 = .ok (.iload_n 1, 1) := by decide +kernel
theorem dX8_copy_89 : decode cX8_copy 89 = .ok (.iaload, 1) := by decide +kernel
theorem dX8_copy_90 : decode cX8_copy 90 = .ok (.ifCond .eq 12, 3) := by decide +kernel
theorem dX8_copy_102 : decode cX8_copy 102 = .ok (.aload_n 0, 1) := by decide +kernel
theorem dX8_copy_103 : decode cX8_copy 103 = .ok (.bipush (-3), 2) := by decide +kernel
theorem dX8_copy_105 : decode cX8_copy 105 = .ok (.invokevirtual 97, 3) := by decide +kernel
theorem dX8_copy_108 : decode cX8_copy 108 = .ok (.ireturn, 1) := by decide +kernel
set_option maxRecDepth 20000 in
theorem ggX8_element_X8_isShelf : GoodIn wsX8_element wsX8_isShelf := goodIn_r _ [8] (by decide +kernel) (by decide +kernel)
set_option maxRecDepth 20000 in
theorem gX8_element_X8_isShelf : GoodIn wsX8_element (wsV RX8 93 RX8 yX8_isShelf wsX8_isShelf) := goodIn_app (goodIn_of _ (by decide +kernel)) ggX8_element_X8_isShelf
theorem dX8_element_0 : decode cX8_element 0 = .ok (.aload_n 0, 1) := by decide +kernel
theorem dX8_element_1 : decode cX8_element 1 = .ok (.iload_n 1, 1) := by decide +kernel
theorem dX8_element_2 : decode cX8_element 2 = .ok (.invokevirtual 93, 3) := by decide +kernel
theorem dX8_element_5 : decode cX8_element 5 = .ok (.ifCond .eq 42, 3) := by decide +kernel
theorem dX8_element_8 : decode cX8_element 8 = .ok (.aload_n 0, 1) := by decide +kernel
theorem dX8_element_9 : decode cX8_element 9 = .ok (.getfield 47, 3) := by decide +kernel
theorem dX8_element_12 : decode cX8_element 12 = .ok (.iload_n 1, 1) := by decide +kernel
theorem dX8_element_13 : decode cX8_element 13 = .ok (.iaload, 1) := by decide +kernel
theorem dX8_element_14 : decode cX8_element 14 = .ok (.iconst 1, 1) := by decide +kernel
theorem dX8_element_15 : decode cX8_element 15 = .ok (.if_icmp .ne 32, 3) := by decide +kernel
theorem dX8_element_47 : decode cX8_element 47 = .ok (.lconst 0, 1) := by decide +kernel
theorem dX8_element_48 : decode cX8_element 48 = .ok (.lreturn, 1) := by decide +kernel
set_option maxRecDepth 20000 in
theorem ggX8_show_X8_isShelf : GoodIn wsX8_show wsX8_isShelf := goodIn_r _ [7] (by decide +kernel) (by decide +kernel)
set_option maxRecDepth 20000 in
theorem gX8_show_X8_isShelf : GoodIn wsX8_show (wsV RX8 93 RX8 yX8_isShelf wsX8_isShelf) := goodIn_app (goodIn_of _ (by decide +kernel)) ggX8_show_X8_isShelf
set_option maxRecDepth 20000 in
theorem ggX8_show_X8_isPull : GoodIn wsX8_show wsX8_isPull := goodIn_r _ [11, 12, 18, 19, 20, 21, 22, 23, 24, 25, 26, 27, 28, 29, 30, 31, 32, 33, 34, 35, 36, 37, 38, 39, 40, 41, 42, 43, 44, 45, 46, 47, 48, 49, 50, 51, 52, 53, 54, 55] (by decide +kernel) (by decide +kernel)
set_option maxRecDepth 20000 in
theorem gX8_show_X8_isPull : GoodIn wsX8_show (wsV RX8 101 RX8 yX8_isPull wsX8_isPull) := goodIn_app (goodIn_of _ (by decide +kernel)) ggX8_show_X8_isPull
set_option maxRecDepth 20000 in
theorem ggX8_show_X8_no : GoodIn wsX8_show wsX8_no := goodIn_r _ [16, 17, 18, 19, 20, 21, 22, 23, 24, 25, 26, 27, 28, 29, 30, 31, 32, 33, 34, 35, 36, 37, 38, 39, 40, 41, 42, 43, 44, 45, 46, 47, 48, 49, 50, 51, 52, 53, 54, 55] (by decide +kernel) (by decide +kernel)
set_option maxRecDepth 20000 in
theorem gX8_show_X8_no : GoodIn wsX8_show (wsV RX8 97 RX8 yX8_no wsX8_no) := goodIn_app (goodIn_of _ (by decide +kernel)) ggX8_show_X8_no
theorem dX8_show_0 : decode cX8_show 0 = .ok (.aload_n 0, 1) := by decide +kernel
theorem dX8_show_1 : decode cX8_show 1 = .ok (.iload_n 1, 1) := by decide +kernel
theorem dX8_show_2 : decode cX8_show 2 = .ok (.invokevirtual 93, 3) := by decide +kernel
theorem dX8_show_5 : decode cX8_show 5 = .ok (.ifCond .eq 16, 3) := by decide +kernel
theorem dX8_show_8 : decode cX8_show 8 = .ok (.iload_n 2, 1) := by decide +kernel
theorem dX8_show_9 : decode cX8_show 9 = .ok (.iconst (-1), 1) := by decide +kernel
theorem dX8_show_10 : decode cX8_show 10 = .ok (.if_icmp .eq 17, 3) := by decide +kernel
theorem dX8_show_13 : decode cX8_show 13 = .ok (.aload_n 0, 1) := by decide +kernel
theorem dX8_show_14 : decode cX8_show 14 = .ok (.iload_n 2, 1) := by decide +kernel
theorem dX8_show_15 : decode cX8_show 15 = .ok (.invokevirtual 101, 3) := by decide +kernel
theorem dX8_show_18 : decode cX8_show 18 = .ok (.ifCond .ne 9, 3) := by decide +kernel
theorem dX8_show_21 : decode cX8_show 21 = .ok (.aload_n 0, 1) := by decide +kernel
theorem dX8_show_22 : decode cX8_show 22 = .ok (.iconst (-1), 1) := by decide +kernel
theorem dX8_show_23 : decode cX8_show 23 = .ok (.invokevirtual 97, 3) := by decide +kernel
theorem dX8_show_26 : decode cX8_show 26 = .ok (.ireturn, 1) := by decide +kernel
theorem dX8_show_27 : decode cX8_show 27 = .ok (.aload_n 0, 1) := by decide +kernel
theorem dX8_show_28 : decode cX8_show 28 = .ok (.getfield 47, 3) := by decide +kernel
theorem dX8_show_31 : decode cX8_show 31 = .ok (.iload_n 1, 1) := by decide +kernel
theorem dX8_show_32 : decode cX8_show 32 = .ok (.iload_n 2, 1) := by decide +kernel
theorem dX8_show_33 : decode cX8_show 33 = .ok (.iconst (-1), 1) := by decide +kernel
theorem dX8_show_34 : decode cX8_show 34 = .ok (.if_icmp .ne 7, 3) := by decide +kernel
theorem dX8_show_37 : decode cX8_show 37 = .ok (.iconst 0, 1) := by decide +kernel
theorem dX8_show_38 : decode cX8_show 38 = .ok (.goto 4, 3) := by decide +kernel
theorem dX8_show_42 : decode cX8_show 42 = .ok (.iastore, 1) := by decide +kernel
theorem dX8_show_43 : decode cX8_show 43 = .ok (.aload_n 0, 1) := by decide +kernel
theorem dX8_show_44 : decode cX8_show 44 = .ok (.getfield 56, 3) := by decide +kernel
theorem dX8_show_47 : decode cX8_show 47 = .ok (.iload_n 1, 1) := by decide +kernel
theorem dX8_show_48 : decode cX8_show 48 = .ok (.iload_n 2, 1) := by decide +kernel
theorem dX8_show_49 : decode cX8_show 49 = .ok (.iastore, 1) := by decide +kernel
theorem dX8_show_50 : decode cX8_show 50 = .ok (.iload_n 2, 1) := by decide +kernel
theorem dX8_show_51 : decode cX8_show 51 = .ok (.iconst (-1), 1) := by decide +kernel
theorem dX8_show_52 : decode cX8_show 52 = .ok (.if_icmp .ne 7, 3) := by decide +kernel
theorem dX8_show_55 : decode cX8_show 55 = .ok (.iconst 0, 1) := by decide +kernel
theorem dX8_show_56 : decode cX8_show 56 = .ok (.goto 4, 3) := by decide +kernel
theorem dX8_show_60 : decode cX8_show 60 = .ok (.ireturn, 1) := by decide +kernel
set_option maxRecDepth 20000 in
theorem ggX8_holds_X8_isShelf : GoodIn wsX8_holds wsX8_isShelf := goodIn_r _ [8] (by decide +kernel) (by decide +kernel)
set_option maxRecDepth 20000 in
theorem gX8_holds_X8_isShelf : GoodIn wsX8_holds (wsV RX8 93 RX8 yX8_isShelf wsX8_isShelf) := goodIn_app (goodIn_of _ (by decide +kernel)) ggX8_holds_X8_isShelf
theorem dX8_holds_0 : decode cX8_holds 0 = .ok (.aload_n 0, 1) := by decide +kernel
theorem dX8_holds_1 : decode cX8_holds 1 = .ok (.iload_n 1, 1) := by decide +kernel
theorem dX8_holds_2 : decode cX8_holds 2 = .ok (.invokevirtual 93, 3) := by decide +kernel
theorem dX8_holds_5 : decode cX8_holds 5 = .ok (.ifCond .eq 12, 3) := by decide +kernel
theorem dX8_holds_8 : decode cX8_holds 8 = .ok (.aload_n 0, 1) := by decide +kernel
theorem dX8_holds_9 : decode cX8_holds 9 = .ok (.getfield 47, 3) := by decide +kernel
theorem dX8_holds_12 : decode cX8_holds 12 = .ok (.iload_n 1, 1) := by decide +kernel
theorem dX8_holds_13 : decode cX8_holds 13 = .ok (.iaload, 1) := by decide +kernel
theorem dX8_holds_14 : decode cX8_holds 14 = .ok (.ifCond .ne 5, 3) := by decide +kernel
theorem dX8_holds_17 : decode cX8_holds 17 = .ok (.iconst (-1), 1) := by decide +kernel
theorem dX8_holds_18 : decode cX8_holds 18 = .ok (.ireturn, 1) := by decide +kernel
set_option maxRecDepth 20000 in
theorem ggX8_says_X8_isShelf : GoodIn wsX8_says wsX8_isShelf := goodIn_r _ [9] (by decide +kernel) (by decide +kernel)
set_option maxRecDepth 20000 in
theorem gX8_says_X8_isShelf : GoodIn wsX8_says (wsV RX8 93 RX8 yX8_isShelf wsX8_isShelf) := goodIn_app (goodIn_of _ (by decide +kernel)) ggX8_says_X8_isShelf
set_option maxRecDepth 20000 in
theorem ggX8_says_X8_no : GoodIn wsX8_says wsX8_no := goodIn_r _ [13, 14, 25, 26, 27, 28, 29, 30, 31, 32, 33, 34, 35, 36, 37, 38, 39, 40, 41, 42, 43, 44, 45, 46, 47, 48, 49, 50, 51, 52, 53, 54, 55, 56, 57, 58, 59, 60, 61, 62] (by decide +kernel) (by decide +kernel)
set_option maxRecDepth 20000 in
theorem gX8_says_X8_no : GoodIn wsX8_says (wsV RX8 97 RX8 yX8_no wsX8_no) := goodIn_app (goodIn_of _ (by decide +kernel)) ggX8_says_X8_no
theorem dX8_says_0 : decode cX8_says 0 = .ok (.aload_n 0, 1) := by decide +kernel
theorem dX8_says_1 : decode cX8_says 1 = .ok (.iload_n 1, 1) := by decide +kernel
theorem dX8_says_2 : decode cX8_says 2 = .ok (.invokevirtual 93, 3) := by decide +kernel
theorem dX8_says_5 : decode cX8_says 5 = .ok (.ifCond .eq 13, 3) := by decide +kernel
theorem dX8_says_8 : decode cX8_says 8 = .ok (.iload_n 2, 1) := by decide +kernel
theorem dX8_says_9 : decode cX8_says 9 = .ok (.ifCond .lt 9, 3) := by decide +kernel
theorem dX8_says_12 : decode cX8_says 12 = .ok (.iload_n 2, 1) := by decide +kernel
theorem dX8_says_13 : decode cX8_says 13 = .ok (.bipush 6, 2) := by decide +kernel
theorem dX8_says_15 : decode cX8_says 15 = .ok (.if_icmp .le 9, 3) := by decide +kernel
theorem dX8_says_18 : decode cX8_says 18 = .ok (.aload_n 0, 1) := by decide +kernel
theorem dX8_says_19 : decode cX8_says 19 = .ok (.iconst (-1), 1) := by decide +kernel
theorem dX8_says_20 : decode cX8_says 20 = .ok (.invokevirtual 97, 3) := by decide +kernel
theorem dX8_says_23 : decode cX8_says 23 = .ok (.ireturn, 1) := by decide +kernel
theorem dX8_says_24 : decode cX8_says 24 = .ok (.aload_n 0, 1) := by decide +kernel
theorem dX8_says_25 : decode cX8_says 25 = .ok (.getfield 47, 3) := by decide +kernel
theorem dX8_says_28 : decode cX8_says 28 = .ok (.iload_n 1, 1) := by decide +kernel
theorem dX8_says_29 : decode cX8_says 29 = .ok (.iaload, 1) := by decide +kernel
theorem dX8_says_30 : decode cX8_says 30 = .ok (.iconst 1, 1) := by decide +kernel
theorem dX8_says_31 : decode cX8_says 31 = .ok (.if_icmp .ne 10, 3) := by decide +kernel
theorem dX8_says_41 : decode cX8_says 41 = .ok (.aload_n 0, 1) := by decide +kernel
theorem dX8_says_42 : decode cX8_says 42 = .ok (.getfield 47, 3) := by decide +kernel
theorem dX8_says_45 : decode cX8_says 45 = .ok (.iload_n 1, 1) := by decide +kernel
theorem dX8_says_46 : decode cX8_says 46 = .ok (.iaload, 1) := by decide +kernel
theorem dX8_says_47 : decode cX8_says 47 = .ok (.ifCond .ne 10, 3) := by decide +kernel
theorem dX8_says_50 : decode cX8_says 50 = .ok (.aload_n 0, 1) := by decide +kernel
theorem dX8_says_51 : decode cX8_says 51 = .ok (.bipush (-3), 2) := by decide +kernel
theorem dX8_says_53 : decode cX8_says 53 = .ok (.invokevirtual 97, 3) := by decide +kernel
theorem dX8_says_56 : decode cX8_says 56 = .ok (.ireturn, 1) := by decide +kernel
set_option maxRecDepth 20000 in
theorem ggX8_wanted_X8_isShelf : GoodIn wsX8_wanted wsX8_isShelf := goodIn_r _ [6] (by decide +kernel) (by decide +kernel)
set_option maxRecDepth 20000 in
theorem gX8_wanted_X8_isShelf : GoodIn wsX8_wanted (wsV RX8 93 RX8 yX8_isShelf wsX8_isShelf) := goodIn_app (goodIn_of _ (by decide +kernel)) ggX8_wanted_X8_isShelf
theorem dX8_wanted_0 : decode cX8_wanted 0 = .ok (.aload_n 0, 1) := by decide +kernel
theorem dX8_wanted_1 : decode cX8_wanted 1 = .ok (.iload_n 1, 1) := by decide +kernel
theorem dX8_wanted_2 : decode cX8_wanted 2 = .ok (.invokevirtual 93, 3) := by decide +kernel
theorem dX8_wanted_5 : decode cX8_wanted 5 = .ok (.ifCond .ne 7, 3) := by decide +kernel
theorem dX8_wanted_8 : decode cX8_wanted 8 = .ok (.iconst (-1), 1) := by decide +kernel
theorem dX8_wanted_9 : decode cX8_wanted 9 = .ok (.goto 33, 3) := by decide +kernel
theorem dX8_wanted_12 : decode cX8_wanted 12 = .ok (.aload_n 0, 1) := by decide +kernel
theorem dX8_wanted_13 : decode cX8_wanted 13 = .ok (.getfield 47, 3) := by decide +kernel
theorem dX8_wanted_16 : decode cX8_wanted 16 = .ok (.iload_n 1, 1) := by decide +kernel
theorem dX8_wanted_17 : decode cX8_wanted 17 = .ok (.iaload, 1) := by decide +kernel
theorem dX8_wanted_18 : decode cX8_wanted 18 = .ok (.iconst 2, 1) := by decide +kernel
theorem dX8_wanted_19 : decode cX8_wanted 19 = .ok (.if_icmp .ne 8, 3) := by decide +kernel
theorem dX8_wanted_27 : decode cX8_wanted 27 = .ok (.aload_n 0, 1) := by decide +kernel
theorem dX8_wanted_28 : decode cX8_wanted 28 = .ok (.getfield 47, 3) := by decide +kernel
theorem dX8_wanted_31 : decode cX8_wanted 31 = .ok (.iload_n 1, 1) := by decide +kernel
theorem dX8_wanted_32 : decode cX8_wanted 32 = .ok (.iaload, 1) := by decide +kernel
theorem dX8_wanted_33 : decode cX8_wanted 33 = .ok (.ifCond .ne 8, 3) := by decide +kernel
theorem dX8_wanted_36 : decode cX8_wanted 36 = .ok (.bipush (-3), 2) := by decide +kernel
theorem dX8_wanted_38 : decode cX8_wanted 38 = .ok (.goto 4, 3) := by decide +kernel
theorem dX8_wanted_42 : decode cX8_wanted 42 = .ok (.ireturn, 1) := by decide +kernel
theorem dX8_addsPull_0 : decode cX8_addsPull 0 = .ok (.aload_n 0, 1) := by decide +kernel
theorem dX8_addsPull_1 : decode cX8_addsPull 1 = .ok (.getfield 29, 3) := by decide +kernel
theorem dX8_addsPull_4 : decode cX8_addsPull 4 = .ok (.aload_n 0, 1) := by decide +kernel
theorem dX8_addsPull_5 : decode cX8_addsPull 5 = .ok (.getfield 90, 3) := by decide +kernel
theorem dX8_addsPull_8 : decode cX8_addsPull 8 = .ok (.iload_n 1, 1) := by decide +kernel
theorem dX8_addsPull_9 : decode cX8_addsPull 9 = .ok (.iastore, 1) := by decide +kernel
