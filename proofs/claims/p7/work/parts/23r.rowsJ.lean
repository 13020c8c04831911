def wsX0_leastOf : List Cond := (.code yX0_leastOf cX0_leastOf 1 (some .int)) :: []
def wsX0_mostOf : List Cond := (.code yX0_mostOf cX0_mostOf 2 (some .int)) :: (.fieldLink RX0 12 "TheLiningsInIt$Jacket" "zip" "LTheLiningsInIt$Zip;") :: (.fieldLink RX0 57 "TheLiningsInIt$Zip" "size" "I") :: (wsX00 ++ wsX60)
def wsX0_number : List Cond := (.code yX0_number cX0_number 2 (some .int)) :: (.fieldLink RX0 32 "TheLiningsInIt$Jacket" "depth" "I") :: (.fieldLink RX0 38 "TheLiningsInIt$Jacket" "seconds" "I") :: (.fieldLink RX0 41 "TheLiningsInIt$Jacket" "hurry" "I") :: (.fieldLink RX0 12 "TheLiningsInIt$Jacket" "zip" "LTheLiningsInIt$Zip;") :: (.fieldLink RX0 60 "TheLiningsInIt$Zip" "gap" "I") :: (.fieldLink RX0 63 "TheLiningsInIt$Zip" "at" "I") :: (.fieldLink RX0 24 "TheLiningsInIt$Jacket" "costs" "[I") :: (.static yX7_within) :: (.initialized RX7) :: (.code yX7_within cX7_within 3 (some .boolean)) :: (wsX00 ++ wsX60)
def wsX0_pullAt : List Cond := (.code yX0_pullAt cX0_pullAt 2 (some (.object "TheLiningsInIt$Pull"))) :: (.fieldLink RX0 28 "TheLiningsInIt$Jacket" "pullCount" "I") :: (.fieldLink RX0 20 "TheLiningsInIt$Jacket" "pulls" "[LTheLiningsInIt$Pull;") :: (.static yX7_within) :: (.initialized RX7) :: (.code yX7_within cX7_within 3 (some .boolean)) :: wsX00
def wsX0_mayBe : List Cond := (.code yX0_mayBe cX0_mayBe 2 (some .boolean)) :: (.fieldLink RX0 32 "TheLiningsInIt$Jacket" "depth" "I") :: (.fieldLink RX0 38 "TheLiningsInIt$Jacket" "seconds" "I") :: (.methodLink RX0 73 yX2_mayBe) :: (.instanceMethod yX2_mayBe) :: (.selects RX2 yX2_mayBe yX2_mayBe) :: (.initialized RX2) :: (.code yX2_mayBe cX2_mayBe 3 (some .boolean)) :: (.fieldLink RX2 18 "TheLiningsInIt$Pull" "takes" "I") :: (wsX00 ++ wsX20)
def wsX0_pullsMaking_r1 : List Cond := (Cond.fieldLink RX0 28 "TheLiningsInIt$Jacket" "pullCount" "I") :: (Cond.fieldLink RX0 41 "TheLiningsInIt$Jacket" "hurry" "I") :: (Cond.methodLink RX0 77 yX0_pullAt) :: (Cond.instanceMethod yX0_pullAt) :: (Cond.selects RX0 yX0_pullAt yX0_pullAt) :: (Cond.initialized RX0) :: (Cond.code yX0_pullAt cX0_pullAt 2 (some (.object "TheLiningsInIt$Pull"))) :: (Cond.fieldLink RX0 20 "TheLiningsInIt$Jacket" "pulls" "[LTheLiningsInIt$Pull;") :: (Cond.static yX7_within) :: (Cond.initialized RX7) :: (Cond.code yX7_within cX7_within 3 (some .boolean)) :: (Cond.methodLink RX0 81 yX2_makes) :: (Cond.instanceMethod yX2_makes) :: (Cond.selects RX2 yX2_makes yX2_makes) :: (Cond.initialized RX2) :: (Cond.code yX2_makes cX2_makes 5 (some .boolean)) :: (Cond.methodLink RX2 46 yX2_waysAt) :: (Cond.instanceMethod yX2_waysAt) :: (Cond.selects RX2 yX2_waysAt yX2_waysAt) :: (Cond.code yX2_waysAt cX2_waysAt 3 (some .int)) :: (Cond.fieldLink RX2 9 "TheLiningsInIt$Pull" "kind" "I") :: (Cond.methodLink RX2 33 Lib.Math.min.name) :: (Cond.static Lib.Math.min.name) :: (Cond.initialized "java/lang/Math") :: []
def wsX0_pullsMaking_r2 : List Cond := (Cond.code Lib.Math.min.name Lib.Math.min.code 2 (some .int)) :: (Cond.methodLink RX2 39 Lib.Math.max.name) :: (Cond.static Lib.Math.max.name) :: (Cond.code Lib.Math.max.name Lib.Math.max.code 2 (some .int)) :: (Cond.methodLink RX2 29 yX2_calmWaysAt) :: (Cond.instanceMethod yX2_calmWaysAt) :: (Cond.selects RX2 yX2_calmWaysAt yX2_calmWaysAt) :: (Cond.code yX2_calmWaysAt cX2_calmWaysAt 2 (some .int)) :: (Cond.fieldLink RX2 15 "TheLiningsInIt$Pull" "a" "I") :: (Cond.methodLink RX2 49 yX2_shallower) :: (Cond.instanceMethod yX2_shallower) :: (Cond.selects RX2 yX2_shallower yX2_shallower) :: (Cond.code yX2_shallower cX2_shallower 2 (some .int)) :: (Cond.methodLink RX2 42 yX2_step) :: (Cond.instanceMethod yX2_step) :: (Cond.selects RX2 yX2_step yX2_step) :: (Cond.code yX2_step cX2_step 1 (some .int)) :: (Cond.methodLink RX2 52 yX2_deeper) :: (Cond.instanceMethod yX2_deeper) :: (Cond.selects RX2 yX2_deeper yX2_deeper) :: (Cond.code yX2_deeper cX2_deeper 4 (some .int)) :: []
def wsX0_pullsMaking : List Cond := (.code yX0_pullsMaking cX0_pullsMaking 6 (some .int)) :: ((wsX0_pullsMaking_r1 ++ wsX0_pullsMaking_r2) ++ wsX00 ++ wsX20)
def wsX0_firstMaking_r1 : List Cond := (Cond.fieldLink RX0 28 "TheLiningsInIt$Jacket" "pullCount" "I") :: (Cond.fieldLink RX0 41 "TheLiningsInIt$Jacket" "hurry" "I") :: (Cond.methodLink RX0 77 yX0_pullAt) :: (Cond.instanceMethod yX0_pullAt) :: (Cond.selects RX0 yX0_pullAt yX0_pullAt) :: (Cond.initialized RX0) :: (Cond.code yX0_pullAt cX0_pullAt 2 (some (.object "TheLiningsInIt$Pull"))) :: (Cond.fieldLink RX0 20 "TheLiningsInIt$Jacket" "pulls" "[LTheLiningsInIt$Pull;") :: (Cond.static yX7_within) :: (Cond.initialized RX7) :: (Cond.code yX7_within cX7_within 3 (some .boolean)) :: (Cond.methodLink RX0 81 yX2_makes) :: (Cond.instanceMethod yX2_makes) :: (Cond.selects RX2 yX2_makes yX2_makes) :: (Cond.initialized RX2) :: (Cond.code yX2_makes cX2_makes 5 (some .boolean)) :: (Cond.methodLink RX2 46 yX2_waysAt) :: (Cond.instanceMethod yX2_waysAt) :: (Cond.selects RX2 yX2_waysAt yX2_waysAt) :: (Cond.code yX2_waysAt cX2_waysAt 3 (some .int)) :: (Cond.fieldLink RX2 9 "TheLiningsInIt$Pull" "kind" "I") :: (Cond.methodLink RX2 33 Lib.Math.min.name) :: (Cond.static Lib.Math.min.name) :: (Cond.initialized "java/lang/Math") :: []
def wsX0_firstMaking_r2 : List Cond := (Cond.code Lib.Math.min.name Lib.Math.min.code 2 (some .int)) :: (Cond.methodLink RX2 39 Lib.Math.max.name) :: (Cond.static Lib.Math.max.name) :: (Cond.code Lib.Math.max.name Lib.Math.max.code 2 (some .int)) :: (Cond.methodLink RX2 29 yX2_calmWaysAt) :: (Cond.instanceMethod yX2_calmWaysAt) :: (Cond.selects RX2 yX2_calmWaysAt yX2_calmWaysAt) :: (Cond.code yX2_calmWaysAt cX2_calmWaysAt 2 (some .int)) :: (Cond.fieldLink RX2 15 "TheLiningsInIt$Pull" "a" "I") :: (Cond.methodLink RX2 49 yX2_shallower) :: (Cond.instanceMethod yX2_shallower) :: (Cond.selects RX2 yX2_shallower yX2_shallower) :: (Cond.code yX2_shallower cX2_shallower 2 (some .int)) :: (Cond.methodLink RX2 42 yX2_step) :: (Cond.instanceMethod yX2_step) :: (Cond.selects RX2 yX2_step yX2_step) :: (Cond.code yX2_step cX2_step 1 (some .int)) :: (Cond.methodLink RX2 52 yX2_deeper) :: (Cond.instanceMethod yX2_deeper) :: (Cond.selects RX2 yX2_deeper yX2_deeper) :: (Cond.code yX2_deeper cX2_deeper 4 (some .int)) :: []
def wsX0_firstMaking : List Cond := (.code yX0_firstMaking cX0_firstMaking 5 (some .int)) :: ((wsX0_firstMaking_r1 ++ wsX0_firstMaking_r2) ++ wsX00 ++ wsX20)
def wsJ7_fill_d0a16 : List Cond := (.code yJ7_fill_d0a16 cJ7_fill_d0a16 5 none) :: []
def wsX4_holdRow : List Cond := (.code yX4_holdRow cX4_holdRow 3 none) :: (.fieldLink RX4 15 "TheLiningsInIt$Shelf" "held" "I") :: (.fieldLink RX4 19 "TheLiningsInIt$Shelf" "size" "I") :: (.fieldLink RX4 9 "TheLiningsInIt$Shelf" "elements" "[J") :: (.methodLink RX4 22 yJ7_fill_d0a16) :: (.static yJ7_fill_d0a16) :: (.initialized RJ7) :: (.code yJ7_fill_d0a16 cJ7_fill_d0a16 5 none) :: wsX40
def wsX4_forgetFrom : List Cond := (.code yX4_forgetFrom cX4_forgetFrom 2 none) :: (.fieldLink RX4 15 "TheLiningsInIt$Shelf" "held" "I") :: wsX40
def wsX4_put : List Cond := (.code yX4_put cX4_put 4 none) :: (.fieldLink RX4 15 "TheLiningsInIt$Shelf" "held" "I") :: (.fieldLink RX4 9 "TheLiningsInIt$Shelf" "elements" "[J") :: wsX40
theorem dX0_leastOf_0 : decode cX0_leastOf 0 = .ok (.iload_n 0, 1) := by decide +kernel
theorem dX0_leastOf_1 : decode cX0_leastOf 1 = .ok (.iconst 3, 1) := by decide +kernel
theorem dX0_leastOf_2 : decode cX0_leastOf 2 = .ok (.if_icmp .ne 7, 3) := by decide +kernel
theorem dX0_leastOf_5 : decode cX0_leastOf 5 = .ok (.iconst 1, 1) := by decide +kernel
theorem dX0_leastOf_6 : decode cX0_leastOf 6 = .ok (.goto 4, 3) := by decide +kernel
theorem dX0_leastOf_9 : decode cX0_leastOf 9 = .ok (.iconst 0, 1) := by decide +kernel
theorem dX0_leastOf_10 : decode cX0_leastOf 10 = .ok (.ireturn, 1) := by decide +kernel
theorem dX0_mostOf_0 : decode cX0_mostOf 0 = .ok (.iload_n 1, 1) := by decide +kernel
theorem dX0_mostOf_1 : decode cX0_mostOf 1 = .ok (.tableswitch 68 0 7 #[47, 50, 54, 57, 68, 68, 68, 60], 47) := by decide +kernel
theorem dX0_mostOf_48 : decode cX0_mostOf 48 = .ok (.bipush 24, 2) := by decide +kernel
theorem dX0_mostOf_50 : decode cX0_mostOf 50 = .ok (.ireturn, 1) := by decide +kernel
theorem dX0_mostOf_51 : decode cX0_mostOf 51 = .ok (.sipush 300, 3) := by decide +kernel
theorem dX0_mostOf_54 : decode cX0_mostOf 54 = .ok (.ireturn, 1) := by decide +kernel
theorem dX0_mostOf_55 : decode cX0_mostOf 55 = .ok (.bipush 9, 2) := by decide +kernel
theorem dX0_mostOf_57 : decode cX0_mostOf 57 = .ok (.ireturn, 1) := by decide +kernel
theorem dX0_mostOf_58 : decode cX0_mostOf 58 = .ok (.bipush 9, 2) := by decide +kernel
theorem dX0_mostOf_60 : decode cX0_mostOf 60 = .ok (.ireturn, 1) := by decide +kernel
theorem dX0_mostOf_61 : decode cX0_mostOf 61 = .ok (.aload_n 0, 1) := by decide +kernel
theorem dX0_mostOf_62 : decode cX0_mostOf 62 = .ok (.getfield 12, 3) := by decide +kernel
theorem dX0_mostOf_65 : decode cX0_mostOf 65 = .ok (.getfield 57, 3) := by decide +kernel
theorem dX0_mostOf_68 : decode cX0_mostOf 68 = .ok (.ireturn, 1) := by decide +kernel
theorem dX0_mostOf_69 : decode cX0_mostOf 69 = .ok (.bipush 99, 2) := by decide +kernel
theorem dX0_mostOf_71 : decode cX0_mostOf 71 = .ok (.ireturn, 1) := by decide +kernel
set_option maxRecDepth 20000 in
theorem ggX0_number_X7_within : GoodIn wsX0_number wsX7_within := goodIn_r _ [10] rfl (by decide +kernel)
set_option maxRecDepth 20000 in
theorem gX0_number_X7_within_n66 : GoodIn wsX0_number (wsX7_within) := ggX0_number_X7_within
theorem dX0_number_0 : decode cX0_number 0 = .ok (.iload_n 1, 1) := by decide +kernel
theorem dX0_number_1 : decode cX0_number 1 = .ok (.tableswitch 78 0 7 #[47, 52, 57, 62, 78, 78, 78, 70], 47) := by decide +kernel
theorem dX0_number_48 : decode cX0_number 48 = .ok (.aload_n 0, 1) := by decide +kernel
theorem dX0_number_49 : decode cX0_number 49 = .ok (.getfield 32, 3) := by decide +kernel
theorem dX0_number_52 : decode cX0_number 52 = .ok (.ireturn, 1) := by decide +kernel
theorem dX0_number_53 : decode cX0_number 53 = .ok (.aload_n 0, 1) := by decide +kernel
theorem dX0_number_54 : decode cX0_number 54 = .ok (.getfield 38, 3) := by decide +kernel
theorem dX0_number_57 : decode cX0_number 57 = .ok (.ireturn, 1) := by decide +kernel
theorem dX0_number_58 : decode cX0_number 58 = .ok (.aload_n 0, 1) := by decide +kernel
theorem dX0_number_59 : decode cX0_number 59 = .ok (.getfield 41, 3) := by decide +kernel
theorem dX0_number_62 : decode cX0_number 62 = .ok (.ireturn, 1) := by decide +kernel
theorem dX0_number_63 : decode cX0_number 63 = .ok (.aload_n 0, 1) := by decide +kernel
theorem dX0_number_64 : decode cX0_number 64 = .ok (.getfield 12, 3) := by decide +kernel
theorem dX0_number_67 : decode cX0_number 67 = .ok (.getfield 60, 3) := by decide +kernel
theorem dX0_number_70 : decode cX0_number 70 = .ok (.ireturn, 1) := by decide +kernel
theorem dX0_number_71 : decode cX0_number 71 = .ok (.aload_n 0, 1) := by decide +kernel
theorem dX0_number_72 : decode cX0_number 72 = .ok (.getfield 12, 3) := by decide +kernel
theorem dX0_number_75 : decode cX0_number 75 = .ok (.getfield 63, 3) := by decide +kernel
theorem dX0_number_78 : decode cX0_number 78 = .ok (.ireturn, 1) := by decide +kernel
theorem dX0_number_79 : decode cX0_number 79 = .ok (.iload_n 1, 1) := by decide +kernel
theorem dX0_number_80 : decode cX0_number 80 = .ok (.iconst 4, 1) := by decide +kernel
theorem dX0_number_81 : decode cX0_number 81 = .ok (.isub, 1) := by decide +kernel
theorem dX0_number_82 : decode cX0_number 82 = .ok (.iconst 0, 1) := by decide +kernel
theorem dX0_number_83 : decode cX0_number 83 = .ok (.iconst 2, 1) := by decide +kernel
theorem dX0_number_84 : decode cX0_number 84 = .ok (.invokestatic 66, 3) := by decide +kernel
theorem dX0_number_87 : decode cX0_number 87 = .ok (.ifCond .eq 14, 3) := by decide +kernel
theorem dX0_number_90 : decode cX0_number 90 = .ok (.aload_n 0, 1) := by decide +kernel
theorem dX0_number_91 : decode cX0_number 91 = .ok (.getfield 24, 3) := by decide +kernel
theorem dX0_number_94 : decode cX0_number 94 = .ok (.iload_n 1, 1) := by decide +kernel
theorem dX0_number_95 : decode cX0_number 95 = .ok (.iconst 4, 1) := by decide +kernel
theorem dX0_number_96 : decode cX0_number 96 = .ok (.isub, 1) := by decide +kernel
theorem dX0_number_97 : decode cX0_number 97 = .ok (.iaload, 1) := by decide +kernel
theorem dX0_number_98 : decode cX0_number 98 = .ok (.goto 4, 3) := by decide +kernel
theorem dX0_number_102 : decode cX0_number 102 = .ok (.ireturn, 1) := by decide +kernel
set_option maxRecDepth 20000 in
theorem ggX0_pullAt_X7_within : GoodIn wsX0_pullAt wsX7_within := goodIn_r _ [5] rfl (by decide +kernel)
set_option maxRecDepth 20000 in
theorem gX0_pullAt_X7_within_n66 : GoodIn wsX0_pullAt (wsX7_within) := ggX0_pullAt_X7_within
theorem dX0_pullAt_0 : decode cX0_pullAt 0 = .ok (.iload_n 1, 1) := by decide +kernel
theorem dX0_pullAt_1 : decode cX0_pullAt 1 = .ok (.iconst 0, 1) := by decide +kernel
theorem dX0_pullAt_2 : decode cX0_pullAt 2 = .ok (.aload_n 0, 1) := by decide +kernel
theorem dX0_pullAt_3 : decode cX0_pullAt 3 = .ok (.getfield 28, 3) := by decide +kernel
theorem dX0_pullAt_6 : decode cX0_pullAt 6 = .ok (.iconst 1, 1) := by decide +kernel
theorem dX0_pullAt_7 : decode cX0_pullAt 7 = .ok (.isub, 1) := by decide +kernel
theorem dX0_pullAt_8 : decode cX0_pullAt 8 = .ok (.invokestatic 66, 3) := by decide +kernel
theorem dX0_pullAt_11 : decode cX0_pullAt 11 = .ok (.ifCond .eq 18, 3) := by decide +kernel
theorem dX0_pullAt_14 : decode cX0_pullAt 14 = .ok (.iload_n 1, 1) := by decide +kernel
theorem dX0_pullAt_15 : decode cX0_pullAt 15 = .ok (.bipush 8, 2) := by decide +kernel
theorem dX0_pullAt_17 : decode cX0_pullAt 17 = .ok (.if_icmp .ge 12, 3) := by decide +kernel
theorem dX0_pullAt_20 : decode cX0_pullAt 20 = .ok (.aload_n 0, 1) := by decide +kernel
theorem dX0_pullAt_21 : decode cX0_pullAt 21 = .ok (.getfield 20, 3) := by decide +kernel
theorem dX0_pullAt_24 : decode cX0_pullAt 24 = .ok (.iload_n 1, 1) := by decide +kernel
theorem dX0_pullAt_25 : decode cX0_pullAt 25 = .ok (.aaload, 1) := by decide +kernel
theorem dX0_pullAt_26 : decode cX0_pullAt 26 = .ok (.goto 4, 3) := by decide +kernel
theorem dX0_pullAt_29 : decode cX0_pullAt 29 = .ok (.aconst_null, 1) := by decide +kernel
theorem dX0_pullAt_30 : decode cX0_pullAt 30 = .ok (.areturn, 1) := by decide +kernel
set_option maxRecDepth 20000 in
theorem ggX0_mayBe_X2_mayBe : GoodIn wsX0_mayBe wsX2_mayBe := goodIn_r _ [7, 8, 18, 19, 20] rfl (by decide +kernel)
set_option maxRecDepth 20000 in
theorem gX0_mayBe_X2_mayBe : GoodIn wsX0_mayBe (wsV RX0 73 RX2 yX2_mayBe wsX2_mayBe) := goodIn_app (goodIn_r _ [3, 4, 5, 6] rfl (by decide +kernel)) ggX0_mayBe_X2_mayBe
theorem dX0_mayBe_0 : decode cX0_mayBe 0 = .ok (.aload_n 1, 1) := by decide +kernel
theorem dX0_mayBe_1 : decode cX0_mayBe 1 = .ok (.aload_n 0, 1) := by decide +kernel
theorem dX0_mayBe_2 : decode cX0_mayBe 2 = .ok (.getfield 32, 3) := by decide +kernel
theorem dX0_mayBe_5 : decode cX0_mayBe 5 = .ok (.aload_n 0, 1) := by decide +kernel
theorem dX0_mayBe_6 : decode cX0_mayBe 6 = .ok (.getfield 38, 3) := by decide +kernel
theorem dX0_mayBe_9 : decode cX0_mayBe 9 = .ok (.invokevirtual 73, 3) := by decide +kernel
theorem dX0_mayBe_12 : decode cX0_mayBe 12 = .ok (.ireturn, 1) := by decide +kernel
set_option maxRecDepth 20000 in
theorem ggX0_pullsMaking_X0_pullAt : GoodIn wsX0_pullsMaking wsX0_pullAt := goodIn_r _ [7, 1, 8, 9, 10, 11, 46, 47, 48, 49, 50, 51, 52, 53, 54] rfl (by decide +kernel)
set_option maxRecDepth 20000 in
theorem gX0_pullsMaking_X0_pullAt : GoodIn wsX0_pullsMaking (wsV RX0 77 RX0 yX0_pullAt wsX0_pullAt) := goodIn_app (goodIn_r _ [3, 4, 5, 6] rfl (by decide +kernel)) ggX0_pullsMaking_X0_pullAt
set_option maxRecDepth 20000 in
theorem ggX0_pullsMaking_X2_makes : GoodIn wsX0_pullsMaking wsX2_makes := goodIn_r _ [16, 17, 18, 19, 15, 20, 21, 22, 23, 24, 25, 26, 27, 28, 29, 30, 31, 32, 33, 34, 35, 36, 37, 38, 39, 40, 41, 42, 43, 44, 45, 55, 56, 57] rfl (by decide +kernel)
set_option maxRecDepth 20000 in
theorem gX0_pullsMaking_X2_makes : GoodIn wsX0_pullsMaking (wsV RX0 81 RX2 yX2_makes wsX2_makes) := goodIn_app (goodIn_r _ [12, 13, 14, 15] rfl (by decide +kernel)) ggX0_pullsMaking_X2_makes
theorem dX0_pullsMaking_0 : decode cX0_pullsMaking 0 = .ok (.iconst 0, 1) := by decide +kernel
theorem dX0_pullsMaking_1 : decode cX0_pullsMaking 1 = .ok (.istore_n 3, 1) := by decide +kernel
theorem dX0_pullsMaking_2 : decode cX0_pullsMaking 2 = .ok (.iconst 0, 1) := by decide +kernel
theorem dX0_pullsMaking_3 : decode cX0_pullsMaking 3 = .ok (.istore 4, 2) := by decide +kernel
theorem dX0_pullsMaking_5 : decode cX0_pullsMaking 5 = .ok (.iload 4, 2) := by decide +kernel
theorem dX0_pullsMaking_7 : decode cX0_pullsMaking 7 = .ok (.aload_n 0, 1) := by decide +kernel
theorem dX0_pullsMaking_8 : decode cX0_pullsMaking 8 = .ok (.getfield 28, 3) := by decide +kernel
theorem dX0_pullsMaking_11 : decode cX0_pullsMaking 11 = .ok (.if_icmp .ge 39, 3) := by decide +kernel
theorem dX0_pullsMaking_14 : decode cX0_pullsMaking 14 = .ok (.aload_n 0, 1) := by decide +kernel
theorem dX0_pullsMaking_15 : decode cX0_pullsMaking 15 = .ok (.iload 4, 2) := by decide +kernel
theorem dX0_pullsMaking_17 : decode cX0_pullsMaking 17 = .ok (.invokevirtual 77, 3) := by decide +kernel
theorem dX0_pullsMaking_20 : decode cX0_pullsMaking 20 = .ok (.astore 5, 2) := by decide +kernel
theorem dX0_pullsMaking_22 : decode cX0_pullsMaking 22 = .ok (.aload 5, 2) := by decide +kernel
theorem dX0_pullsMaking_24 : decode cX0_pullsMaking 24 = .ok (.ifnull 20, 3) := by decide +kernel
theorem dX0_pullsMaking_27 : decode cX0_pullsMaking 27 = .ok (.aload 5, 2) := by decide +kernel
theorem dX0_pullsMaking_29 : decode cX0_pullsMaking 29 = .ok (.iload_n 1, 1) := by decide +kernel
theorem dX0_pullsMaking_30 : decode cX0_pullsMaking 30 = .ok (.iload_n 2, 1) := by decide +kernel
theorem dX0_pullsMaking_31 : decode cX0_pullsMaking 31 = .ok (.aload_n 0, 1) := by decide +kernel
theorem dX0_pullsMaking_32 : decode cX0_pullsMaking 32 = .ok (.getfield 41, 3) := by decide +kernel
theorem dX0_pullsMaking_35 : decode cX0_pullsMaking 35 = .ok (.invokevirtual 81, 3) := by decide +kernel
theorem dX0_pullsMaking_38 : decode cX0_pullsMaking 38 = .ok (.ifCond .eq 6, 3) := by decide +kernel
theorem dX0_pullsMaking_41 : decode cX0_pullsMaking 41 = .ok (.iinc 3 1, 3) := by decide +kernel
theorem dX0_pullsMaking_44 : decode cX0_pullsMaking 44 = .ok (.iinc 4 1, 3) := by decide +kernel
theorem dX0_pullsMaking_47 : decode cX0_pullsMaking 47 = .ok (.goto (-42), 3) := by decide +kernel
theorem dX0_pullsMaking_50 : decode cX0_pullsMaking 50 = .ok (.iload_n 3, 1) := by decide +kernel
theorem dX0_pullsMaking_51 : decode cX0_pullsMaking 51 = .ok (.ireturn, 1) := by decide +kernel
set_option maxRecDepth 20000 in
theorem ggX0_firstMaking_X0_pullAt : GoodIn wsX0_firstMaking wsX0_pullAt := goodIn_r _ [7, 1, 8, 9, 10, 11, 46, 47, 48, 49, 50, 51, 52, 53, 54] rfl (by decide +kernel)
set_option maxRecDepth 20000 in
theorem gX0_firstMaking_X0_pullAt : GoodIn wsX0_firstMaking (wsV RX0 77 RX0 yX0_pullAt wsX0_pullAt) := goodIn_app (goodIn_r _ [3, 4, 5, 6] rfl (by decide +kernel)) ggX0_firstMaking_X0_pullAt
set_option maxRecDepth 20000 in
theorem ggX0_firstMaking_X2_makes : GoodIn wsX0_firstMaking wsX2_makes := goodIn_r _ [16, 17, 18, 19, 15, 20, 21, 22, 23, 24, 25, 26, 27, 28, 29, 30, 31, 32, 33, 34, 35, 36, 37, 38, 39, 40, 41, 42, 43, 44, 45, 55, 56, 57] rfl (by decide +kernel)
set_option maxRecDepth 20000 in
theorem gX0_firstMaking_X2_makes : GoodIn wsX0_firstMaking (wsV RX0 81 RX2 yX2_makes wsX2_makes) := goodIn_app (goodIn_r _ [12, 13, 14, 15] rfl (by decide +kernel)) ggX0_firstMaking_X2_makes
theorem dX0_firstMaking_0 : decode cX0_firstMaking 0 = .ok (.iconst 0, 1) := by decide +kernel
theorem dX0_firstMaking_1 : decode cX0_firstMaking 1 = .ok (.istore_n 3, 1) := by decide +kernel
theorem dX0_firstMaking_2 : decode cX0_firstMaking 2 = .ok (.iload_n 3, 1) := by decide +kernel
theorem dX0_firstMaking_3 : decode cX0_firstMaking 3 = .ok (.aload_n 0, 1) := by decide +kernel
theorem dX0_firstMaking_4 : decode cX0_firstMaking 4 = .ok (.getfield 28, 3) := by decide +kernel
theorem dX0_firstMaking_7 : decode cX0_firstMaking 7 = .ok (.if_icmp .ge 37, 3) := by decide +kernel
theorem dX0_firstMaking_10 : decode cX0_firstMaking 10 = .ok (.aload_n 0, 1) := by decide +kernel
theorem dX0_firstMaking_11 : decode cX0_firstMaking 11 = .ok (.iload_n 3, 1) := by decide +kernel
theorem dX0_firstMaking_12 : decode cX0_firstMaking 12 = .ok (.invokevirtual 77, 3) := by decide +kernel
theorem dX0_firstMaking_15 : decode cX0_firstMaking 15 = .ok (.astore 4, 2) := by decide +kernel
theorem dX0_firstMaking_17 : decode cX0_firstMaking 17 = .ok (.aload 4, 2) := by decide +kernel
theorem dX0_firstMaking_19 : decode cX0_firstMaking 19 = .ok (.ifnull 19, 3) := by decide +kernel
theorem dX0_firstMaking_22 : decode cX0_firstMaking 22 = .ok (.aload 4, 2) := by decide +kernel
theorem dX0_firstMaking_24 : decode cX0_firstMaking 24 = .ok (.iload_n 1, 1) := by decide +kernel
theorem dX0_firstMaking_25 : decode cX0_firstMaking 25 = .ok (.iload_n 2, 1) := by decide +kernel
theorem dX0_firstMaking_26 : decode cX0_firstMaking 26 = .ok (.aload_n 0, 1) := by decide +kernel
theorem dX0_firstMaking_27 : decode cX0_firstMaking 27 = .ok (.getfield 41, 3) := by decide +kernel
theorem dX0_firstMaking_30 : decode cX0_firstMaking 30 = .ok (.invokevirtual 81, 3) := by decide +kernel
theorem dX0_firstMaking_33 : decode cX0_firstMaking 33 = .ok (.ifCond .eq 5, 3) := by decide +kernel
theorem dX0_firstMaking_36 : decode cX0_firstMaking 36 = .ok (.iload_n 3, 1) := by decide +kernel
theorem dX0_firstMaking_37 : decode cX0_firstMaking 37 = .ok (.ireturn, 1) := by decide +kernel
theorem dX0_firstMaking_38 : decode cX0_firstMaking 38 = .ok (.iinc 3 1, 3) := by decide +kernel
theorem dX0_firstMaking_41 : decode cX0_firstMaking 41 = .ok (.goto (-39), 3) := by decide +kernel
theorem dX0_firstMaking_44 : decode cX0_firstMaking 44 = .ok (.iconst (-1), 1) := by decide +kernel
theorem dX0_firstMaking_45 : decode cX0_firstMaking 45 = .ok (.ireturn, 1) := by decide +kernel
set_option maxRecDepth 20000 in
theorem ggX4_holdRow_J7_fill_d0a16 : GoodIn wsX4_holdRow wsJ7_fill_d0a16 := goodIn_r _ [7] rfl (by decide +kernel)
set_option maxRecDepth 20000 in
theorem gX4_holdRow_J7_fill_d0a16 : GoodIn wsX4_holdRow (va_wsS RX4 22 yJ7_fill_d0a16 wsJ7_fill_d0a16) := goodIn_app (goodIn_r _ [4, 5, 6] rfl (by decide +kernel)) ggX4_holdRow_J7_fill_d0a16
theorem dX4_holdRow_0 : decode cX4_holdRow 0 = .ok (.aload_n 0, 1) := by decide +kernel
theorem dX4_holdRow_1 : decode cX4_holdRow 1 = .ok (.bipush 100, 2) := by decide +kernel
theorem dX4_holdRow_3 : decode cX4_holdRow 3 = .ok (.iload_n 1, 1) := by decide +kernel
theorem dX4_holdRow_4 : decode cX4_holdRow 4 = .ok (.iadd, 1) := by decide +kernel
theorem dX4_holdRow_5 : decode cX4_holdRow 5 = .ok (.putfield 15, 3) := by decide +kernel
theorem dX4_holdRow_8 : decode cX4_holdRow 8 = .ok (.aload_n 0, 1) := by decide +kernel
theorem dX4_holdRow_9 : decode cX4_holdRow 9 = .ok (.iload_n 2, 1) := by decide +kernel
theorem dX4_holdRow_10 : decode cX4_holdRow 10 = .ok (.putfield 19, 3) := by decide +kernel
theorem dX4_holdRow_13 : decode cX4_holdRow 13 = .ok (.aload_n 0, 1) := by decide +kernel
theorem dX4_holdRow_14 : decode cX4_holdRow 14 = .ok (.getfield 9, 3) := by decide +kernel
theorem dX4_holdRow_17 : decode cX4_holdRow 17 = .ok (.lconst 0, 1) := by decide +kernel
theorem dX4_holdRow_18 : decode cX4_holdRow 18 = .ok (.invokestatic 22, 3) := by decide +kernel
theorem dX4_holdRow_21 : decode cX4_holdRow 21 = .ok (.return_, 1) := by decide +kernel
theorem dX4_forgetFrom_0 : decode cX4_forgetFrom 0 = .ok (.aload_n 0, 1) := by decide +kernel
theorem dX4_forgetFrom_1 : decode cX4_forgetFrom 1 = .ok (.getfield 15, 3) := by decide +kernel
theorem dX4_forgetFrom_4 : decode cX4_forgetFrom 4 = .ok (.iload_n 1, 1) := by decide +kernel
theorem dX4_forgetFrom_5 : decode cX4_forgetFrom 5 = .ok (.if_icmp .lt 17, 3) := by decide +kernel
theorem dX4_forgetFrom_8 : decode cX4_forgetFrom 8 = .ok (.aload_n 0, 1) := by decide +kernel
theorem dX4_forgetFrom_9 : decode cX4_forgetFrom 9 = .ok (.getfield 15, 3) := by decide +kernel
theorem dX4_forgetFrom_12 : decode cX4_forgetFrom 12 = .ok (.bipush 100, 2) := by decide +kernel
theorem dX4_forgetFrom_14 : decode cX4_forgetFrom 14 = .ok (.if_icmp .ge 8, 3) := by decide +kernel
theorem dX4_forgetFrom_17 : decode cX4_forgetFrom 17 = .ok (.aload_n 0, 1) := by decide +kernel
theorem dX4_forgetFrom_18 : decode cX4_forgetFrom 18 = .ok (.iconst (-1), 1) := by decide +kernel
theorem dX4_forgetFrom_19 : decode cX4_forgetFrom 19 = .ok (.putfield 15, 3) := by decide +kernel
theorem dX4_forgetFrom_22 : decode cX4_forgetFrom 22 = .ok (.return_, 1) := by decide +kernel
theorem dX4_put_0 : decode cX4_put 0 = .ok (.aload_n 0, 1) := by decide +kernel
theorem dX4_put_1 : decode cX4_put 1 = .ok (.getfield 15, 3) := by decide +kernel
theorem dX4_put_4 : decode cX4_put 4 = .ok (.bipush 100, 2) := by decide +kernel
theorem dX4_put_6 : decode cX4_put 6 = .ok (.isub, 1) := by decide +kernel
theorem dX4_put_7 : decode cX4_put 7 = .ok (.tableswitch 63 0 2 #[25, 38, 51], 25) := by decide +kernel
theorem dX4_put_32 : decode cX4_put 32 = .ok (.aload_n 0, 1) := by decide +kernel
theorem dX4_put_33 : decode cX4_put 33 = .ok (.getfield 9, 3) := by decide +kernel
theorem dX4_put_36 : decode cX4_put 36 = .ok (.iload_n 1, 1) := by decide +kernel
theorem dX4_put_37 : decode cX4_put 37 = .ok (.lload_n 2, 1) := by decide +kernel
theorem dX4_put_38 : decode cX4_put 38 = .ok (.l2i, 1) := by decide +kernel
theorem dX4_put_39 : decode cX4_put 39 = .ok (.i2b, 1) := by decide +kernel
theorem dX4_put_40 : decode cX4_put 40 = .ok (.i2l, 1) := by decide +kernel
theorem dX4_put_41 : decode cX4_put 41 = .ok (.lastore, 1) := by decide +kernel
theorem dX4_put_42 : decode cX4_put 42 = .ok (.goto 35, 3) := by decide +kernel
theorem dX4_put_45 : decode cX4_put 45 = .ok (.aload_n 0, 1) := by decide +kernel
theorem dX4_put_46 : decode cX4_put 46 = .ok (.getfield 9, 3) := by decide +kernel
theorem dX4_put_49 : decode cX4_put 49 = .ok (.iload_n 1, 1) := by decide +kernel
theorem dX4_put_50 : decode cX4_put 50 = .ok (.lload_n 2, 1) := by decide +kernel
theorem dX4_put_51 : decode cX4_put 51 = .ok (.l2i, 1) := by decide +kernel
theorem dX4_put_52 : decode cX4_put 52 = .ok (.i2s, 1) := by decide +kernel
theorem dX4_put_53 : decode cX4_put 53 = .ok (.i2l, 1) := by decide +kernel
theorem dX4_put_54 : decode cX4_put 54 = .ok (.lastore, 1) := by decide +kernel
theorem dX4_put_55 : decode cX4_put 55 = .ok (.goto 22, 3) := by decide +kernel
theorem dX4_put_58 : decode cX4_put 58 = .ok (.aload_n 0, 1) := by decide +kernel
theorem dX4_put_59 : decode cX4_put 59 = .ok (.getfield 9, 3) := by decide +kernel
theorem dX4_put_62 : decode cX4_put 62 = .ok (.iload_n 1, 1) := by decide +kernel
theorem dX4_put_63 : decode cX4_put 63 = .ok (.lload_n 2, 1) := by decide +kernel
theorem dX4_put_64 : decode cX4_put 64 = .ok (.l2i, 1) := by decide +kernel
theorem dX4_put_65 : decode cX4_put 65 = .ok (.i2l, 1) := by decide +kernel
theorem dX4_put_66 : decode cX4_put 66 = .ok (.lastore, 1) := by decide +kernel
theorem dX4_put_67 : decode cX4_put 67 = .ok (.goto 10, 3) := by decide +kernel
theorem dX4_put_70 : decode cX4_put 70 = .ok (.aload_n 0, 1) := by decide +kernel
theorem dX4_put_71 : decode cX4_put 71 = .ok (.getfield 9, 3) := by decide +kernel
theorem dX4_put_74 : decode cX4_put 74 = .ok (.iload_n 1, 1) := by decide +kernel
theorem dX4_put_75 : decode cX4_put 75 = .ok (.lload_n 2, 1) := by decide +kernel
theorem dX4_put_76 : decode cX4_put 76 = .ok (.lastore, 1) := by decide +kernel
theorem dX4_put_77 : decode cX4_put 77 = .ok (.return_, 1) := by decide +kernel
theorem dJ7_fill_d0a16_0 : decode cJ7_fill_d0a16 0 = .ok (.iconst 0, 1) := by decide +kernel
theorem dJ7_fill_d0a16_1 : decode cJ7_fill_d0a16 1 = .ok (.istore_n 3, 1) := by decide +kernel
theorem dJ7_fill_d0a16_2 : decode cJ7_fill_d0a16 2 = .ok (.aload_n 0, 1) := by decide +kernel
theorem dJ7_fill_d0a16_3 : decode cJ7_fill_d0a16 3 = .ok (.arraylength, 1) := by decide +kernel
theorem dJ7_fill_d0a16_4 : decode cJ7_fill_d0a16 4 = .ok (.istore 4, 2) := by decide +kernel
theorem dJ7_fill_d0a16_6 : decode cJ7_fill_d0a16 6 = .ok (.iload_n 3, 1) := by decide +kernel
theorem dJ7_fill_d0a16_7 : decode cJ7_fill_d0a16 7 = .ok (.iload 4, 2) := by decide +kernel
theorem dJ7_fill_d0a16_9 : decode cJ7_fill_d0a16 9 = .ok (.if_icmp .ge 13, 3) := by decide +kernel
theorem dJ7_fill_d0a16_12 : decode cJ7_fill_d0a16 12 = .ok (.aload_n 0, 1) := by decide +kernel
theorem dJ7_fill_d0a16_13 : decode cJ7_fill_d0a16 13 = .ok (.iload_n 3, 1) := by decide +kernel
theorem dJ7_fill_d0a16_14 : decode cJ7_fill_d0a16 14 = .ok (.lload_n 1, 1) := by decide +kernel
theorem dJ7_fill_d0a16_15 : decode cJ7_fill_d0a16 15 = .ok (.lastore, 1) := by decide +kernel
theorem dJ7_fill_d0a16_16 : decode cJ7_fill_d0a16 16 = .ok (.iinc 3 1, 3) := by decide +kernel
theorem dJ7_fill_d0a16_19 : decode cJ7_fill_d0a16 19 = .ok (.goto (-13), 3) := by decide +kernel
theorem dJ7_fill_d0a16_22 : decode cJ7_fill_d0a16 22 = .ok (.return_, 1) := by decide +kernel

