def wsX0_setNumber : List Cond := (.code yX0_setNumber cX0_setNumber 3 none) :: (.fieldLink RX0 32 "TheLiningsInIt$Jacket" "depth" "I") :: (.fieldLink RX0 38 "TheLiningsInIt$Jacket" "seconds" "I") :: (.fieldLink RX0 41 "TheLiningsInIt$Jacket" "hurry" "I") :: (.fieldLink RX0 12 "TheLiningsInIt$Jacket" "zip" "LTheLiningsInIt$Zip;") :: (.fieldLink RX0 60 "TheLiningsInIt$Zip" "gap" "I") :: (.fieldLink RX0 63 "TheLiningsInIt$Zip" "at" "I") :: (.fieldLink RX0 24 "TheLiningsInIt$Jacket" "costs" "[I") :: (.static yX7_within) :: (.initialized RX7) :: (.code yX7_within cX7_within 3 (some .boolean)) :: (wsX00 ++ wsX60)
def wsX0_draw : List Cond := (.code yX0_draw cX0_draw 2 (some .int)) :: (.fieldLink RX0 44 "TheLiningsInIt$Jacket" "seedNow" "I") :: (.constant RX0 84 (1103515245)) :: wsX00
def wsX0_pullInTruth_r1 : List Cond := (Cond.fieldLink RX0 32 "TheLiningsInIt$Jacket" "depth" "I") :: (Cond.fieldLink RX0 41 "TheLiningsInIt$Jacket" "hurry" "I") :: (Cond.fieldLink RX0 38 "TheLiningsInIt$Jacket" "seconds" "I") :: (Cond.fieldLink RX0 99 "TheLiningsInIt$Pull" "takes" "I") :: (Cond.fieldLink RX0 102 "TheLiningsInIt$Pull" "kind" "I") :: (Cond.fieldLink RX0 35 "TheLiningsInIt$Jacket" "torn" "I") :: (Cond.methodLink RX0 85 yX0_draw) :: (Cond.instanceMethod yX0_draw) :: (Cond.selects RX0 yX0_draw yX0_draw) :: (Cond.initialized RX0) :: (Cond.code yX0_draw cX0_draw 2 (some .int)) :: (Cond.fieldLink RX0 44 "TheLiningsInIt$Jacket" "seedNow" "I") :: (Cond.constant RX0 84 (1103515245)) :: (Cond.methodLink RX0 89 yX2_waysAt) :: (Cond.instanceMethod yX2_waysAt) :: (Cond.selects RX2 yX2_waysAt yX2_waysAt) :: (Cond.initialized RX2) :: (Cond.code yX2_waysAt cX2_waysAt 3 (some .int)) :: (Cond.fieldLink RX2 9 "TheLiningsInIt$Pull" "kind" "I") :: (Cond.methodLink RX2 33 Lib.Math.min.name) :: (Cond.static Lib.Math.min.name) :: (Cond.initialized "java/lang/Math") :: (Cond.code Lib.Math.min.name Lib.Math.min.code 2 (some .int)) :: (Cond.methodLink RX2 39 Lib.Math.max.name) :: []
def wsX0_pullInTruth_r2 : List Cond := (Cond.static Lib.Math.max.name) :: (Cond.code Lib.Math.max.name Lib.Math.max.code 2 (some .int)) :: (Cond.methodLink RX2 29 yX2_calmWaysAt) :: (Cond.instanceMethod yX2_calmWaysAt) :: (Cond.selects RX2 yX2_calmWaysAt yX2_calmWaysAt) :: (Cond.code yX2_calmWaysAt cX2_calmWaysAt 2 (some .int)) :: (Cond.fieldLink RX2 15 "TheLiningsInIt$Pull" "a" "I") :: (Cond.methodLink RX0 93 yX2_shallower) :: (Cond.instanceMethod yX2_shallower) :: (Cond.selects RX2 yX2_shallower yX2_shallower) :: (Cond.code yX2_shallower cX2_shallower 2 (some .int)) :: (Cond.methodLink RX2 42 yX2_step) :: (Cond.instanceMethod yX2_step) :: (Cond.selects RX2 yX2_step yX2_step) :: (Cond.code yX2_step cX2_step 1 (some .int)) :: (Cond.methodLink RX0 96 yX2_deeper) :: (Cond.instanceMethod yX2_deeper) :: (Cond.selects RX2 yX2_deeper yX2_deeper) :: (Cond.code yX2_deeper cX2_deeper 4 (some .int)) :: []
def wsX0_pullInTruth : List Cond := (.code yX0_pullInTruth cX0_pullInTruth 3 none) :: ((wsX0_pullInTruth_r1 ++ wsX0_pullInTruth_r2) ++ wsX00 ++ wsX20)
def wsX0_closeInTruth_r1 : List Cond := (Cond.fieldLink RX0 12 "TheLiningsInIt$Jacket" "zip" "LTheLiningsInIt$Zip;") :: (Cond.fieldLink RX0 63 "TheLiningsInIt$Zip" "at" "I") :: (Cond.fieldLink RX0 57 "TheLiningsInIt$Zip" "size" "I") :: (Cond.fieldLink RX0 109 "TheLiningsInIt$Zip" "slacks" "[I") :: (Cond.fieldLink RX0 60 "TheLiningsInIt$Zip" "gap" "I") :: (Cond.fieldLink RX0 32 "TheLiningsInIt$Jacket" "depth" "I") :: (Cond.methodLink RX0 105 yX6_catchesAt) :: (Cond.instanceMethod yX6_catchesAt) :: (Cond.selects RX6 yX6_catchesAt yX6_catchesAt) :: (Cond.initialized RX6) :: (Cond.code yX6_catchesAt cX6_catchesAt 2 (some .boolean)) :: (Cond.fieldLink RX6 9 "TheLiningsInIt$Zip" "lacking" "[Z") :: (Cond.fieldLink RX6 15 "TheLiningsInIt$Zip" "slacks" "[I") :: (Cond.fieldLink RX6 26 "TheLiningsInIt$Zip" "gap" "I") :: (Cond.methodLink RX6 29 yX6_has) :: (Cond.instanceMethod yX6_has) :: (Cond.selects RX6 yX6_has yX6_has) :: (Cond.code yX6_has cX6_has 2 (some .boolean)) :: (Cond.fieldLink RX6 19 "TheLiningsInIt$Zip" "size" "I") :: (Cond.methodLink RX0 85 yX0_draw) :: (Cond.instanceMethod yX0_draw) :: (Cond.selects RX0 yX0_draw yX0_draw) :: (Cond.initialized RX0) :: (Cond.code yX0_draw cX0_draw 2 (some .int)) :: []
def wsX0_closeInTruth_r2 : List Cond := (Cond.fieldLink RX0 44 "TheLiningsInIt$Jacket" "seedNow" "I") :: (Cond.constant RX0 84 (1103515245)) :: (Cond.methodLink RX0 112 yX6_lacksThreeFrom) :: (Cond.instanceMethod yX6_lacksThreeFrom) :: (Cond.selects RX6 yX6_lacksThreeFrom yX6_lacksThreeFrom) :: (Cond.code yX6_lacksThreeFrom cX6_lacksThreeFrom 2 (some .boolean)) :: (Cond.methodLink RX6 33 yX6_lacksAt) :: (Cond.instanceMethod yX6_lacksAt) :: (Cond.selects RX6 yX6_lacksAt yX6_lacksAt) :: (Cond.code yX6_lacksAt cX6_lacksAt 2 (some .boolean)) :: []
def wsX0_closeInTruth : List Cond := (.code yX0_closeInTruth cX0_closeInTruth 2 none) :: ((wsX0_closeInTruth_r1 ++ wsX0_closeInTruth_r2) ++ wsX00 ++ wsX60)
set_option maxRecDepth 20000 in
theorem ggX0_setNumber_X7_within : GoodIn wsX0_setNumber wsX7_within := goodIn_r _ [10] rfl (by decide +kernel)
set_option maxRecDepth 20000 in
theorem gX0_setNumber_X7_within_n66 : GoodIn wsX0_setNumber (wsX7_within) := ggX0_setNumber_X7_within
theorem dX0_setNumber_0 : decode cX0_setNumber 0 = .ok (.iload_n 1, 1) := by decide +kernel
theorem dX0_setNumber_1 : decode cX0_setNumber 1 = .ok (.tableswitch 93 0 7 #[47, 55, 63, 71, 93, 93, 93, 82], 47) := by decide +kernel
theorem dX0_setNumber_48 : decode cX0_setNumber 48 = .ok (.aload_n 0, 1) := by decide +kernel
theorem dX0_setNumber_49 : decode cX0_setNumber 49 = .ok (.iload_n 2, 1) := by decide +kernel
theorem dX0_setNumber_50 : decode cX0_setNumber 50 = .ok (.putfield 32, 3) := by decide +kernel
theorem dX0_setNumber_53 : decode cX0_setNumber 53 = .ok (.goto 61, 3) := by decide +kernel
theorem dX0_setNumber_56 : decode cX0_setNumber 56 = .ok (.aload_n 0, 1) := by decide +kernel
theorem dX0_setNumber_57 : decode cX0_setNumber 57 = .ok (.iload_n 2, 1) := by decide +kernel
theorem dX0_setNumber_58 : decode cX0_setNumber 58 = .ok (.putfield 38, 3) := by decide +kernel
theorem dX0_setNumber_61 : decode cX0_setNumber 61 = .ok (.goto 53, 3) := by decide +kernel
theorem dX0_setNumber_64 : decode cX0_setNumber 64 = .ok (.aload_n 0, 1) := by decide +kernel
theorem dX0_setNumber_65 : decode cX0_setNumber 65 = .ok (.iload_n 2, 1) := by decide +kernel
theorem dX0_setNumber_66 : decode cX0_setNumber 66 = .ok (.putfield 41, 3) := by decide +kernel
theorem dX0_setNumber_69 : decode cX0_setNumber 69 = .ok (.goto 45, 3) := by decide +kernel
theorem dX0_setNumber_72 : decode cX0_setNumber 72 = .ok (.aload_n 0, 1) := by decide +kernel
theorem dX0_setNumber_73 : decode cX0_setNumber 73 = .ok (.getfield 12, 3) := by decide +kernel
theorem dX0_setNumber_76 : decode cX0_setNumber 76 = .ok (.iload_n 2, 1) := by decide +kernel
theorem dX0_setNumber_77 : decode cX0_setNumber 77 = .ok (.putfield 60, 3) := by decide +kernel
theorem dX0_setNumber_80 : decode cX0_setNumber 80 = .ok (.goto 34, 3) := by decide +kernel
theorem dX0_setNumber_83 : decode cX0_setNumber 83 = .ok (.aload_n 0, 1) := by decide +kernel
theorem dX0_setNumber_84 : decode cX0_setNumber 84 = .ok (.getfield 12, 3) := by decide +kernel
theorem dX0_setNumber_87 : decode cX0_setNumber 87 = .ok (.iload_n 2, 1) := by decide +kernel
theorem dX0_setNumber_88 : decode cX0_setNumber 88 = .ok (.putfield 63, 3) := by decide +kernel
theorem dX0_setNumber_91 : decode cX0_setNumber 91 = .ok (.goto 23, 3) := by decide +kernel
theorem dX0_setNumber_94 : decode cX0_setNumber 94 = .ok (.iload_n 1, 1) := by decide +kernel
theorem dX0_setNumber_95 : decode cX0_setNumber 95 = .ok (.iconst 4, 1) := by decide +kernel
theorem dX0_setNumber_96 : decode cX0_setNumber 96 = .ok (.isub, 1) := by decide +kernel
theorem dX0_setNumber_97 : decode cX0_setNumber 97 = .ok (.iconst 0, 1) := by decide +kernel
theorem dX0_setNumber_98 : decode cX0_setNumber 98 = .ok (.iconst 2, 1) := by decide +kernel
theorem dX0_setNumber_99 : decode cX0_setNumber 99 = .ok (.invokestatic 66, 3) := by decide +kernel
theorem dX0_setNumber_102 : decode cX0_setNumber 102 = .ok (.ifCond .eq 12, 3) := by decide +kernel
theorem dX0_setNumber_105 : decode cX0_setNumber 105 = .ok (.aload_n 0, 1) := by decide +kernel
theorem dX0_setNumber_106 : decode cX0_setNumber 106 = .ok (.getfield 24, 3) := by decide +kernel
theorem dX0_setNumber_109 : decode cX0_setNumber 109 = .ok (.iload_n 1, 1) := by decide +kernel
theorem dX0_setNumber_110 : decode cX0_setNumber 110 = .ok (.iconst 4, 1) := by decide +kernel
theorem dX0_setNumber_111 : decode cX0_setNumber 111 = .ok (.isub, 1) := by decide +kernel
theorem dX0_setNumber_112 : decode cX0_setNumber 112 = .ok (.iload_n 2, 1) := by decide +kernel
theorem dX0_setNumber_113 : decode cX0_setNumber 113 = .ok (.iastore, 1) := by decide +kernel
theorem dX0_setNumber_114 : decode cX0_setNumber 114 = .ok (.return_, 1) := by decide +kernel
theorem dX0_draw_0 : decode cX0_draw 0 = .ok (.aload_n 0, 1) := by decide +kernel
theorem dX0_draw_1 : decode cX0_draw 1 = .ok (.aload_n 0, 1) := by decide +kernel
theorem dX0_draw_2 : decode cX0_draw 2 = .ok (.getfield 44, 3) := by decide +kernel
theorem dX0_draw_5 : decode cX0_draw 5 = .ok (.ldc 84, 2) := by decide +kernel
theorem dX0_draw_7 : decode cX0_draw 7 = .ok (.imul, 1) := by decide +kernel
theorem dX0_draw_8 : decode cX0_draw 8 = .ok (.sipush 12345, 3) := by decide +kernel
theorem dX0_draw_11 : decode cX0_draw 11 = .ok (.iadd, 1) := by decide +kernel
theorem dX0_draw_12 : decode cX0_draw 12 = .ok (.putfield 44, 3) := by decide +kernel
theorem dX0_draw_15 : decode cX0_draw 15 = .ok (.iload_n 1, 1) := by decide +kernel
theorem dX0_draw_16 : decode cX0_draw 16 = .ok (.iconst 1, 1) := by decide +kernel
theorem dX0_draw_17 : decode cX0_draw 17 = .ok (.if_icmp .ge 7, 3) := by decide +kernel
theorem dX0_draw_24 : decode cX0_draw 24 = .ok (.aload_n 0, 1) := by decide +kernel
theorem dX0_draw_25 : decode cX0_draw 25 = .ok (.getfield 44, 3) := by decide +kernel
theorem dX0_draw_28 : decode cX0_draw 28 = .ok (.bipush 16, 2) := by decide +kernel
theorem dX0_draw_30 : decode cX0_draw 30 = .ok (.iushr, 1) := by decide +kernel
theorem dX0_draw_31 : decode cX0_draw 31 = .ok (.iload_n 1, 1) := by decide +kernel
theorem dX0_draw_32 : decode cX0_draw 32 = .ok (.irem, 1) := by decide +kernel
theorem dX0_draw_33 : decode cX0_draw 33 = .ok (.ireturn, 1) := by decide +kernel
set_option maxRecDepth 20000 in
theorem ggX0_pullInTruth_X0_draw : GoodIn wsX0_pullInTruth wsX0_draw := goodIn_r _ [11, 12, 13, 44, 45, 46, 47, 48, 49, 50, 51, 52] rfl (by decide +kernel)
set_option maxRecDepth 20000 in
theorem gX0_pullInTruth_X0_draw : GoodIn wsX0_pullInTruth (wsV RX0 85 RX0 yX0_draw wsX0_draw) := goodIn_app (goodIn_r _ [7, 8, 9, 10] rfl (by decide +kernel)) ggX0_pullInTruth_X0_draw
set_option maxRecDepth 20000 in
theorem ggX0_pullInTruth_X2_waysAt : GoodIn wsX0_pullInTruth wsX2_waysAt := goodIn_r _ [18, 19, 20, 21, 22, 23, 24, 25, 26, 27, 28, 29, 17, 30, 31, 53, 54, 55] rfl (by decide +kernel)
set_option maxRecDepth 20000 in
theorem gX0_pullInTruth_X2_waysAt : GoodIn wsX0_pullInTruth (wsV RX0 89 RX2 yX2_waysAt wsX2_waysAt) := goodIn_app (goodIn_r _ [14, 15, 16, 17] rfl (by decide +kernel)) ggX0_pullInTruth_X2_waysAt
set_option maxRecDepth 20000 in
theorem ggX0_pullInTruth_X2_shallower : GoodIn wsX0_pullInTruth wsX2_shallower := goodIn_r _ [35, 24, 25, 22, 26, 36, 37, 38, 17, 39, 19, 31, 53, 54, 55] rfl (by decide +kernel)
set_option maxRecDepth 20000 in
theorem gX0_pullInTruth_X2_shallower : GoodIn wsX0_pullInTruth (wsV RX0 93 RX2 yX2_shallower wsX2_shallower) := goodIn_app (goodIn_r _ [32, 33, 34, 17] rfl (by decide +kernel)) ggX0_pullInTruth_X2_shallower
set_option maxRecDepth 20000 in
theorem ggX0_pullInTruth_X2_deeper : GoodIn wsX0_pullInTruth wsX2_deeper := goodIn_r _ [43, 19, 31, 20, 21, 22, 23, 53, 54, 55] rfl (by decide +kernel)
set_option maxRecDepth 20000 in
theorem gX0_pullInTruth_X2_deeper : GoodIn wsX0_pullInTruth (wsV RX0 96 RX2 yX2_deeper wsX2_deeper) := goodIn_app (goodIn_r _ [40, 41, 42, 17] rfl (by decide +kernel)) ggX0_pullInTruth_X2_deeper
theorem dX0_pullInTruth_0 : decode cX0_pullInTruth 0 = .ok (.aload_n 0, 1) := by decide +kernel
theorem dX0_pullInTruth_1 : decode cX0_pullInTruth 1 = .ok (.bipush 12, 2) := by decide +kernel
theorem dX0_pullInTruth_3 : decode cX0_pullInTruth 3 = .ok (.invokevirtual 85, 3) := by decide +kernel
theorem dX0_pullInTruth_6 : decode cX0_pullInTruth 6 = .ok (.aload_n 1, 1) := by decide +kernel
theorem dX0_pullInTruth_7 : decode cX0_pullInTruth 7 = .ok (.aload_n 0, 1) := by decide +kernel
theorem dX0_pullInTruth_8 : decode cX0_pullInTruth 8 = .ok (.getfield 32, 3) := by decide +kernel
theorem dX0_pullInTruth_11 : decode cX0_pullInTruth 11 = .ok (.aload_n 0, 1) := by decide +kernel
theorem dX0_pullInTruth_12 : decode cX0_pullInTruth 12 = .ok (.getfield 41, 3) := by decide +kernel
theorem dX0_pullInTruth_15 : decode cX0_pullInTruth 15 = .ok (.invokevirtual 89, 3) := by decide +kernel
theorem dX0_pullInTruth_18 : decode cX0_pullInTruth 18 = .ok (.if_icmp .ge 7, 3) := by decide +kernel
theorem dX0_pullInTruth_21 : decode cX0_pullInTruth 21 = .ok (.iconst 1, 1) := by decide +kernel
theorem dX0_pullInTruth_22 : decode cX0_pullInTruth 22 = .ok (.goto 4, 3) := by decide +kernel
theorem dX0_pullInTruth_25 : decode cX0_pullInTruth 25 = .ok (.iconst 0, 1) := by decide +kernel
theorem dX0_pullInTruth_26 : decode cX0_pullInTruth 26 = .ok (.istore_n 2, 1) := by decide +kernel
theorem dX0_pullInTruth_27 : decode cX0_pullInTruth 27 = .ok (.aload_n 0, 1) := by decide +kernel
theorem dX0_pullInTruth_28 : decode cX0_pullInTruth 28 = .ok (.iload_n 2, 1) := by decide +kernel
theorem dX0_pullInTruth_29 : decode cX0_pullInTruth 29 = .ok (.ifCond .eq 14, 3) := by decide +kernel
theorem dX0_pullInTruth_32 : decode cX0_pullInTruth 32 = .ok (.aload_n 1, 1) := by decide +kernel
theorem dX0_pullInTruth_33 : decode cX0_pullInTruth 33 = .ok (.aload_n 0, 1) := by decide +kernel
theorem dX0_pullInTruth_34 : decode cX0_pullInTruth 34 = .ok (.getfield 32, 3) := by decide +kernel
theorem dX0_pullInTruth_37 : decode cX0_pullInTruth 37 = .ok (.invokevirtual 93, 3) := by decide +kernel
theorem dX0_pullInTruth_40 : decode cX0_pullInTruth 40 = .ok (.goto 15, 3) := by decide +kernel
theorem dX0_pullInTruth_43 : decode cX0_pullInTruth 43 = .ok (.aload_n 1, 1) := by decide +kernel
theorem dX0_pullInTruth_44 : decode cX0_pullInTruth 44 = .ok (.aload_n 0, 1) := by decide +kernel
theorem dX0_pullInTruth_45 : decode cX0_pullInTruth 45 = .ok (.getfield 32, 3) := by decide +kernel
theorem dX0_pullInTruth_48 : decode cX0_pullInTruth 48 = .ok (.aload_n 0, 1) := by decide +kernel
theorem dX0_pullInTruth_49 : decode cX0_pullInTruth 49 = .ok (.getfield 41, 3) := by decide +kernel
theorem dX0_pullInTruth_52 : decode cX0_pullInTruth 52 = .ok (.invokevirtual 96, 3) := by decide +kernel
theorem dX0_pullInTruth_55 : decode cX0_pullInTruth 55 = .ok (.putfield 32, 3) := by decide +kernel
theorem dX0_pullInTruth_58 : decode cX0_pullInTruth 58 = .ok (.aload_n 0, 1) := by decide +kernel
theorem dX0_pullInTruth_59 : decode cX0_pullInTruth 59 = .ok (.dup, 1) := by decide +kernel
theorem dX0_pullInTruth_60 : decode cX0_pullInTruth 60 = .ok (.getfield 38, 3) := by decide +kernel
theorem dX0_pullInTruth_63 : decode cX0_pullInTruth 63 = .ok (.aload_n 1, 1) := by decide +kernel
theorem dX0_pullInTruth_64 : decode cX0_pullInTruth 64 = .ok (.getfield 99, 3) := by decide +kernel
theorem dX0_pullInTruth_67 : decode cX0_pullInTruth 67 = .ok (.isub, 1) := by decide +kernel
theorem dX0_pullInTruth_68 : decode cX0_pullInTruth 68 = .ok (.putfield 38, 3) := by decide +kernel
theorem dX0_pullInTruth_71 : decode cX0_pullInTruth 71 = .ok (.aload_n 1, 1) := by decide +kernel
theorem dX0_pullInTruth_72 : decode cX0_pullInTruth 72 = .ok (.getfield 102, 3) := by decide +kernel
theorem dX0_pullInTruth_75 : decode cX0_pullInTruth 75 = .ok (.iconst 5, 1) := by decide +kernel
theorem dX0_pullInTruth_76 : decode cX0_pullInTruth 76 = .ok (.if_icmp .ne 13, 3) := by decide +kernel
theorem dX0_pullInTruth_79 : decode cX0_pullInTruth 79 = .ok (.aload_n 0, 1) := by decide +kernel
theorem dX0_pullInTruth_80 : decode cX0_pullInTruth 80 = .ok (.dup, 1) := by decide +kernel
theorem dX0_pullInTruth_81 : decode cX0_pullInTruth 81 = .ok (.getfield 35, 3) := by decide +kernel
theorem dX0_pullInTruth_84 : decode cX0_pullInTruth 84 = .ok (.iconst 1, 1) := by decide +kernel
theorem dX0_pullInTruth_85 : decode cX0_pullInTruth 85 = .ok (.iadd, 1) := by decide +kernel
theorem dX0_pullInTruth_86 : decode cX0_pullInTruth 86 = .ok (.putfield 35, 3) := by decide +kernel
theorem dX0_pullInTruth_89 : decode cX0_pullInTruth 89 = .ok (.return_, 1) := by decide +kernel
set_option maxRecDepth 20000 in
theorem ggX0_closeInTruth_X6_catchesAt : GoodIn wsX0_closeInTruth wsX6_catchesAt := goodIn_r _ [11, 12, 13, 14, 15, 16, 17, 10, 18, 19, 44, 45, 46, 47, 48] rfl (by decide +kernel)
set_option maxRecDepth 20000 in
theorem gX0_closeInTruth_X6_catchesAt : GoodIn wsX0_closeInTruth (wsV RX0 105 RX6 yX6_catchesAt wsX6_catchesAt) := goodIn_app (goodIn_r _ [7, 8, 9, 10] rfl (by decide +kernel)) ggX0_closeInTruth_X6_catchesAt
set_option maxRecDepth 20000 in
theorem ggX0_closeInTruth_X0_draw : GoodIn wsX0_closeInTruth wsX0_draw := goodIn_r _ [24, 25, 26, 35, 36, 37, 38, 39, 40, 41, 42, 43] rfl (by decide +kernel)
set_option maxRecDepth 20000 in
theorem gX0_closeInTruth_X0_draw : GoodIn wsX0_closeInTruth (wsV RX0 85 RX0 yX0_draw wsX0_draw) := goodIn_app (goodIn_r _ [20, 21, 22, 23] rfl (by decide +kernel)) ggX0_closeInTruth_X0_draw
set_option maxRecDepth 20000 in
theorem ggX0_closeInTruth_X6_lacksThreeFrom : GoodIn wsX0_closeInTruth wsX6_lacksThreeFrom := goodIn_r _ [30, 31, 32, 33, 10, 34, 12, 15, 16, 17, 18, 19, 44, 45, 46, 47, 48] rfl (by decide +kernel)
set_option maxRecDepth 20000 in
theorem gX0_closeInTruth_X6_lacksThreeFrom : GoodIn wsX0_closeInTruth (wsV RX0 112 RX6 yX6_lacksThreeFrom wsX6_lacksThreeFrom) := goodIn_app (goodIn_r _ [27, 28, 29, 10] rfl (by decide +kernel)) ggX0_closeInTruth_X6_lacksThreeFrom
theorem dX0_closeInTruth_0 : decode cX0_closeInTruth 0 = .ok (.aload_n 0, 1) := by decide +kernel
theorem dX0_closeInTruth_1 : decode cX0_closeInTruth 1 = .ok (.getfield 12, 3) := by decide +kernel
theorem dX0_closeInTruth_4 : decode cX0_closeInTruth 4 = .ok (.getfield 63, 3) := by decide +kernel
theorem dX0_closeInTruth_7 : decode cX0_closeInTruth 7 = .ok (.istore_n 1, 1) := by decide +kernel
theorem dX0_closeInTruth_8 : decode cX0_closeInTruth 8 = .ok (.iload_n 1, 1) := by decide +kernel
theorem dX0_closeInTruth_9 : decode cX0_closeInTruth 9 = .ok (.aload_n 0, 1) := by decide +kernel
theorem dX0_closeInTruth_10 : decode cX0_closeInTruth 10 = .ok (.getfield 12, 3) := by decide +kernel
theorem dX0_closeInTruth_13 : decode cX0_closeInTruth 13 = .ok (.getfield 57, 3) := by decide +kernel
theorem dX0_closeInTruth_16 : decode cX0_closeInTruth 16 = .ok (.if_icmp .ge 81, 3) := by decide +kernel
theorem dX0_closeInTruth_19 : decode cX0_closeInTruth 19 = .ok (.aload_n 0, 1) := by decide +kernel
theorem dX0_closeInTruth_20 : decode cX0_closeInTruth 20 = .ok (.getfield 12, 3) := by decide +kernel
theorem dX0_closeInTruth_23 : decode cX0_closeInTruth 23 = .ok (.iload_n 1, 1) := by decide +kernel
theorem dX0_closeInTruth_24 : decode cX0_closeInTruth 24 = .ok (.putfield 63, 3) := by decide +kernel
theorem dX0_closeInTruth_27 : decode cX0_closeInTruth 27 = .ok (.aload_n 0, 1) := by decide +kernel
theorem dX0_closeInTruth_28 : decode cX0_closeInTruth 28 = .ok (.getfield 12, 3) := by decide +kernel
theorem dX0_closeInTruth_31 : decode cX0_closeInTruth 31 = .ok (.iload_n 1, 1) := by decide +kernel
theorem dX0_closeInTruth_32 : decode cX0_closeInTruth 32 = .ok (.invokevirtual 105, 3) := by decide +kernel
theorem dX0_closeInTruth_35 : decode cX0_closeInTruth 35 = .ok (.ifCond .eq 44, 3) := by decide +kernel
theorem dX0_closeInTruth_38 : decode cX0_closeInTruth 38 = .ok (.aload_n 0, 1) := by decide +kernel
theorem dX0_closeInTruth_39 : decode cX0_closeInTruth 39 = .ok (.bipush 10, 2) := by decide +kernel
theorem dX0_closeInTruth_41 : decode cX0_closeInTruth 41 = .ok (.invokevirtual 85, 3) := by decide +kernel
theorem dX0_closeInTruth_44 : decode cX0_closeInTruth 44 = .ok (.aload_n 0, 1) := by decide +kernel
theorem dX0_closeInTruth_45 : decode cX0_closeInTruth 45 = .ok (.getfield 12, 3) := by decide +kernel
theorem dX0_closeInTruth_48 : decode cX0_closeInTruth 48 = .ok (.getfield 109, 3) := by decide +kernel
theorem dX0_closeInTruth_51 : decode cX0_closeInTruth 51 = .ok (.iload_n 1, 1) := by decide +kernel
theorem dX0_closeInTruth_52 : decode cX0_closeInTruth 52 = .ok (.iaload, 1) := by decide +kernel
theorem dX0_closeInTruth_53 : decode cX0_closeInTruth 53 = .ok (.aload_n 0, 1) := by decide +kernel
theorem dX0_closeInTruth_54 : decode cX0_closeInTruth 54 = .ok (.getfield 12, 3) := by decide +kernel
theorem dX0_closeInTruth_57 : decode cX0_closeInTruth 57 = .ok (.getfield 60, 3) := by decide +kernel
theorem dX0_closeInTruth_60 : decode cX0_closeInTruth 60 = .ok (.isub, 1) := by decide +kernel
theorem dX0_closeInTruth_61 : decode cX0_closeInTruth 61 = .ok (.iconst 1, 1) := by decide +kernel
theorem dX0_closeInTruth_62 : decode cX0_closeInTruth 62 = .ok (.iadd, 1) := by decide +kernel
theorem dX0_closeInTruth_63 : decode cX0_closeInTruth 63 = .ok (.if_icmp .ge 16, 3) := by decide +kernel
theorem dX0_closeInTruth_66 : decode cX0_closeInTruth 66 = .ok (.aload_n 0, 1) := by decide +kernel
theorem dX0_closeInTruth_67 : decode cX0_closeInTruth 67 = .ok (.iconst 1, 1) := by decide +kernel
theorem dX0_closeInTruth_68 : decode cX0_closeInTruth 68 = .ok (.aload_n 0, 1) := by decide +kernel
theorem dX0_closeInTruth_69 : decode cX0_closeInTruth 69 = .ok (.bipush 6, 2) := by decide +kernel
theorem dX0_closeInTruth_71 : decode cX0_closeInTruth 71 = .ok (.invokevirtual 85, 3) := by decide +kernel
theorem dX0_closeInTruth_74 : decode cX0_closeInTruth 74 = .ok (.iadd, 1) := by decide +kernel
theorem dX0_closeInTruth_75 : decode cX0_closeInTruth 75 = .ok (.putfield 32, 3) := by decide +kernel
theorem dX0_closeInTruth_78 : decode cX0_closeInTruth 78 = .ok (.return_, 1) := by decide +kernel
theorem dX0_closeInTruth_79 : decode cX0_closeInTruth 79 = .ok (.aload_n 0, 1) := by decide +kernel
theorem dX0_closeInTruth_80 : decode cX0_closeInTruth 80 = .ok (.getfield 12, 3) := by decide +kernel
theorem dX0_closeInTruth_83 : decode cX0_closeInTruth 83 = .ok (.iload_n 1, 1) := by decide +kernel
theorem dX0_closeInTruth_84 : decode cX0_closeInTruth 84 = .ok (.invokevirtual 112, 3) := by decide +kernel
theorem dX0_closeInTruth_87 : decode cX0_closeInTruth 87 = .ok (.ifCond .eq 4, 3) := by decide +kernel
theorem dX0_closeInTruth_90 : decode cX0_closeInTruth 90 = .ok (.return_, 1) := by decide +kernel
theorem dX0_closeInTruth_91 : decode cX0_closeInTruth 91 = .ok (.iinc 1 1, 3) := by decide +kernel
theorem dX0_closeInTruth_94 : decode cX0_closeInTruth 94 = .ok (.goto (-86), 3) := by decide +kernel
theorem dX0_closeInTruth_97 : decode cX0_closeInTruth 97 = .ok (.aload_n 0, 1) := by decide +kernel
theorem dX0_closeInTruth_98 : decode cX0_closeInTruth 98 = .ok (.getfield 12, 3) := by decide +kernel
theorem dX0_closeInTruth_101 : decode cX0_closeInTruth 101 = .ok (.aload_n 0, 1) := by decide +kernel
theorem dX0_closeInTruth_102 : decode cX0_closeInTruth 102 = .ok (.getfield 12, 3) := by decide +kernel
theorem dX0_closeInTruth_105 : decode cX0_closeInTruth 105 = .ok (.getfield 57, 3) := by decide +kernel
theorem dX0_closeInTruth_108 : decode cX0_closeInTruth 108 = .ok (.putfield 63, 3) := by decide +kernel
theorem dX0_closeInTruth_111 : decode cX0_closeInTruth 111 = .ok (.return_, 1) := by decide +kernel

