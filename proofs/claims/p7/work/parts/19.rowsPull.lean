def wsX7_within : List Cond := (.code yX7_within cX7_within 3 (some .boolean)) :: []
def wsX2_mayBe : List Cond := (.code yX2_mayBe cX2_mayBe 3 (some .boolean)) :: (.fieldLink RX2 18 "TheLiningsInIt$Pull" "takes" "I") :: wsX20
def wsX2_calmWaysAt : List Cond := (.code yX2_calmWaysAt cX2_calmWaysAt 2 (some .int)) :: (.fieldLink RX2 9 "TheLiningsInIt$Pull" "kind" "I") :: (.fieldLink RX2 15 "TheLiningsInIt$Pull" "a" "I") :: wsX20
def wsX2_waysAt : List Cond := (.code yX2_waysAt cX2_waysAt 3 (some .int)) :: (.fieldLink RX2 9 "TheLiningsInIt$Pull" "kind" "I") :: (.methodLink RX2 33 Lib.Math.min.name) :: (.static Lib.Math.min.name) :: (.initialized "java/lang/Math") :: (.code Lib.Math.min.name Lib.Math.min.code 2 (some .int)) :: (.methodLink RX2 39 Lib.Math.max.name) :: (.static Lib.Math.max.name) :: (.code Lib.Math.max.name Lib.Math.max.code 2 (some .int)) :: (.methodLink RX2 29 yX2_calmWaysAt) :: (.instanceMethod yX2_calmWaysAt) :: (.selects RX2 yX2_calmWaysAt yX2_calmWaysAt) :: (.initialized RX2) :: (.code yX2_calmWaysAt cX2_calmWaysAt 2 (some .int)) :: (.fieldLink RX2 15 "TheLiningsInIt$Pull" "a" "I") :: wsX20
def wsX2_step : List Cond := (.code yX2_step cX2_step 1 (some .int)) :: (.fieldLink RX2 9 "TheLiningsInIt$Pull" "kind" "I") :: (.fieldLink RX2 15 "TheLiningsInIt$Pull" "a" "I") :: wsX20
def wsX2_shallower : List Cond := (.code yX2_shallower cX2_shallower 2 (some .int)) :: (.methodLink RX2 39 Lib.Math.max.name) :: (.static Lib.Math.max.name) :: (.initialized "java/lang/Math") :: (.code Lib.Math.max.name Lib.Math.max.code 2 (some .int)) :: (.methodLink RX2 42 yX2_step) :: (.instanceMethod yX2_step) :: (.selects RX2 yX2_step yX2_step) :: (.initialized RX2) :: (.code yX2_step cX2_step 1 (some .int)) :: (.fieldLink RX2 9 "TheLiningsInIt$Pull" "kind" "I") :: (.fieldLink RX2 15 "TheLiningsInIt$Pull" "a" "I") :: wsX20
def wsX2_deeper : List Cond := (.code yX2_deeper cX2_deeper 4 (some .int)) :: (.fieldLink RX2 9 "TheLiningsInIt$Pull" "kind" "I") :: (.fieldLink RX2 15 "TheLiningsInIt$Pull" "a" "I") :: (.methodLink RX2 33 Lib.Math.min.name) :: (.static Lib.Math.min.name) :: (.initialized "java/lang/Math") :: (.code Lib.Math.min.name Lib.Math.min.code 2 (some .int)) :: wsX20
def wsX2_makes_r1 : List Cond := (Cond.methodLink RX2 46 yX2_waysAt) :: (Cond.instanceMethod yX2_waysAt) :: (Cond.selects RX2 yX2_waysAt yX2_waysAt) :: (Cond.initialized RX2) :: (Cond.code yX2_waysAt cX2_waysAt 3 (some .int)) :: (Cond.fieldLink RX2 9 "TheLiningsInIt$Pull" "kind" "I") :: (Cond.methodLink RX2 33 Lib.Math.min.name) :: (Cond.static Lib.Math.min.name) :: (Cond.initialized "java/lang/Math") :: (Cond.code Lib.Math.min.name Lib.Math.min.code 2 (some .int)) :: (Cond.methodLink RX2 39 Lib.Math.max.name) :: (Cond.static Lib.Math.max.name) :: (Cond.code Lib.Math.max.name Lib.Math.max.code 2 (some .int)) :: (Cond.methodLink RX2 29 yX2_calmWaysAt) :: (Cond.instanceMethod yX2_calmWaysAt) :: (Cond.selects RX2 yX2_calmWaysAt yX2_calmWaysAt) :: (Cond.code yX2_calmWaysAt cX2_calmWaysAt 2 (some .int)) :: (Cond.fieldLink RX2 15 "TheLiningsInIt$Pull" "a" "I") :: (Cond.methodLink RX2 49 yX2_shallower) :: (Cond.instanceMethod yX2_shallower) :: (Cond.selects RX2 yX2_shallower yX2_shallower) :: (Cond.code yX2_shallower cX2_shallower 2 (some .int)) :: (Cond.methodLink RX2 42 yX2_step) :: (Cond.instanceMethod yX2_step) :: []
def wsX2_makes_r2 : List Cond := (Cond.selects RX2 yX2_step yX2_step) :: (Cond.code yX2_step cX2_step 1 (some .int)) :: (Cond.methodLink RX2 52 yX2_deeper) :: (Cond.instanceMethod yX2_deeper) :: (Cond.selects RX2 yX2_deeper yX2_deeper) :: (Cond.code yX2_deeper cX2_deeper 4 (some .int)) :: []
def wsX2_makes : List Cond := (.code yX2_makes cX2_makes 5 (some .boolean)) :: ((wsX2_makes_r1 ++ wsX2_makes_r2) ++ wsX20)
def wsX2_isOf : List Cond := (.code yX2_isOf cX2_isOf 4 (some .boolean)) :: (.fieldLink RX2 9 "TheLiningsInIt$Pull" "kind" "I") :: (.static yX7_within) :: (.initialized RX7) :: (.code yX7_within cX7_within 3 (some .boolean)) :: wsX20
set_option maxRecDepth 20000 in
theorem ggX2_isOf_X7_within : GoodIn wsX2_isOf wsX7_within := goodIn_r _ [4] rfl (by decide +kernel)
set_option maxRecDepth 20000 in
theorem gX2_isOf_X7_within_n21 : GoodIn wsX2_isOf (wsX7_within) := ggX2_isOf_X7_within
theorem dX2_isOf_0 : decode cX2_isOf 0 = .ok (.aload_n 0, 1) := by decide +kernel
theorem dX2_isOf_1 : decode cX2_isOf 1 = .ok (.getfield 9, 3) := by decide +kernel
theorem dX2_isOf_4 : decode cX2_isOf 4 = .ok (.istore_n 2, 1) := by decide +kernel
theorem dX2_isOf_5 : decode cX2_isOf 5 = .ok (.iconst 0, 1) := by decide +kernel
theorem dX2_isOf_6 : decode cX2_isOf 6 = .ok (.istore_n 3, 1) := by decide +kernel
theorem dX2_isOf_7 : decode cX2_isOf 7 = .ok (.iload_n 3, 1) := by decide +kernel
theorem dX2_isOf_8 : decode cX2_isOf 8 = .ok (.bipush 7, 2) := by decide +kernel
theorem dX2_isOf_10 : decode cX2_isOf 10 = .ok (.if_icmp .ge 32, 3) := by decide +kernel
theorem dX2_isOf_13 : decode cX2_isOf 13 = .ok (.iload_n 2, 1) := by decide +kernel
theorem dX2_isOf_14 : decode cX2_isOf 14 = .ok (.iconst 0, 1) := by decide +kernel
theorem dX2_isOf_15 : decode cX2_isOf 15 = .ok (.bipush 6, 2) := by decide +kernel
theorem dX2_isOf_17 : decode cX2_isOf 17 = .ok (.invokestatic 21, 3) := by decide +kernel
theorem dX2_isOf_20 : decode cX2_isOf 20 = .ok (.ifCond .eq 22, 3) := by decide +kernel
theorem dX2_isOf_23 : decode cX2_isOf 23 = .ok (.iload_n 2, 1) := by decide +kernel
theorem dX2_isOf_24 : decode cX2_isOf 24 = .ok (.iload_n 1, 1) := by decide +kernel
theorem dX2_isOf_25 : decode cX2_isOf 25 = .ok (.if_icmp .ne 5, 3) := by decide +kernel
theorem dX2_isOf_28 : decode cX2_isOf 28 = .ok (.iconst 1, 1) := by decide +kernel
theorem dX2_isOf_29 : decode cX2_isOf 29 = .ok (.ireturn, 1) := by decide +kernel
theorem dX2_isOf_30 : decode cX2_isOf 30 = .ok (.getstatic 25, 3) := by decide +kernel
theorem dX2_isOf_33 : decode cX2_isOf 33 = .ok (.iload_n 2, 1) := by decide +kernel
theorem dX2_isOf_34 : decode cX2_isOf 34 = .ok (.iaload, 1) := by decide +kernel
theorem dX2_isOf_35 : decode cX2_isOf 35 = .ok (.istore_n 2, 1) := by decide +kernel
theorem dX2_isOf_36 : decode cX2_isOf 36 = .ok (.iinc 3 1, 3) := by decide +kernel
theorem dX2_isOf_39 : decode cX2_isOf 39 = .ok (.goto (-32), 3) := by decide +kernel
theorem dX2_isOf_42 : decode cX2_isOf 42 = .ok (.iconst 0, 1) := by decide +kernel
theorem dX2_isOf_43 : decode cX2_isOf 43 = .ok (.ireturn, 1) := by decide +kernel
theorem dX2_mayBe_0 : decode cX2_mayBe 0 = .ok (.iload_n 1, 1) := by decide +kernel
theorem dX2_mayBe_1 : decode cX2_mayBe 1 = .ok (.iconst 1, 1) := by decide +kernel
theorem dX2_mayBe_2 : decode cX2_mayBe 2 = .ok (.if_icmp .lt 15, 3) := by decide +kernel
theorem dX2_mayBe_5 : decode cX2_mayBe 5 = .ok (.iload_n 2, 1) := by decide +kernel
theorem dX2_mayBe_6 : decode cX2_mayBe 6 = .ok (.aload_n 0, 1) := by decide +kernel
theorem dX2_mayBe_7 : decode cX2_mayBe 7 = .ok (.getfield 18, 3) := by decide +kernel
theorem dX2_mayBe_10 : decode cX2_mayBe 10 = .ok (.if_icmp .lt 7, 3) := by decide +kernel
theorem dX2_mayBe_13 : decode cX2_mayBe 13 = .ok (.iconst 1, 1) := by decide +kernel
theorem dX2_mayBe_14 : decode cX2_mayBe 14 = .ok (.goto 4, 3) := by decide +kernel
theorem dX2_mayBe_17 : decode cX2_mayBe 17 = .ok (.iconst 0, 1) := by decide +kernel
theorem dX2_mayBe_18 : decode cX2_mayBe 18 = .ok (.ireturn, 1) := by decide +kernel
set_option maxRecDepth 20000 in
theorem ggX2_waysAt_X2_calmWaysAt : GoodIn wsX2_waysAt wsX2_calmWaysAt := goodIn_r _ [13, 1, 14, 15, 16, 17] rfl (by decide +kernel)
set_option maxRecDepth 20000 in
theorem gX2_waysAt_X2_calmWaysAt : GoodIn wsX2_waysAt (wsV RX2 29 RX2 yX2_calmWaysAt wsX2_calmWaysAt) := goodIn_app (goodIn_r _ [9, 10, 11, 12] rfl (by decide +kernel)) ggX2_waysAt_X2_calmWaysAt
theorem dX2_waysAt_0 : decode cX2_waysAt 0 = .ok (.aload_n 0, 1) := by decide +kernel
theorem dX2_waysAt_1 : decode cX2_waysAt 1 = .ok (.getfield 9, 3) := by decide +kernel
theorem dX2_waysAt_4 : decode cX2_waysAt 4 = .ok (.iconst 5, 1) := by decide +kernel
theorem dX2_waysAt_5 : decode cX2_waysAt 5 = .ok (.if_icmp .ne 6, 3) := by decide +kernel
theorem dX2_waysAt_8 : decode cX2_waysAt 8 = .ok (.bipush 12, 2) := by decide +kernel
theorem dX2_waysAt_10 : decode cX2_waysAt 10 = .ok (.ireturn, 1) := by decide +kernel
theorem dX2_waysAt_11 : decode cX2_waysAt 11 = .ok (.iconst 0, 1) := by decide +kernel
theorem dX2_waysAt_12 : decode cX2_waysAt 12 = .ok (.bipush 12, 2) := by decide +kernel
theorem dX2_waysAt_14 : decode cX2_waysAt 14 = .ok (.aload_n 0, 1) := by decide +kernel
theorem dX2_waysAt_15 : decode cX2_waysAt 15 = .ok (.iload_n 1, 1) := by decide +kernel
theorem dX2_waysAt_16 : decode cX2_waysAt 16 = .ok (.invokevirtual 29, 3) := by decide +kernel
theorem dX2_waysAt_19 : decode cX2_waysAt 19 = .ok (.iload_n 2, 1) := by decide +kernel
theorem dX2_waysAt_20 : decode cX2_waysAt 20 = .ok (.iconst 3, 1) := by decide +kernel
theorem dX2_waysAt_21 : decode cX2_waysAt 21 = .ok (.idiv, 1) := by decide +kernel
theorem dX2_waysAt_22 : decode cX2_waysAt 22 = .ok (.isub, 1) := by decide +kernel
theorem dX2_waysAt_23 : decode cX2_waysAt 23 = .ok (.invokestatic 33, 3) := by decide +kernel
theorem dX2_waysAt_26 : decode cX2_waysAt 26 = .ok (.invokestatic 39, 3) := by decide +kernel
theorem dX2_waysAt_29 : decode cX2_waysAt 29 = .ok (.ireturn, 1) := by decide +kernel
theorem dX2_calmWaysAt_0 : decode cX2_calmWaysAt 0 = .ok (.aload_n 0, 1) := by decide +kernel
theorem dX2_calmWaysAt_1 : decode cX2_calmWaysAt 1 = .ok (.getfield 9, 3) := by decide +kernel
theorem dX2_calmWaysAt_4 : decode cX2_calmWaysAt 4 = .ok (.tableswitch 91 1 6 #[40, 61, 47, 75, 91, 83], 40) := by decide +kernel
theorem dX2_calmWaysAt_44 : decode cX2_calmWaysAt 44 = .ok (.bipush 8, 2) := by decide +kernel
theorem dX2_calmWaysAt_46 : decode cX2_calmWaysAt 46 = .ok (.iload_n 1, 1) := by decide +kernel
theorem dX2_calmWaysAt_47 : decode cX2_calmWaysAt 47 = .ok (.iconst 4, 1) := by decide +kernel
theorem dX2_calmWaysAt_48 : decode cX2_calmWaysAt 48 = .ok (.idiv, 1) := by decide +kernel
theorem dX2_calmWaysAt_49 : decode cX2_calmWaysAt 49 = .ok (.isub, 1) := by decide +kernel
theorem dX2_calmWaysAt_50 : decode cX2_calmWaysAt 50 = .ok (.ireturn, 1) := by decide +kernel
theorem dX2_calmWaysAt_51 : decode cX2_calmWaysAt 51 = .ok (.bipush 8, 2) := by decide +kernel
theorem dX2_calmWaysAt_53 : decode cX2_calmWaysAt 53 = .ok (.iload_n 1, 1) := by decide +kernel
theorem dX2_calmWaysAt_54 : decode cX2_calmWaysAt 54 = .ok (.iconst 4, 1) := by decide +kernel
theorem dX2_calmWaysAt_55 : decode cX2_calmWaysAt 55 = .ok (.idiv, 1) := by decide +kernel
theorem dX2_calmWaysAt_56 : decode cX2_calmWaysAt 56 = .ok (.isub, 1) := by decide +kernel
theorem dX2_calmWaysAt_57 : decode cX2_calmWaysAt 57 = .ok (.aload_n 0, 1) := by decide +kernel
theorem dX2_calmWaysAt_58 : decode cX2_calmWaysAt 58 = .ok (.getfield 15, 3) := by decide +kernel
theorem dX2_calmWaysAt_61 : decode cX2_calmWaysAt 61 = .ok (.iconst 2, 1) := by decide +kernel
theorem dX2_calmWaysAt_62 : decode cX2_calmWaysAt 62 = .ok (.idiv, 1) := by decide +kernel
theorem dX2_calmWaysAt_63 : decode cX2_calmWaysAt 63 = .ok (.iadd, 1) := by decide +kernel
theorem dX2_calmWaysAt_64 : decode cX2_calmWaysAt 64 = .ok (.ireturn, 1) := by decide +kernel
theorem dX2_calmWaysAt_65 : decode cX2_calmWaysAt 65 = .ok (.bipush 6, 2) := by decide +kernel
theorem dX2_calmWaysAt_67 : decode cX2_calmWaysAt 67 = .ok (.iload_n 1, 1) := by decide +kernel
theorem dX2_calmWaysAt_68 : decode cX2_calmWaysAt 68 = .ok (.iconst 4, 1) := by decide +kernel
theorem dX2_calmWaysAt_69 : decode cX2_calmWaysAt 69 = .ok (.idiv, 1) := by decide +kernel
theorem dX2_calmWaysAt_70 : decode cX2_calmWaysAt 70 = .ok (.isub, 1) := by decide +kernel
theorem dX2_calmWaysAt_71 : decode cX2_calmWaysAt 71 = .ok (.aload_n 0, 1) := by decide +kernel
theorem dX2_calmWaysAt_72 : decode cX2_calmWaysAt 72 = .ok (.getfield 15, 3) := by decide +kernel
theorem dX2_calmWaysAt_75 : decode cX2_calmWaysAt 75 = .ok (.iconst 3, 1) := by decide +kernel
theorem dX2_calmWaysAt_76 : decode cX2_calmWaysAt 76 = .ok (.idiv, 1) := by decide +kernel
theorem dX2_calmWaysAt_77 : decode cX2_calmWaysAt 77 = .ok (.iadd, 1) := by decide +kernel
theorem dX2_calmWaysAt_78 : decode cX2_calmWaysAt 78 = .ok (.ireturn, 1) := by decide +kernel
theorem dX2_calmWaysAt_79 : decode cX2_calmWaysAt 79 = .ok (.bipush 8, 2) := by decide +kernel
theorem dX2_calmWaysAt_81 : decode cX2_calmWaysAt 81 = .ok (.iload_n 1, 1) := by decide +kernel
theorem dX2_calmWaysAt_82 : decode cX2_calmWaysAt 82 = .ok (.bipush 6, 2) := by decide +kernel
theorem dX2_calmWaysAt_84 : decode cX2_calmWaysAt 84 = .ok (.idiv, 1) := by decide +kernel
theorem dX2_calmWaysAt_85 : decode cX2_calmWaysAt 85 = .ok (.isub, 1) := by decide +kernel
theorem dX2_calmWaysAt_86 : decode cX2_calmWaysAt 86 = .ok (.ireturn, 1) := by decide +kernel
theorem dX2_calmWaysAt_87 : decode cX2_calmWaysAt 87 = .ok (.bipush 10, 2) := by decide +kernel
theorem dX2_calmWaysAt_89 : decode cX2_calmWaysAt 89 = .ok (.iload_n 1, 1) := by decide +kernel
theorem dX2_calmWaysAt_90 : decode cX2_calmWaysAt 90 = .ok (.bipush 6, 2) := by decide +kernel
theorem dX2_calmWaysAt_92 : decode cX2_calmWaysAt 92 = .ok (.idiv, 1) := by decide +kernel
theorem dX2_calmWaysAt_93 : decode cX2_calmWaysAt 93 = .ok (.isub, 1) := by decide +kernel
theorem dX2_calmWaysAt_94 : decode cX2_calmWaysAt 94 = .ok (.ireturn, 1) := by decide +kernel
theorem dX2_calmWaysAt_95 : decode cX2_calmWaysAt 95 = .ok (.bipush 6, 2) := by decide +kernel
theorem dX2_calmWaysAt_97 : decode cX2_calmWaysAt 97 = .ok (.iload_n 1, 1) := by decide +kernel
theorem dX2_calmWaysAt_98 : decode cX2_calmWaysAt 98 = .ok (.iconst 4, 1) := by decide +kernel
theorem dX2_calmWaysAt_99 : decode cX2_calmWaysAt 99 = .ok (.idiv, 1) := by decide +kernel
theorem dX2_calmWaysAt_100 : decode cX2_calmWaysAt 100 = .ok (.isub, 1) := by decide +kernel
theorem dX2_calmWaysAt_101 : decode cX2_calmWaysAt 101 = .ok (.ireturn, 1) := by decide +kernel
theorem dX2_step_0 : decode cX2_step 0 = .ok (.aload_n 0, 1) := by decide +kernel
theorem dX2_step_1 : decode cX2_step 1 = .ok (.getfield 9, 3) := by decide +kernel
theorem dX2_step_4 : decode cX2_step 4 = .ok (.tableswitch 49 2 6 #[36, 49, 45, 47, 45], 36) := by decide +kernel
theorem dX2_step_40 : decode cX2_step 40 = .ok (.iconst 2, 1) := by decide +kernel
theorem dX2_step_41 : decode cX2_step 41 = .ok (.aload_n 0, 1) := by decide +kernel
theorem dX2_step_42 : decode cX2_step 42 = .ok (.getfield 15, 3) := by decide +kernel
theorem dX2_step_45 : decode cX2_step 45 = .ok (.iconst 3, 1) := by decide +kernel
theorem dX2_step_46 : decode cX2_step 46 = .ok (.idiv, 1) := by decide +kernel
theorem dX2_step_47 : decode cX2_step 47 = .ok (.iadd, 1) := by decide +kernel
theorem dX2_step_48 : decode cX2_step 48 = .ok (.ireturn, 1) := by decide +kernel
theorem dX2_step_49 : decode cX2_step 49 = .ok (.iconst 2, 1) := by decide +kernel
theorem dX2_step_50 : decode cX2_step 50 = .ok (.ireturn, 1) := by decide +kernel
theorem dX2_step_51 : decode cX2_step 51 = .ok (.iconst 4, 1) := by decide +kernel
theorem dX2_step_52 : decode cX2_step 52 = .ok (.ireturn, 1) := by decide +kernel
theorem dX2_step_53 : decode cX2_step 53 = .ok (.iconst 1, 1) := by decide +kernel
theorem dX2_step_54 : decode cX2_step 54 = .ok (.ireturn, 1) := by decide +kernel
set_option maxRecDepth 20000 in
theorem ggX2_shallower_X2_step : GoodIn wsX2_shallower wsX2_step := goodIn_r _ [9, 10, 11, 12, 13, 14] rfl (by decide +kernel)
set_option maxRecDepth 20000 in
theorem gX2_shallower_X2_step : GoodIn wsX2_shallower (wsV RX2 42 RX2 yX2_step wsX2_step) := goodIn_app (goodIn_r _ [5, 6, 7, 8] rfl (by decide +kernel)) ggX2_shallower_X2_step
theorem dX2_shallower_0 : decode cX2_shallower 0 = .ok (.iconst 0, 1) := by decide +kernel
theorem dX2_shallower_1 : decode cX2_shallower 1 = .ok (.iload_n 1, 1) := by decide +kernel
theorem dX2_shallower_2 : decode cX2_shallower 2 = .ok (.aload_n 0, 1) := by decide +kernel
theorem dX2_shallower_3 : decode cX2_shallower 3 = .ok (.invokevirtual 42, 3) := by decide +kernel
theorem dX2_shallower_6 : decode cX2_shallower 6 = .ok (.isub, 1) := by decide +kernel
theorem dX2_shallower_7 : decode cX2_shallower 7 = .ok (.invokestatic 39, 3) := by decide +kernel
theorem dX2_shallower_10 : decode cX2_shallower 10 = .ok (.ireturn, 1) := by decide +kernel
theorem dX2_deeper_0 : decode cX2_deeper 0 = .ok (.aload_n 0, 1) := by decide +kernel
theorem dX2_deeper_1 : decode cX2_deeper 1 = .ok (.getfield 9, 3) := by decide +kernel
theorem dX2_deeper_4 : decode cX2_deeper 4 = .ok (.iconst 5, 1) := by decide +kernel
theorem dX2_deeper_5 : decode cX2_deeper 5 = .ok (.if_icmp .ne 5, 3) := by decide +kernel
theorem dX2_deeper_8 : decode cX2_deeper 8 = .ok (.iload_n 1, 1) := by decide +kernel
theorem dX2_deeper_9 : decode cX2_deeper 9 = .ok (.ireturn, 1) := by decide +kernel
theorem dX2_deeper_10 : decode cX2_deeper 10 = .ok (.aload_n 0, 1) := by decide +kernel
theorem dX2_deeper_11 : decode cX2_deeper 11 = .ok (.getfield 9, 3) := by decide +kernel
theorem dX2_deeper_14 : decode cX2_deeper 14 = .ok (.iconst 2, 1) := by decide +kernel
theorem dX2_deeper_15 : decode cX2_deeper 15 = .ok (.if_icmp .ne 14, 3) := by decide +kernel
theorem dX2_deeper_18 : decode cX2_deeper 18 = .ok (.iconst 1, 1) := by decide +kernel
theorem dX2_deeper_19 : decode cX2_deeper 19 = .ok (.aload_n 0, 1) := by decide +kernel
theorem dX2_deeper_20 : decode cX2_deeper 20 = .ok (.getfield 15, 3) := by decide +kernel
theorem dX2_deeper_23 : decode cX2_deeper 23 = .ok (.iconst 3, 1) := by decide +kernel
theorem dX2_deeper_24 : decode cX2_deeper 24 = .ok (.idiv, 1) := by decide +kernel
theorem dX2_deeper_25 : decode cX2_deeper 25 = .ok (.iadd, 1) := by decide +kernel
theorem dX2_deeper_26 : decode cX2_deeper 26 = .ok (.goto 4, 3) := by decide +kernel
theorem dX2_deeper_29 : decode cX2_deeper 29 = .ok (.iconst 0, 1) := by decide +kernel
theorem dX2_deeper_30 : decode cX2_deeper 30 = .ok (.istore_n 3, 1) := by decide +kernel
theorem dX2_deeper_31 : decode cX2_deeper 31 = .ok (.iload_n 2, 1) := by decide +kernel
theorem dX2_deeper_32 : decode cX2_deeper 32 = .ok (.bipush 6, 2) := by decide +kernel
theorem dX2_deeper_34 : decode cX2_deeper 34 = .ok (.if_icmp .lt 6, 3) := by decide +kernel
theorem dX2_deeper_37 : decode cX2_deeper 37 = .ok (.iinc 3 1, 3) := by decide +kernel
theorem dX2_deeper_40 : decode cX2_deeper 40 = .ok (.bipush 24, 2) := by decide +kernel
theorem dX2_deeper_42 : decode cX2_deeper 42 = .ok (.iload_n 1, 1) := by decide +kernel
theorem dX2_deeper_43 : decode cX2_deeper 43 = .ok (.iload_n 3, 1) := by decide +kernel
theorem dX2_deeper_44 : decode cX2_deeper 44 = .ok (.iadd, 1) := by decide +kernel
theorem dX2_deeper_45 : decode cX2_deeper 45 = .ok (.invokestatic 33, 3) := by decide +kernel
theorem dX2_deeper_48 : decode cX2_deeper 48 = .ok (.ireturn, 1) := by decide +kernel
set_option maxRecDepth 20000 in
theorem ggX2_makes_X2_waysAt : GoodIn wsX2_makes wsX2_waysAt := goodIn_r _ [5, 6, 7, 8, 9, 10, 11, 12, 13, 14, 15, 16, 4, 17, 18, 31, 32, 33] rfl (by decide +kernel)
set_option maxRecDepth 20000 in
theorem gX2_makes_X2_waysAt : GoodIn wsX2_makes (wsV RX2 46 RX2 yX2_waysAt wsX2_waysAt) := goodIn_app (goodIn_r _ [1, 2, 3, 4] rfl (by decide +kernel)) ggX2_makes_X2_waysAt
set_option maxRecDepth 20000 in
theorem ggX2_makes_X2_shallower : GoodIn wsX2_makes wsX2_shallower := goodIn_r _ [22, 11, 12, 9, 13, 23, 24, 25, 4, 26, 6, 18, 31, 32, 33] rfl (by decide +kernel)
set_option maxRecDepth 20000 in
theorem gX2_makes_X2_shallower : GoodIn wsX2_makes (wsV RX2 49 RX2 yX2_shallower wsX2_shallower) := goodIn_app (goodIn_r _ [19, 20, 21, 4] rfl (by decide +kernel)) ggX2_makes_X2_shallower
set_option maxRecDepth 20000 in
theorem ggX2_makes_X2_deeper : GoodIn wsX2_makes wsX2_deeper := goodIn_r _ [30, 6, 18, 7, 8, 9, 10, 31, 32, 33] rfl (by decide +kernel)
set_option maxRecDepth 20000 in
theorem gX2_makes_X2_deeper : GoodIn wsX2_makes (wsV RX2 52 RX2 yX2_deeper wsX2_deeper) := goodIn_app (goodIn_r _ [27, 28, 29, 4] rfl (by decide +kernel)) ggX2_makes_X2_deeper
theorem dX2_makes_0 : decode cX2_makes 0 = .ok (.iload_n 1, 1) := by decide +kernel
theorem dX2_makes_1 : decode cX2_makes 1 = .ok (.iconst 1, 1) := by decide +kernel
theorem dX2_makes_2 : decode cX2_makes 2 = .ok (.if_icmp .ge 5, 3) := by decide +kernel
theorem dX2_makes_5 : decode cX2_makes 5 = .ok (.iconst 0, 1) := by decide +kernel
theorem dX2_makes_6 : decode cX2_makes 6 = .ok (.ireturn, 1) := by decide +kernel
theorem dX2_makes_7 : decode cX2_makes 7 = .ok (.aload_n 0, 1) := by decide +kernel
theorem dX2_makes_8 : decode cX2_makes 8 = .ok (.iload_n 1, 1) := by decide +kernel
theorem dX2_makes_9 : decode cX2_makes 9 = .ok (.iload_n 3, 1) := by decide +kernel
theorem dX2_makes_10 : decode cX2_makes 10 = .ok (.invokevirtual 46, 3) := by decide +kernel
theorem dX2_makes_13 : decode cX2_makes 13 = .ok (.istore 4, 2) := by decide +kernel
theorem dX2_makes_15 : decode cX2_makes 15 = .ok (.iload 4, 2) := by decide +kernel
theorem dX2_makes_17 : decode cX2_makes 17 = .ok (.ifCond .le 12, 3) := by decide +kernel
theorem dX2_makes_20 : decode cX2_makes 20 = .ok (.aload_n 0, 1) := by decide +kernel
theorem dX2_makes_21 : decode cX2_makes 21 = .ok (.iload_n 1, 1) := by decide +kernel
theorem dX2_makes_22 : decode cX2_makes 22 = .ok (.invokevirtual 49, 3) := by decide +kernel
theorem dX2_makes_25 : decode cX2_makes 25 = .ok (.iload_n 2, 1) := by decide +kernel
theorem dX2_makes_26 : decode cX2_makes 26 = .ok (.if_icmp .eq 20, 3) := by decide +kernel
theorem dX2_makes_29 : decode cX2_makes 29 = .ok (.iload 4, 2) := by decide +kernel
theorem dX2_makes_31 : decode cX2_makes 31 = .ok (.bipush 12, 2) := by decide +kernel
theorem dX2_makes_33 : decode cX2_makes 33 = .ok (.if_icmp .ge 17, 3) := by decide +kernel
theorem dX2_makes_36 : decode cX2_makes 36 = .ok (.aload_n 0, 1) := by decide +kernel
theorem dX2_makes_37 : decode cX2_makes 37 = .ok (.iload_n 1, 1) := by decide +kernel
theorem dX2_makes_38 : decode cX2_makes 38 = .ok (.iload_n 3, 1) := by decide +kernel
theorem dX2_makes_39 : decode cX2_makes 39 = .ok (.invokevirtual 52, 3) := by decide +kernel
theorem dX2_makes_42 : decode cX2_makes 42 = .ok (.iload_n 2, 1) := by decide +kernel
theorem dX2_makes_43 : decode cX2_makes 43 = .ok (.if_icmp .ne 7, 3) := by decide +kernel
theorem dX2_makes_46 : decode cX2_makes 46 = .ok (.iconst 1, 1) := by decide +kernel
theorem dX2_makes_47 : decode cX2_makes 47 = .ok (.goto 4, 3) := by decide +kernel
theorem dX2_makes_50 : decode cX2_makes 50 = .ok (.iconst 0, 1) := by decide +kernel
theorem dX2_makes_51 : decode cX2_makes 51 = .ok (.ireturn, 1) := by decide +kernel
theorem dX7_within_0 : decode cX7_within 0 = .ok (.iload_n 0, 1) := by decide +kernel
theorem dX7_within_1 : decode cX7_within 1 = .ok (.iload_n 1, 1) := by decide +kernel
theorem dX7_within_2 : decode cX7_within 2 = .ok (.if_icmp .lt 12, 3) := by decide +kernel
theorem dX7_within_5 : decode cX7_within 5 = .ok (.iload_n 0, 1) := by decide +kernel
theorem dX7_within_6 : decode cX7_within 6 = .ok (.iload_n 2, 1) := by decide +kernel
theorem dX7_within_7 : decode cX7_within 7 = .ok (.if_icmp .gt 7, 3) := by decide +kernel
theorem dX7_within_10 : decode cX7_within 10 = .ok (.iconst 1, 1) := by decide +kernel
theorem dX7_within_11 : decode cX7_within 11 = .ok (.goto 4, 3) := by decide +kernel
theorem dX7_within_14 : decode cX7_within 14 = .ok (.iconst 0, 1) := by decide +kernel
theorem dX7_within_15 : decode cX7_within 15 = .ok (.ireturn, 1) := by decide +kernel

