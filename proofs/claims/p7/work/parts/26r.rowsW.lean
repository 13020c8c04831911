def wsX5_mayBeAt : List Cond := (.code yX5_mayBeAt cX5_mayBeAt 5 (some (.object "TheLiningsInIt$Pull"))) :: (.fieldLink RX5 23 "TheLiningsInIt$Ways" "pulls" "[LTheLiningsInIt$Pull;") :: (.static yX7_within) :: (.initialized RX7) :: (.code yX7_within cX7_within 3 (some .boolean)) :: (.methodLink RX5 75 yX2_mayBe) :: (.instanceMethod yX2_mayBe) :: (.selects RX2 yX2_mayBe yX2_mayBe) :: (.initialized RX2) :: (.code yX2_mayBe cX2_mayBe 3 (some .boolean)) :: (.fieldLink RX2 18 "TheLiningsInIt$Pull" "takes" "I") :: (wsX50 ++ wsX20)
def wsX5_most_r1 : List Cond := (Cond.fieldLink RX5 79 "TheLiningsInIt$Ways" "POWERS" "[I") :: (Cond.fieldLink RX5 34 "TheLiningsInIt$Ways" "longest" "I") :: (Cond.fieldLink RX5 9 "TheLiningsInIt$Ways" "knownMost" "[I") :: (Cond.fieldLink RX5 27 "TheLiningsInIt$Ways" "count" "I") :: (Cond.methodLink RX5 52 Lib.Math.max.name) :: (Cond.static Lib.Math.max.name) :: (Cond.initialized "java/lang/Math") :: (Cond.code Lib.Math.max.name Lib.Math.max.code 2 (some .int)) :: (Cond.methodLink RX5 82 yX5_mayBeAt) :: (Cond.instanceMethod yX5_mayBeAt) :: (Cond.selects RX5 yX5_mayBeAt yX5_mayBeAt) :: (Cond.initialized RX5) :: (Cond.code yX5_mayBeAt cX5_mayBeAt 5 (some (.object "TheLiningsInIt$Pull"))) :: (Cond.fieldLink RX5 23 "TheLiningsInIt$Ways" "pulls" "[LTheLiningsInIt$Pull;") :: (Cond.static yX7_within) :: (Cond.initialized RX7) :: (Cond.code yX7_within cX7_within 3 (some .boolean)) :: (Cond.methodLink RX5 75 yX2_mayBe) :: (Cond.instanceMethod yX2_mayBe) :: (Cond.selects RX2 yX2_mayBe yX2_mayBe) :: (Cond.initialized RX2) :: (Cond.code yX2_mayBe cX2_mayBe 3 (some .boolean)) :: (Cond.fieldLink RX2 18 "TheLiningsInIt$Pull" "takes" "I") :: (Cond.methodLink RX5 86 yX5_mostBy) :: []
def wsX5_most_r2 : List Cond := (Cond.instanceMethod yX5_mostBy) :: (Cond.selects RX5 yX5_mostBy yX5_mostBy) :: (Cond.code yX5_mostBy cX5_mostBy 8 (some .int)) :: (Cond.fieldLink RX5 31 "TheLiningsInIt$Ways" "hurry" "I") :: (Cond.fieldLink RX5 49 "TheLiningsInIt$Pull" "takes" "I") :: (Cond.methodLink RX5 90 yX2_waysAt) :: (Cond.instanceMethod yX2_waysAt) :: (Cond.selects RX2 yX2_waysAt yX2_waysAt) :: (Cond.code yX2_waysAt cX2_waysAt 3 (some .int)) :: (Cond.fieldLink RX2 9 "TheLiningsInIt$Pull" "kind" "I") :: (Cond.methodLink RX2 33 Lib.Math.min.name) :: (Cond.static Lib.Math.min.name) :: (Cond.code Lib.Math.min.name Lib.Math.min.code 2 (some .int)) :: (Cond.methodLink RX2 39 Lib.Math.max.name) :: (Cond.methodLink RX2 29 yX2_calmWaysAt) :: (Cond.instanceMethod yX2_calmWaysAt) :: (Cond.selects RX2 yX2_calmWaysAt yX2_calmWaysAt) :: (Cond.code yX2_calmWaysAt cX2_calmWaysAt 2 (some .int)) :: (Cond.fieldLink RX2 15 "TheLiningsInIt$Pull" "a" "I") :: (Cond.methodLink RX5 93 yX2_shallower) :: (Cond.instanceMethod yX2_shallower) :: (Cond.selects RX2 yX2_shallower yX2_shallower) :: (Cond.code yX2_shallower cX2_shallower 2 (some .int)) :: (Cond.methodLink RX2 42 yX2_step) :: []
def wsX5_most_r3 : List Cond := (Cond.instanceMethod yX2_step) :: (Cond.selects RX2 yX2_step yX2_step) :: (Cond.code yX2_step cX2_step 1 (some .int)) :: (Cond.methodLink RX5 97 yX5_most) :: (Cond.instanceMethod yX5_most) :: (Cond.selects RX5 yX5_most yX5_most) :: (Cond.methodLink RX5 101 yX2_deeper) :: (Cond.instanceMethod yX2_deeper) :: (Cond.selects RX2 yX2_deeper yX2_deeper) :: (Cond.code yX2_deeper cX2_deeper 4 (some .int)) :: []
def wsX5_most : List Cond := (.code yX5_most cX5_most 9 (some .int)) :: ((wsX5_most_r1 ++ (wsX5_most_r2 ++ wsX5_most_r3)) ++ wsX50 ++ wsX20)
def wsX5_mostBy_r1 : List Cond := (Cond.fieldLink RX5 31 "TheLiningsInIt$Ways" "hurry" "I") :: (Cond.fieldLink RX5 49 "TheLiningsInIt$Pull" "takes" "I") :: (Cond.methodLink RX5 90 yX2_waysAt) :: (Cond.instanceMethod yX2_waysAt) :: (Cond.selects RX2 yX2_waysAt yX2_waysAt) :: (Cond.initialized RX2) :: (Cond.code yX2_waysAt cX2_waysAt 3 (some .int)) :: (Cond.fieldLink RX2 9 "TheLiningsInIt$Pull" "kind" "I") :: (Cond.methodLink RX2 33 Lib.Math.min.name) :: (Cond.static Lib.Math.min.name) :: (Cond.initialized "java/lang/Math") :: (Cond.code Lib.Math.min.name Lib.Math.min.code 2 (some .int)) :: (Cond.methodLink RX2 39 Lib.Math.max.name) :: (Cond.static Lib.Math.max.name) :: (Cond.code Lib.Math.max.name Lib.Math.max.code 2 (some .int)) :: (Cond.methodLink RX2 29 yX2_calmWaysAt) :: (Cond.instanceMethod yX2_calmWaysAt) :: (Cond.selects RX2 yX2_calmWaysAt yX2_calmWaysAt) :: (Cond.code yX2_calmWaysAt cX2_calmWaysAt 2 (some .int)) :: (Cond.fieldLink RX2 15 "TheLiningsInIt$Pull" "a" "I") :: (Cond.methodLink RX5 93 yX2_shallower) :: (Cond.instanceMethod yX2_shallower) :: (Cond.selects RX2 yX2_shallower yX2_shallower) :: (Cond.code yX2_shallower cX2_shallower 2 (some .int)) :: []
def wsX5_mostBy_r2 : List Cond := (Cond.methodLink RX2 42 yX2_step) :: (Cond.instanceMethod yX2_step) :: (Cond.selects RX2 yX2_step yX2_step) :: (Cond.code yX2_step cX2_step 1 (some .int)) :: (Cond.methodLink RX5 97 yX5_most) :: (Cond.instanceMethod yX5_most) :: (Cond.selects RX5 yX5_most yX5_most) :: (Cond.initialized RX5) :: (Cond.methodLink RX5 101 yX2_deeper) :: (Cond.instanceMethod yX2_deeper) :: (Cond.selects RX2 yX2_deeper yX2_deeper) :: (Cond.code yX2_deeper cX2_deeper 4 (some .int)) :: (Cond.code yX5_most cX5_most 9 (some .int)) :: (Cond.fieldLink RX5 79 "TheLiningsInIt$Ways" "POWERS" "[I") :: (Cond.fieldLink RX5 34 "TheLiningsInIt$Ways" "longest" "I") :: (Cond.fieldLink RX5 9 "TheLiningsInIt$Ways" "knownMost" "[I") :: (Cond.fieldLink RX5 27 "TheLiningsInIt$Ways" "count" "I") :: (Cond.methodLink RX5 52 Lib.Math.max.name) :: (Cond.methodLink RX5 82 yX5_mayBeAt) :: (Cond.instanceMethod yX5_mayBeAt) :: (Cond.selects RX5 yX5_mayBeAt yX5_mayBeAt) :: (Cond.code yX5_mayBeAt cX5_mayBeAt 5 (some (.object "TheLiningsInIt$Pull"))) :: (Cond.fieldLink RX5 23 "TheLiningsInIt$Ways" "pulls" "[LTheLiningsInIt$Pull;") :: (Cond.static yX7_within) :: []
def wsX5_mostBy_r3 : List Cond := (Cond.initialized RX7) :: (Cond.code yX7_within cX7_within 3 (some .boolean)) :: (Cond.methodLink RX5 75 yX2_mayBe) :: (Cond.instanceMethod yX2_mayBe) :: (Cond.selects RX2 yX2_mayBe yX2_mayBe) :: (Cond.code yX2_mayBe cX2_mayBe 3 (some .boolean)) :: (Cond.fieldLink RX2 18 "TheLiningsInIt$Pull" "takes" "I") :: (Cond.methodLink RX5 86 yX5_mostBy) :: (Cond.instanceMethod yX5_mostBy) :: (Cond.selects RX5 yX5_mostBy yX5_mostBy) :: []
def wsX5_mostBy : List Cond := (.code yX5_mostBy cX5_mostBy 8 (some .int)) :: ((wsX5_mostBy_r1 ++ (wsX5_mostBy_r2 ++ wsX5_mostBy_r3)) ++ wsX50 ++ wsX20)
def wsX5_headIsCheapest : List Cond := (.code yX5_headIsCheapest cX5_headIsCheapest 2 (some .boolean)) :: (.fieldLink RX5 18 "TheLiningsInIt$Ways" "costs" "[I") :: wsX50
def wsX5_leastAtOnce : List Cond := (.code yX5_leastAtOnce cX5_leastAtOnce 3 (some .int)) :: (.fieldLink RX5 79 "TheLiningsInIt$Ways" "POWERS" "[I") :: (.fieldLink RX5 18 "TheLiningsInIt$Ways" "costs" "[I") :: (.methodLink RX5 113 yX5_headIsCheapest) :: (.instanceMethod yX5_headIsCheapest) :: (.selects RX5 yX5_headIsCheapest yX5_headIsCheapest) :: (.initialized RX5) :: (.code yX5_headIsCheapest cX5_headIsCheapest 2 (some .boolean)) :: wsX50
set_option maxRecDepth 20000 in
theorem ggX5_mayBeAt_X7_within : GoodIn wsX5_mayBeAt wsX7_within := goodIn_r _ [4] rfl (by decide +kernel)
set_option maxRecDepth 20000 in
theorem gX5_mayBeAt_X7_within_n71 : GoodIn wsX5_mayBeAt (wsX7_within) := ggX5_mayBeAt_X7_within
set_option maxRecDepth 20000 in
theorem ggX5_mayBeAt_X2_mayBe : GoodIn wsX5_mayBeAt wsX2_mayBe := goodIn_r _ [9, 10, 18, 19, 20] rfl (by decide +kernel)
set_option maxRecDepth 20000 in
theorem gX5_mayBeAt_X2_mayBe : GoodIn wsX5_mayBeAt (wsV RX5 75 RX2 yX2_mayBe wsX2_mayBe) := goodIn_app (goodIn_r _ [5, 6, 7, 8] rfl (by decide +kernel)) ggX5_mayBeAt_X2_mayBe
theorem dX5_mayBeAt_0 : decode cX5_mayBeAt 0 = .ok (.iload_n 1, 1) := by decide +kernel
theorem dX5_mayBeAt_1 : decode cX5_mayBeAt 1 = .ok (.iconst 0, 1) := by decide +kernel
theorem dX5_mayBeAt_2 : decode cX5_mayBeAt 2 = .ok (.bipush 7, 2) := by decide +kernel
theorem dX5_mayBeAt_4 : decode cX5_mayBeAt 4 = .ok (.invokestatic 71, 3) := by decide +kernel
theorem dX5_mayBeAt_7 : decode cX5_mayBeAt 7 = .ok (.ifCond .eq 12, 3) := by decide +kernel
theorem dX5_mayBeAt_10 : decode cX5_mayBeAt 10 = .ok (.aload_n 0, 1) := by decide +kernel
theorem dX5_mayBeAt_11 : decode cX5_mayBeAt 11 = .ok (.getfield 23, 3) := by decide +kernel
theorem dX5_mayBeAt_14 : decode cX5_mayBeAt 14 = .ok (.iload_n 1, 1) := by decide +kernel
theorem dX5_mayBeAt_15 : decode cX5_mayBeAt 15 = .ok (.aaload, 1) := by decide +kernel
theorem dX5_mayBeAt_16 : decode cX5_mayBeAt 16 = .ok (.goto 4, 3) := by decide +kernel
theorem dX5_mayBeAt_19 : decode cX5_mayBeAt 19 = .ok (.aconst_null, 1) := by decide +kernel
theorem dX5_mayBeAt_20 : decode cX5_mayBeAt 20 = .ok (.astore 4, 2) := by decide +kernel
theorem dX5_mayBeAt_22 : decode cX5_mayBeAt 22 = .ok (.aload 4, 2) := by decide +kernel
theorem dX5_mayBeAt_24 : decode cX5_mayBeAt 24 = .ok (.ifnull 18, 3) := by decide +kernel
theorem dX5_mayBeAt_27 : decode cX5_mayBeAt 27 = .ok (.aload 4, 2) := by decide +kernel
theorem dX5_mayBeAt_29 : decode cX5_mayBeAt 29 = .ok (.iload_n 2, 1) := by decide +kernel
theorem dX5_mayBeAt_30 : decode cX5_mayBeAt 30 = .ok (.iload_n 3, 1) := by decide +kernel
theorem dX5_mayBeAt_31 : decode cX5_mayBeAt 31 = .ok (.invokevirtual 75, 3) := by decide +kernel
theorem dX5_mayBeAt_34 : decode cX5_mayBeAt 34 = .ok (.ifCond .eq 8, 3) := by decide +kernel
theorem dX5_mayBeAt_37 : decode cX5_mayBeAt 37 = .ok (.aload 4, 2) := by decide +kernel
theorem dX5_mayBeAt_39 : decode cX5_mayBeAt 39 = .ok (.goto 4, 3) := by decide +kernel
theorem dX5_mayBeAt_42 : decode cX5_mayBeAt 42 = .ok (.aconst_null, 1) := by decide +kernel
theorem dX5_mayBeAt_43 : decode cX5_mayBeAt 43 = .ok (.areturn, 1) := by decide +kernel
set_option maxRecDepth 20000 in
theorem ggX5_most_X5_mayBeAt : GoodIn wsX5_most wsX5_mayBeAt := goodIn_r _ [13, 14, 15, 16, 17, 18, 19, 20, 21, 22, 23, 59, 60, 61, 62, 63, 64, 65, 66, 67, 68] rfl (by decide +kernel)
set_option maxRecDepth 20000 in
theorem gX5_most_X5_mayBeAt : GoodIn wsX5_most (wsV RX5 82 RX5 yX5_mayBeAt wsX5_mayBeAt) := goodIn_app (goodIn_r _ [9, 10, 11, 12] rfl (by decide +kernel)) ggX5_most_X5_mayBeAt
set_option maxRecDepth 20000 in
theorem ggX5_most_X5_mostBy : GoodIn wsX5_most wsX5_mostBy := goodIn_r _ [27, 28, 29, 30, 31, 32, 21, 33, 34, 35, 36, 7, 37, 38, 6, 8, 39, 40, 41, 42, 43, 44, 45, 46, 47, 48, 49, 50, 51, 52, 53, 54, 12, 55, 56, 57, 58, 0, 1, 2, 3, 4, 5, 9, 10, 11, 13, 14, 15, 16, 17, 18, 19, 20, 22, 23, 24, 25, 26, 59, 60, 61, 62, 63, 64, 65, 66, 67, 68] rfl (by decide +kernel)
set_option maxRecDepth 20000 in
theorem gX5_most_X5_mostBy : GoodIn wsX5_most (wsV RX5 86 RX5 yX5_mostBy wsX5_mostBy) := goodIn_app (goodIn_r _ [24, 25, 26, 12] rfl (by decide +kernel)) ggX5_most_X5_mostBy
theorem dX5_most_0 : decode cX5_most 0 = .ok (.iload_n 1, 1) := by decide +kernel
theorem dX5_most_1 : decode cX5_most 1 = .ok (.ifCond .lt 18, 3) := by decide +kernel
theorem dX5_most_4 : decode cX5_most 4 = .ok (.iload_n 1, 1) := by decide +kernel
theorem dX5_most_5 : decode cX5_most 5 = .ok (.iconst 4, 1) := by decide +kernel
theorem dX5_most_6 : decode cX5_most 6 = .ok (.if_icmp .gt 13, 3) := by decide +kernel
theorem dX5_most_9 : decode cX5_most 9 = .ok (.iload_n 2, 1) := by decide +kernel
theorem dX5_most_10 : decode cX5_most 10 = .ok (.ifCond .lt 9, 3) := by decide +kernel
theorem dX5_most_13 : decode cX5_most 13 = .ok (.iload_n 2, 1) := by decide +kernel
theorem dX5_most_14 : decode cX5_most 14 = .ok (.bipush 24, 2) := by decide +kernel
theorem dX5_most_16 : decode cX5_most 16 = .ok (.if_icmp .le 5, 3) := by decide +kernel
theorem dX5_most_21 : decode cX5_most 21 = .ok (.iload_n 2, 1) := by decide +kernel
theorem dX5_most_22 : decode cX5_most 22 = .ok (.ifCond .eq 7, 3) := by decide +kernel
theorem dX5_most_25 : decode cX5_most 25 = .ok (.iload_n 1, 1) := by decide +kernel
theorem dX5_most_26 : decode cX5_most 26 = .ok (.ifCond .ne 17, 3) := by decide +kernel
theorem dX5_most_29 : decode cX5_most 29 = .ok (.iload_n 2, 1) := by decide +kernel
theorem dX5_most_30 : decode cX5_most 30 = .ok (.ifCond .ne 11, 3) := by decide +kernel
theorem dX5_most_33 : decode cX5_most 33 = .ok (.getstatic 79, 3) := by decide +kernel
theorem dX5_most_36 : decode cX5_most 36 = .ok (.iload_n 1, 1) := by decide +kernel
theorem dX5_most_37 : decode cX5_most 37 = .ok (.iaload, 1) := by decide +kernel
theorem dX5_most_38 : decode cX5_most 38 = .ok (.goto 4, 3) := by decide +kernel
theorem dX5_most_41 : decode cX5_most 41 = .ok (.iconst 0, 1) := by decide +kernel
theorem dX5_most_42 : decode cX5_most 42 = .ok (.ireturn, 1) := by decide +kernel
theorem dX5_most_43 : decode cX5_most 43 = .ok (.iload_n 3, 1) := by decide +kernel
theorem dX5_most_44 : decode cX5_most 44 = .ok (.iload_n 1, 1) := by decide +kernel
theorem dX5_most_45 : decode cX5_most 45 = .ok (.aload_n 0, 1) := by decide +kernel
theorem dX5_most_46 : decode cX5_most 46 = .ok (.getfield 34, 3) := by decide +kernel
theorem dX5_most_49 : decode cX5_most 49 = .ok (.imul, 1) := by decide +kernel
theorem dX5_most_50 : decode cX5_most 50 = .ok (.if_icmp .lt 7, 3) := by decide +kernel
theorem dX5_most_53 : decode cX5_most 53 = .ok (.iconst 1, 1) := by decide +kernel
theorem dX5_most_54 : decode cX5_most 54 = .ok (.goto 4, 3) := by decide +kernel
theorem dX5_most_57 : decode cX5_most 57 = .ok (.iconst 0, 1) := by decide +kernel
theorem dX5_most_58 : decode cX5_most 58 = .ok (.istore 4, 2) := by decide +kernel
theorem dX5_most_60 : decode cX5_most 60 = .ok (.iload_n 1, 1) := by decide +kernel
theorem dX5_most_61 : decode cX5_most 61 = .ok (.bipush 25, 2) := by decide +kernel
theorem dX5_most_63 : decode cX5_most 63 = .ok (.imul, 1) := by decide +kernel
theorem dX5_most_64 : decode cX5_most 64 = .ok (.iload_n 2, 1) := by decide +kernel
theorem dX5_most_65 : decode cX5_most 65 = .ok (.iadd, 1) := by decide +kernel
theorem dX5_most_66 : decode cX5_most 66 = .ok (.istore 5, 2) := by decide +kernel
theorem dX5_most_68 : decode cX5_most 68 = .ok (.iload 4, 2) := by decide +kernel
theorem dX5_most_70 : decode cX5_most 70 = .ok (.ifCond .eq 22, 3) := by decide +kernel
theorem dX5_most_73 : decode cX5_most 73 = .ok (.aload_n 0, 1) := by decide +kernel
theorem dX5_most_74 : decode cX5_most 74 = .ok (.getfield 9, 3) := by decide +kernel
theorem dX5_most_77 : decode cX5_most 77 = .ok (.iload 5, 2) := by decide +kernel
theorem dX5_most_79 : decode cX5_most 79 = .ok (.iaload, 1) := by decide +kernel
theorem dX5_most_80 : decode cX5_most 80 = .ok (.iconst (-1), 1) := by decide +kernel
theorem dX5_most_81 : decode cX5_most 81 = .ok (.if_icmp .eq 11, 3) := by decide +kernel
theorem dX5_most_84 : decode cX5_most 84 = .ok (.aload_n 0, 1) := by decide +kernel
theorem dX5_most_85 : decode cX5_most 85 = .ok (.getfield 9, 3) := by decide +kernel
theorem dX5_most_88 : decode cX5_most 88 = .ok (.iload 5, 2) := by decide +kernel
theorem dX5_most_90 : decode cX5_most 90 = .ok (.iaload, 1) := by decide +kernel
theorem dX5_most_91 : decode cX5_most 91 = .ok (.ireturn, 1) := by decide +kernel
theorem dX5_most_92 : decode cX5_most 92 = .ok (.iconst 0, 1) := by decide +kernel
theorem dX5_most_93 : decode cX5_most 93 = .ok (.istore 6, 2) := by decide +kernel
theorem dX5_most_95 : decode cX5_most 95 = .ok (.iconst 0, 1) := by decide +kernel
theorem dX5_most_96 : decode cX5_most 96 = .ok (.istore 7, 2) := by decide +kernel
theorem dX5_most_98 : decode cX5_most 98 = .ok (.iload 7, 2) := by decide +kernel
theorem dX5_most_100 : decode cX5_most 100 = .ok (.aload_n 0, 1) := by decide +kernel
theorem dX5_most_101 : decode cX5_most 101 = .ok (.getfield 27, 3) := by decide +kernel
theorem dX5_most_104 : decode cX5_most 104 = .ok (.if_icmp .ge 40, 3) := by decide +kernel
theorem dX5_most_107 : decode cX5_most 107 = .ok (.aload_n 0, 1) := by decide +kernel
theorem dX5_most_108 : decode cX5_most 108 = .ok (.iload 7, 2) := by decide +kernel
theorem dX5_most_110 : decode cX5_most 110 = .ok (.iload_n 2, 1) := by decide +kernel
theorem dX5_most_111 : decode cX5_most 111 = .ok (.iload_n 3, 1) := by decide +kernel
theorem dX5_most_112 : decode cX5_most 112 = .ok (.invokevirtual 82, 3) := by decide +kernel
theorem dX5_most_115 : decode cX5_most 115 = .ok (.astore 8, 2) := by decide +kernel
theorem dX5_most_117 : decode cX5_most 117 = .ok (.aload 8, 2) := by decide +kernel
theorem dX5_most_119 : decode cX5_most 119 = .ok (.ifnull 19, 3) := by decide +kernel
theorem dX5_most_122 : decode cX5_most 122 = .ok (.iload 6, 2) := by decide +kernel
theorem dX5_most_124 : decode cX5_most 124 = .ok (.aload_n 0, 1) := by decide +kernel
theorem dX5_most_125 : decode cX5_most 125 = .ok (.aload 8, 2) := by decide +kernel
theorem dX5_most_127 : decode cX5_most 127 = .ok (.iload_n 1, 1) := by decide +kernel
theorem dX5_most_128 : decode cX5_most 128 = .ok (.iload_n 2, 1) := by decide +kernel
theorem dX5_most_129 : decode cX5_most 129 = .ok (.iload_n 3, 1) := by decide +kernel
theorem dX5_most_130 : decode cX5_most 130 = .ok (.invokevirtual 86, 3) := by decide +kernel
theorem dX5_most_133 : decode cX5_most 133 = .ok (.invokestatic 52, 3) := by decide +kernel
theorem dX5_most_136 : decode cX5_most 136 = .ok (.istore 6, 2) := by decide +kernel
theorem dX5_most_138 : decode cX5_most 138 = .ok (.iinc 7 1, 3) := by decide +kernel
theorem dX5_most_141 : decode cX5_most 141 = .ok (.goto (-43), 3) := by decide +kernel
theorem dX5_most_144 : decode cX5_most 144 = .ok (.iload 4, 2) := by decide +kernel
theorem dX5_most_146 : decode cX5_most 146 = .ok (.ifCond .eq 12, 3) := by decide +kernel
theorem dX5_most_149 : decode cX5_most 149 = .ok (.aload_n 0, 1) := by decide +kernel
theorem dX5_most_150 : decode cX5_most 150 = .ok (.getfield 9, 3) := by decide +kernel
theorem dX5_most_153 : decode cX5_most 153 = .ok (.iload 5, 2) := by decide +kernel
theorem dX5_most_155 : decode cX5_most 155 = .ok (.iload 6, 2) := by decide +kernel
theorem dX5_most_157 : decode cX5_most 157 = .ok (.iastore, 1) := by decide +kernel
theorem dX5_most_158 : decode cX5_most 158 = .ok (.iload 6, 2) := by decide +kernel
theorem dX5_most_160 : decode cX5_most 160 = .ok (.ireturn, 1) := by decide +kernel
set_option maxRecDepth 20000 in
theorem ggX5_mostBy_X2_waysAt : GoodIn wsX5_mostBy wsX2_waysAt := goodIn_r _ [7, 8, 9, 10, 11, 12, 13, 14, 15, 16, 17, 18, 6, 19, 20, 66, 67, 68] rfl (by decide +kernel)
set_option maxRecDepth 20000 in
theorem gX5_mostBy_X2_waysAt : GoodIn wsX5_mostBy (wsV RX5 90 RX2 yX2_waysAt wsX2_waysAt) := goodIn_app (goodIn_r _ [3, 4, 5, 6] rfl (by decide +kernel)) ggX5_mostBy_X2_waysAt
set_option maxRecDepth 20000 in
theorem ggX5_mostBy_X2_shallower : GoodIn wsX5_mostBy wsX2_shallower := goodIn_r _ [24, 13, 14, 11, 15, 25, 26, 27, 6, 28, 8, 20, 66, 67, 68] rfl (by decide +kernel)
set_option maxRecDepth 20000 in
theorem gX5_mostBy_X2_shallower : GoodIn wsX5_mostBy (wsV RX5 93 RX2 yX2_shallower wsX2_shallower) := goodIn_app (goodIn_r _ [21, 22, 23, 6] rfl (by decide +kernel)) ggX5_mostBy_X2_shallower
set_option maxRecDepth 20000 in
theorem ggX5_mostBy_X5_most : GoodIn wsX5_mostBy wsX5_most := goodIn_r _ [37, 38, 39, 40, 41, 42, 14, 11, 15, 43, 44, 45, 32, 46, 47, 48, 49, 50, 51, 52, 53, 6, 54, 55, 56, 57, 58, 0, 1, 2, 3, 4, 5, 7, 8, 9, 10, 12, 13, 16, 17, 18, 19, 20, 21, 22, 23, 24, 25, 26, 27, 28, 29, 30, 31, 33, 34, 35, 36, 59, 60, 61, 62, 63, 64, 65, 66, 67, 68] rfl (by decide +kernel)
set_option maxRecDepth 20000 in
theorem gX5_mostBy_X5_most : GoodIn wsX5_mostBy (wsV RX5 97 RX5 yX5_most wsX5_most) := goodIn_app (goodIn_r _ [29, 30, 31, 32] rfl (by decide +kernel)) ggX5_mostBy_X5_most
set_option maxRecDepth 20000 in
theorem ggX5_mostBy_X2_deeper : GoodIn wsX5_mostBy wsX2_deeper := goodIn_r _ [36, 8, 20, 9, 10, 11, 12, 66, 67, 68] rfl (by decide +kernel)
set_option maxRecDepth 20000 in
theorem gX5_mostBy_X2_deeper : GoodIn wsX5_mostBy (wsV RX5 101 RX2 yX2_deeper wsX2_deeper) := goodIn_app (goodIn_r _ [33, 34, 35, 6] rfl (by decide +kernel)) ggX5_mostBy_X2_deeper
theorem dX5_mostBy_0 : decode cX5_mostBy 0 = .ok (.aload_n 1, 1) := by decide +kernel
theorem dX5_mostBy_1 : decode cX5_mostBy 1 = .ok (.iload_n 3, 1) := by decide +kernel
theorem dX5_mostBy_2 : decode cX5_mostBy 2 = .ok (.aload_n 0, 1) := by decide +kernel
theorem dX5_mostBy_3 : decode cX5_mostBy 3 = .ok (.getfield 31, 3) := by decide +kernel
theorem dX5_mostBy_6 : decode cX5_mostBy 6 = .ok (.invokevirtual 90, 3) := by decide +kernel
theorem dX5_mostBy_9 : decode cX5_mostBy 9 = .ok (.istore 5, 2) := by decide +kernel
theorem dX5_mostBy_11 : decode cX5_mostBy 11 = .ok (.iload 4, 2) := by decide +kernel
theorem dX5_mostBy_13 : decode cX5_mostBy 13 = .ok (.aload_n 1, 1) := by decide +kernel
theorem dX5_mostBy_14 : decode cX5_mostBy 14 = .ok (.getfield 49, 3) := by decide +kernel
theorem dX5_mostBy_17 : decode cX5_mostBy 17 = .ok (.isub, 1) := by decide +kernel
theorem dX5_mostBy_18 : decode cX5_mostBy 18 = .ok (.istore 6, 2) := by decide +kernel
theorem dX5_mostBy_20 : decode cX5_mostBy 20 = .ok (.iconst 0, 1) := by decide +kernel
theorem dX5_mostBy_21 : decode cX5_mostBy 21 = .ok (.istore 7, 2) := by decide +kernel
theorem dX5_mostBy_23 : decode cX5_mostBy 23 = .ok (.iload 5, 2) := by decide +kernel
theorem dX5_mostBy_25 : decode cX5_mostBy 25 = .ok (.ifCond .le 25, 3) := by decide +kernel
theorem dX5_mostBy_28 : decode cX5_mostBy 28 = .ok (.iload 7, 2) := by decide +kernel
theorem dX5_mostBy_30 : decode cX5_mostBy 30 = .ok (.iload 5, 2) := by decide +kernel
theorem dX5_mostBy_32 : decode cX5_mostBy 32 = .ok (.aload_n 0, 1) := by decide +kernel
theorem dX5_mostBy_33 : decode cX5_mostBy 33 = .ok (.iload_n 2, 1) := by decide +kernel
theorem dX5_mostBy_34 : decode cX5_mostBy 34 = .ok (.iconst 1, 1) := by decide +kernel
theorem dX5_mostBy_35 : decode cX5_mostBy 35 = .ok (.isub, 1) := by decide +kernel
theorem dX5_mostBy_36 : decode cX5_mostBy 36 = .ok (.aload_n 1, 1) := by decide +kernel
theorem dX5_mostBy_37 : decode cX5_mostBy 37 = .ok (.iload_n 3, 1) := by decide +kernel
theorem dX5_mostBy_38 : decode cX5_mostBy 38 = .ok (.invokevirtual 93, 3) := by decide +kernel
theorem dX5_mostBy_41 : decode cX5_mostBy 41 = .ok (.iload 6, 2) := by decide +kernel
theorem dX5_mostBy_43 : decode cX5_mostBy 43 = .ok (.invokevirtual 97, 3) := by decide +kernel
theorem dX5_mostBy_46 : decode cX5_mostBy 46 = .ok (.imul, 1) := by decide +kernel
theorem dX5_mostBy_47 : decode cX5_mostBy 47 = .ok (.iadd, 1) := by decide +kernel
theorem dX5_mostBy_48 : decode cX5_mostBy 48 = .ok (.istore 7, 2) := by decide +kernel
theorem dX5_mostBy_50 : decode cX5_mostBy 50 = .ok (.iload 5, 2) := by decide +kernel
theorem dX5_mostBy_52 : decode cX5_mostBy 52 = .ok (.bipush 12, 2) := by decide +kernel
theorem dX5_mostBy_54 : decode cX5_mostBy 54 = .ok (.if_icmp .ge 32, 3) := by decide +kernel
theorem dX5_mostBy_57 : decode cX5_mostBy 57 = .ok (.iload 7, 2) := by decide +kernel
theorem dX5_mostBy_59 : decode cX5_mostBy 59 = .ok (.bipush 12, 2) := by decide +kernel
theorem dX5_mostBy_61 : decode cX5_mostBy 61 = .ok (.iload 5, 2) := by decide +kernel
theorem dX5_mostBy_63 : decode cX5_mostBy 63 = .ok (.isub, 1) := by decide +kernel
theorem dX5_mostBy_64 : decode cX5_mostBy 64 = .ok (.aload_n 0, 1) := by decide +kernel
theorem dX5_mostBy_65 : decode cX5_mostBy 65 = .ok (.iload_n 2, 1) := by decide +kernel
theorem dX5_mostBy_66 : decode cX5_mostBy 66 = .ok (.iconst 1, 1) := by decide +kernel
theorem dX5_mostBy_67 : decode cX5_mostBy 67 = .ok (.isub, 1) := by decide +kernel
theorem dX5_mostBy_68 : decode cX5_mostBy 68 = .ok (.aload_n 1, 1) := by decide +kernel
theorem dX5_mostBy_69 : decode cX5_mostBy 69 = .ok (.iload_n 3, 1) := by decide +kernel
theorem dX5_mostBy_70 : decode cX5_mostBy 70 = .ok (.aload_n 0, 1) := by decide +kernel
theorem dX5_mostBy_71 : decode cX5_mostBy 71 = .ok (.getfield 31, 3) := by decide +kernel
theorem dX5_mostBy_74 : decode cX5_mostBy 74 = .ok (.invokevirtual 101, 3) := by decide +kernel
theorem dX5_mostBy_77 : decode cX5_mostBy 77 = .ok (.iload 6, 2) := by decide +kernel
theorem dX5_mostBy_79 : decode cX5_mostBy 79 = .ok (.invokevirtual 97, 3) := by decide +kernel
theorem dX5_mostBy_82 : decode cX5_mostBy 82 = .ok (.imul, 1) := by decide +kernel
theorem dX5_mostBy_83 : decode cX5_mostBy 83 = .ok (.iadd, 1) := by decide +kernel
theorem dX5_mostBy_84 : decode cX5_mostBy 84 = .ok (.istore 7, 2) := by decide +kernel
theorem dX5_mostBy_86 : decode cX5_mostBy 86 = .ok (.iload 7, 2) := by decide +kernel
theorem dX5_mostBy_88 : decode cX5_mostBy 88 = .ok (.ireturn, 1) := by decide +kernel
theorem dX5_headIsCheapest_0 : decode cX5_headIsCheapest 0 = .ok (.iload_n 1, 1) := by decide +kernel
theorem dX5_headIsCheapest_1 : decode cX5_headIsCheapest 1 = .ok (.bipush 30, 2) := by decide +kernel
theorem dX5_headIsCheapest_3 : decode cX5_headIsCheapest 3 = .ok (.if_icmp .lt 22, 3) := by decide +kernel
theorem dX5_headIsCheapest_6 : decode cX5_headIsCheapest 6 = .ok (.aload_n 0, 1) := by decide +kernel
theorem dX5_headIsCheapest_7 : decode cX5_headIsCheapest 7 = .ok (.getfield 18, 3) := by decide +kernel
theorem dX5_headIsCheapest_10 : decode cX5_headIsCheapest 10 = .ok (.iconst 1, 1) := by decide +kernel
theorem dX5_headIsCheapest_11 : decode cX5_headIsCheapest 11 = .ok (.iaload, 1) := by decide +kernel
theorem dX5_headIsCheapest_12 : decode cX5_headIsCheapest 12 = .ok (.aload_n 0, 1) := by decide +kernel
theorem dX5_headIsCheapest_13 : decode cX5_headIsCheapest 13 = .ok (.getfield 18, 3) := by decide +kernel
theorem dX5_headIsCheapest_16 : decode cX5_headIsCheapest 16 = .ok (.iconst 2, 1) := by decide +kernel
theorem dX5_headIsCheapest_17 : decode cX5_headIsCheapest 17 = .ok (.iaload, 1) := by decide +kernel
theorem dX5_headIsCheapest_18 : decode cX5_headIsCheapest 18 = .ok (.if_icmp .gt 7, 3) := by decide +kernel
theorem dX5_headIsCheapest_21 : decode cX5_headIsCheapest 21 = .ok (.iconst 1, 1) := by decide +kernel
theorem dX5_headIsCheapest_22 : decode cX5_headIsCheapest 22 = .ok (.goto 4, 3) := by decide +kernel
theorem dX5_headIsCheapest_25 : decode cX5_headIsCheapest 25 = .ok (.iconst 0, 1) := by decide +kernel
theorem dX5_headIsCheapest_26 : decode cX5_headIsCheapest 26 = .ok (.ireturn, 1) := by decide +kernel
set_option maxRecDepth 20000 in
theorem ggX5_leastAtOnce_X5_headIsCheapest : GoodIn wsX5_leastAtOnce wsX5_headIsCheapest := goodIn_r _ [7, 2, 8, 9, 10, 11, 12, 13, 14] rfl (by decide +kernel)
set_option maxRecDepth 20000 in
theorem gX5_leastAtOnce_X5_headIsCheapest : GoodIn wsX5_leastAtOnce (wsV RX5 113 RX5 yX5_headIsCheapest wsX5_headIsCheapest) := goodIn_app (goodIn_r _ [3, 4, 5, 6] rfl (by decide +kernel)) ggX5_leastAtOnce_X5_headIsCheapest
theorem dX5_leastAtOnce_0 : decode cX5_leastAtOnce 0 = .ok (.getstatic 79, 3) := by decide +kernel
theorem dX5_leastAtOnce_3 : decode cX5_leastAtOnce 3 = .ok (.iload_n 1, 1) := by decide +kernel
theorem dX5_leastAtOnce_4 : decode cX5_leastAtOnce 4 = .ok (.iaload, 1) := by decide +kernel
theorem dX5_leastAtOnce_5 : decode cX5_leastAtOnce 5 = .ok (.aload_n 0, 1) := by decide +kernel
theorem dX5_leastAtOnce_6 : decode cX5_leastAtOnce 6 = .ok (.getfield 18, 3) := by decide +kernel
theorem dX5_leastAtOnce_9 : decode cX5_leastAtOnce 9 = .ok (.aload_n 0, 1) := by decide +kernel
theorem dX5_leastAtOnce_10 : decode cX5_leastAtOnce 10 = .ok (.iload_n 2, 1) := by decide +kernel
theorem dX5_leastAtOnce_11 : decode cX5_leastAtOnce 11 = .ok (.invokevirtual 113, 3) := by decide +kernel
theorem dX5_leastAtOnce_14 : decode cX5_leastAtOnce 14 = .ok (.ifCond .eq 7, 3) := by decide +kernel
theorem dX5_leastAtOnce_17 : decode cX5_leastAtOnce 17 = .ok (.iconst 1, 1) := by decide +kernel
theorem dX5_leastAtOnce_18 : decode cX5_leastAtOnce 18 = .ok (.goto 4, 3) := by decide +kernel
theorem dX5_leastAtOnce_21 : decode cX5_leastAtOnce 21 = .ok (.iconst 2, 1) := by decide +kernel
theorem dX5_leastAtOnce_22 : decode cX5_leastAtOnce 22 = .ok (.iaload, 1) := by decide +kernel
theorem dX5_leastAtOnce_23 : decode cX5_leastAtOnce 23 = .ok (.imul, 1) := by decide +kernel
theorem dX5_leastAtOnce_24 : decode cX5_leastAtOnce 24 = .ok (.ireturn, 1) := by decide +kernel

