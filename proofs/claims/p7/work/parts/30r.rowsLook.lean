def wsX1_ownBody : List Cond := (.code yX1_ownBody cX1_ownBody 2 (some .int)) :: []
def wsX1_note : List Cond := (.code yX1_note cX1_note 2 none) :: (.fieldLink RX1 15 "TheLiningsInIt$Moves" "ran" "I") :: (.fieldLink RX1 11 "TheLiningsInIt$Moves" "bodies" "[I") :: wsX10
def wsX1_bodyAt : List Cond := (.code yX1_bodyAt cX1_bodyAt 2 (some .int)) :: (.fieldLink RX1 15 "TheLiningsInIt$Moves" "ran" "I") :: (.methodLink RX1 38 Lib.Math.min.name) :: (.static Lib.Math.min.name) :: (.initialized "java/lang/Math") :: (.code Lib.Math.min.name Lib.Math.min.code 2 (some .int)) :: (.fieldLink RX1 11 "TheLiningsInIt$Moves" "bodies" "[I") :: (.static yX7_within) :: (.initialized RX7) :: (.code yX7_within cX7_within 3 (some .boolean)) :: wsX10
def wsJ7_fill_53178 : List Cond := (.code yJ7_fill_53178 cJ7_fill_53178 4 none) :: []
def wsX5_look_r1 : List Cond := (Cond.fieldLink RX5 37 "TheLiningsInIt$Jacket" "pullCount" "I") :: (Cond.fieldLink RX5 27 "TheLiningsInIt$Ways" "count" "I") :: (Cond.fieldLink RX5 31 "TheLiningsInIt$Ways" "hurry" "I") :: (Cond.fieldLink RX5 34 "TheLiningsInIt$Ways" "longest" "I") :: (Cond.fieldLink RX5 46 "TheLiningsInIt$Pull" "kind" "I") :: (Cond.fieldLink RX5 23 "TheLiningsInIt$Ways" "pulls" "[LTheLiningsInIt$Pull;") :: (Cond.fieldLink RX5 49 "TheLiningsInIt$Pull" "takes" "I") :: (Cond.methodLink RX5 52 Lib.Math.max.name) :: (Cond.static Lib.Math.max.name) :: (Cond.initialized "java/lang/Math") :: (Cond.code Lib.Math.max.name Lib.Math.max.code 2 (some .int)) :: (Cond.fieldLink RX5 58 "TheLiningsInIt$Jacket" "costs" "[I") :: (Cond.fieldLink RX5 18 "TheLiningsInIt$Ways" "costs" "[I") :: (Cond.methodLink RX5 59 arraycopyName) :: (Cond.native arraycopyName) :: (Cond.static arraycopyName) :: (Cond.initialized "java/lang/System") :: (Cond.fieldLink RX5 9 "TheLiningsInIt$Ways" "knownMost" "[I") :: (Cond.fieldLink RX5 15 "TheLiningsInIt$Ways" "knownLeast" "[I") :: (Cond.methodLink RX5 42 yX0_pullAt) :: (Cond.instanceMethod yX0_pullAt) :: (Cond.selects RX0 yX0_pullAt yX0_pullAt) :: (Cond.initialized RX0) :: (Cond.code yX0_pullAt cX0_pullAt 2 (some (.object "TheLiningsInIt$Pull"))) :: []
def wsX5_look_r2 : List Cond := (Cond.fieldLink RX0 28 "TheLiningsInIt$Jacket" "pullCount" "I") :: (Cond.fieldLink RX0 20 "TheLiningsInIt$Jacket" "pulls" "[LTheLiningsInIt$Pull;") :: (Cond.static yX7_within) :: (Cond.initialized RX7) :: (Cond.code yX7_within cX7_within 3 (some .boolean)) :: (Cond.methodLink RX5 65 yJ7_fill_53178) :: (Cond.static yJ7_fill_53178) :: (Cond.initialized RJ7) :: (Cond.code yJ7_fill_53178 cJ7_fill_53178 4 none) :: []
def wsX5_look : List Cond := (.code yX5_look cX5_look 7 none) :: ((wsX5_look_r1 ++ wsX5_look_r2) ++ wsX00 ++ wsX50 ++ wsX20)
set_option maxRecDepth 20000 in
theorem ggX1_bodyAt_X7_within : GoodIn wsX1_bodyAt wsX7_within := goodIn_r _ [9] rfl (by decide +kernel)
set_option maxRecDepth 20000 in
theorem gX1_bodyAt_X7_within_n44 : GoodIn wsX1_bodyAt (wsX7_within) := ggX1_bodyAt_X7_within
theorem dX1_bodyAt_0 : decode cX1_bodyAt 0 = .ok (.iload_n 1, 1) := by decide +kernel
theorem dX1_bodyAt_1 : decode cX1_bodyAt 1 = .ok (.iconst 0, 1) := by decide +kernel
theorem dX1_bodyAt_2 : decode cX1_bodyAt 2 = .ok (.aload_n 0, 1) := by decide +kernel
theorem dX1_bodyAt_3 : decode cX1_bodyAt 3 = .ok (.getfield 15, 3) := by decide +kernel
theorem dX1_bodyAt_6 : decode cX1_bodyAt 6 = .ok (.bipush 20, 2) := by decide +kernel
theorem dX1_bodyAt_8 : decode cX1_bodyAt 8 = .ok (.invokestatic 38, 3) := by decide +kernel
theorem dX1_bodyAt_11 : decode cX1_bodyAt 11 = .ok (.iconst 1, 1) := by decide +kernel
theorem dX1_bodyAt_12 : decode cX1_bodyAt 12 = .ok (.isub, 1) := by decide +kernel
theorem dX1_bodyAt_13 : decode cX1_bodyAt 13 = .ok (.invokestatic 44, 3) := by decide +kernel
theorem dX1_bodyAt_16 : decode cX1_bodyAt 16 = .ok (.ifCond .eq 12, 3) := by decide +kernel
theorem dX1_bodyAt_19 : decode cX1_bodyAt 19 = .ok (.aload_n 0, 1) := by decide +kernel
theorem dX1_bodyAt_20 : decode cX1_bodyAt 20 = .ok (.getfield 11, 3) := by decide +kernel
theorem dX1_bodyAt_23 : decode cX1_bodyAt 23 = .ok (.iload_n 1, 1) := by decide +kernel
theorem dX1_bodyAt_24 : decode cX1_bodyAt 24 = .ok (.iaload, 1) := by decide +kernel
theorem dX1_bodyAt_25 : decode cX1_bodyAt 25 = .ok (.goto 4, 3) := by decide +kernel
theorem dX1_bodyAt_28 : decode cX1_bodyAt 28 = .ok (.iconst (-1), 1) := by decide +kernel
theorem dX1_bodyAt_29 : decode cX1_bodyAt 29 = .ok (.ireturn, 1) := by decide +kernel
theorem dX1_note_0 : decode cX1_note 0 = .ok (.aload_n 0, 1) := by decide +kernel
theorem dX1_note_1 : decode cX1_note 1 = .ok (.getfield 15, 3) := by decide +kernel
theorem dX1_note_4 : decode cX1_note 4 = .ok (.bipush 20, 2) := by decide +kernel
theorem dX1_note_6 : decode cX1_note 6 = .ok (.if_icmp .ge 13, 3) := by decide +kernel
theorem dX1_note_9 : decode cX1_note 9 = .ok (.aload_n 0, 1) := by decide +kernel
theorem dX1_note_10 : decode cX1_note 10 = .ok (.getfield 11, 3) := by decide +kernel
theorem dX1_note_13 : decode cX1_note 13 = .ok (.aload_n 0, 1) := by decide +kernel
theorem dX1_note_14 : decode cX1_note 14 = .ok (.getfield 15, 3) := by decide +kernel
theorem dX1_note_17 : decode cX1_note 17 = .ok (.iload_n 1, 1) := by decide +kernel
theorem dX1_note_18 : decode cX1_note 18 = .ok (.iastore, 1) := by decide +kernel
theorem dX1_note_19 : decode cX1_note 19 = .ok (.aload_n 0, 1) := by decide +kernel
theorem dX1_note_20 : decode cX1_note 20 = .ok (.dup, 1) := by decide +kernel
theorem dX1_note_21 : decode cX1_note 21 = .ok (.getfield 15, 3) := by decide +kernel
theorem dX1_note_24 : decode cX1_note 24 = .ok (.iconst 1, 1) := by decide +kernel
theorem dX1_note_25 : decode cX1_note 25 = .ok (.iadd, 1) := by decide +kernel
theorem dX1_note_26 : decode cX1_note 26 = .ok (.putfield 15, 3) := by decide +kernel
theorem dX1_note_29 : decode cX1_note 29 = .ok (.return_, 1) := by decide +kernel
theorem dX1_ownBody_0 : decode cX1_ownBody 0 = .ok (.iload_n 0, 1) := by decide +kernel
theorem dX1_ownBody_1 : decode cX1_ownBody 1 = .ok (.tableswitch 112 0 5 #[39, 44, 55, 67, 79, 100], 39) := by decide +kernel
theorem dX1_ownBody_40 : decode cX1_ownBody 40 = .ok (.bipush 10, 2) := by decide +kernel
theorem dX1_ownBody_42 : decode cX1_ownBody 42 = .ok (.iload_n 1, 1) := by decide +kernel
theorem dX1_ownBody_43 : decode cX1_ownBody 43 = .ok (.iadd, 1) := by decide +kernel
theorem dX1_ownBody_44 : decode cX1_ownBody 44 = .ok (.ireturn, 1) := by decide +kernel
theorem dX1_ownBody_45 : decode cX1_ownBody 45 = .ok (.iload_n 1, 1) := by decide +kernel
theorem dX1_ownBody_46 : decode cX1_ownBody 46 = .ok (.ifCond .ne 8, 3) := by decide +kernel
theorem dX1_ownBody_49 : decode cX1_ownBody 49 = .ok (.bipush 20, 2) := by decide +kernel
theorem dX1_ownBody_51 : decode cX1_ownBody 51 = .ok (.goto 4, 3) := by decide +kernel
theorem dX1_ownBody_54 : decode cX1_ownBody 54 = .ok (.iconst (-1), 1) := by decide +kernel
theorem dX1_ownBody_55 : decode cX1_ownBody 55 = .ok (.ireturn, 1) := by decide +kernel
theorem dX1_ownBody_56 : decode cX1_ownBody 56 = .ok (.iload_n 1, 1) := by decide +kernel
theorem dX1_ownBody_57 : decode cX1_ownBody 57 = .ok (.iconst 1, 1) := by decide +kernel
theorem dX1_ownBody_58 : decode cX1_ownBody 58 = .ok (.if_icmp .ne 8, 3) := by decide +kernel
theorem dX1_ownBody_61 : decode cX1_ownBody 61 = .ok (.bipush 30, 2) := by decide +kernel
theorem dX1_ownBody_63 : decode cX1_ownBody 63 = .ok (.goto 4, 3) := by decide +kernel
theorem dX1_ownBody_66 : decode cX1_ownBody 66 = .ok (.iconst (-1), 1) := by decide +kernel
theorem dX1_ownBody_67 : decode cX1_ownBody 67 = .ok (.ireturn, 1) := by decide +kernel
theorem dX1_ownBody_68 : decode cX1_ownBody 68 = .ok (.iload_n 1, 1) := by decide +kernel
theorem dX1_ownBody_69 : decode cX1_ownBody 69 = .ok (.iconst 1, 1) := by decide +kernel
theorem dX1_ownBody_70 : decode cX1_ownBody 70 = .ok (.if_icmp .ne 8, 3) := by decide +kernel
theorem dX1_ownBody_73 : decode cX1_ownBody 73 = .ok (.bipush 40, 2) := by decide +kernel
theorem dX1_ownBody_75 : decode cX1_ownBody 75 = .ok (.goto 4, 3) := by decide +kernel
theorem dX1_ownBody_78 : decode cX1_ownBody 78 = .ok (.iconst (-1), 1) := by decide +kernel
theorem dX1_ownBody_79 : decode cX1_ownBody 79 = .ok (.ireturn, 1) := by decide +kernel
theorem dX1_ownBody_80 : decode cX1_ownBody 80 = .ok (.iload_n 1, 1) := by decide +kernel
theorem dX1_ownBody_81 : decode cX1_ownBody 81 = .ok (.iconst 2, 1) := by decide +kernel
theorem dX1_ownBody_82 : decode cX1_ownBody 82 = .ok (.if_icmp .ne 8, 3) := by decide +kernel
theorem dX1_ownBody_85 : decode cX1_ownBody 85 = .ok (.bipush 50, 2) := by decide +kernel
theorem dX1_ownBody_87 : decode cX1_ownBody 87 = .ok (.goto 13, 3) := by decide +kernel
theorem dX1_ownBody_90 : decode cX1_ownBody 90 = .ok (.iload_n 1, 1) := by decide +kernel
theorem dX1_ownBody_91 : decode cX1_ownBody 91 = .ok (.ifCond .ne 8, 3) := by decide +kernel
theorem dX1_ownBody_94 : decode cX1_ownBody 94 = .ok (.bipush 51, 2) := by decide +kernel
theorem dX1_ownBody_96 : decode cX1_ownBody 96 = .ok (.goto 4, 3) := by decide +kernel
theorem dX1_ownBody_99 : decode cX1_ownBody 99 = .ok (.iconst (-1), 1) := by decide +kernel
theorem dX1_ownBody_100 : decode cX1_ownBody 100 = .ok (.ireturn, 1) := by decide +kernel
theorem dX1_ownBody_101 : decode cX1_ownBody 101 = .ok (.iload_n 1, 1) := by decide +kernel
theorem dX1_ownBody_102 : decode cX1_ownBody 102 = .ok (.iconst 2, 1) := by decide +kernel
theorem dX1_ownBody_103 : decode cX1_ownBody 103 = .ok (.if_icmp .ne 8, 3) := by decide +kernel
theorem dX1_ownBody_106 : decode cX1_ownBody 106 = .ok (.bipush 60, 2) := by decide +kernel
theorem dX1_ownBody_108 : decode cX1_ownBody 108 = .ok (.goto 4, 3) := by decide +kernel
theorem dX1_ownBody_111 : decode cX1_ownBody 111 = .ok (.iconst (-1), 1) := by decide +kernel
theorem dX1_ownBody_112 : decode cX1_ownBody 112 = .ok (.ireturn, 1) := by decide +kernel
theorem dX1_ownBody_113 : decode cX1_ownBody 113 = .ok (.iload_n 1, 1) := by decide +kernel
theorem dX1_ownBody_114 : decode cX1_ownBody 114 = .ok (.ifCond .ne 8, 3) := by decide +kernel
theorem dX1_ownBody_117 : decode cX1_ownBody 117 = .ok (.bipush 70, 2) := by decide +kernel
theorem dX1_ownBody_119 : decode cX1_ownBody 119 = .ok (.goto 14, 3) := by decide +kernel
theorem dX1_ownBody_122 : decode cX1_ownBody 122 = .ok (.iload_n 1, 1) := by decide +kernel
theorem dX1_ownBody_123 : decode cX1_ownBody 123 = .ok (.iconst 1, 1) := by decide +kernel
theorem dX1_ownBody_124 : decode cX1_ownBody 124 = .ok (.if_icmp .ne 8, 3) := by decide +kernel
theorem dX1_ownBody_127 : decode cX1_ownBody 127 = .ok (.bipush 71, 2) := by decide +kernel
theorem dX1_ownBody_129 : decode cX1_ownBody 129 = .ok (.goto 4, 3) := by decide +kernel
theorem dX1_ownBody_132 : decode cX1_ownBody 132 = .ok (.iconst (-1), 1) := by decide +kernel
theorem dX1_ownBody_133 : decode cX1_ownBody 133 = .ok (.ireturn, 1) := by decide +kernel
set_option maxRecDepth 20000 in
theorem ggX5_look_X0_pullAt : GoodIn wsX5_look wsX0_pullAt := goodIn_r _ [24, 25, 26, 27, 28, 29, 34, 35, 36, 37, 38, 39, 40, 41, 42] rfl (by decide +kernel)
set_option maxRecDepth 20000 in
theorem gX5_look_X0_pullAt : GoodIn wsX5_look (wsV RX5 42 RX0 yX0_pullAt wsX0_pullAt) := goodIn_app (goodIn_r _ [20, 21, 22, 23] rfl (by decide +kernel)) ggX5_look_X0_pullAt
set_option maxRecDepth 20000 in
theorem ggX5_look_J7_fill_53178 : GoodIn wsX5_look wsJ7_fill_53178 := goodIn_r _ [33] rfl (by decide +kernel)
set_option maxRecDepth 20000 in
theorem gX5_look_J7_fill_53178 : GoodIn wsX5_look (va_wsS RX5 65 yJ7_fill_53178 wsJ7_fill_53178) := goodIn_app (goodIn_r _ [30, 31, 32] rfl (by decide +kernel)) ggX5_look_J7_fill_53178
theorem dX5_look_0 : decode cX5_look 0 = .ok (.aload_n 0, 1) := by decide +kernel
theorem dX5_look_1 : decode cX5_look 1 = .ok (.aload_n 1, 1) := by decide +kernel
theorem dX5_look_2 : decode cX5_look 2 = .ok (.getfield 37, 3) := by decide +kernel
theorem dX5_look_5 : decode cX5_look 5 = .ok (.putfield 27, 3) := by decide +kernel
theorem dX5_look_8 : decode cX5_look 8 = .ok (.aload_n 0, 1) := by decide +kernel
theorem dX5_look_9 : decode cX5_look 9 = .ok (.iload_n 2, 1) := by decide +kernel
theorem dX5_look_10 : decode cX5_look 10 = .ok (.putfield 31, 3) := by decide +kernel
theorem dX5_look_13 : decode cX5_look 13 = .ok (.aload_n 0, 1) := by decide +kernel
theorem dX5_look_14 : decode cX5_look 14 = .ok (.iconst 0, 1) := by decide +kernel
theorem dX5_look_15 : decode cX5_look 15 = .ok (.putfield 34, 3) := by decide +kernel
theorem dX5_look_18 : decode cX5_look 18 = .ok (.iconst 0, 1) := by decide +kernel
theorem dX5_look_19 : decode cX5_look 19 = .ok (.istore 4, 2) := by decide +kernel
theorem dX5_look_21 : decode cX5_look 21 = .ok (.iload 4, 2) := by decide +kernel
theorem dX5_look_23 : decode cX5_look 23 = .ok (.aload_n 0, 1) := by decide +kernel
theorem dX5_look_24 : decode cX5_look 24 = .ok (.getfield 27, 3) := by decide +kernel
theorem dX5_look_27 : decode cX5_look 27 = .ok (.if_icmp .ge 95, 3) := by decide +kernel
theorem dX5_look_30 : decode cX5_look 30 = .ok (.iload 4, 2) := by decide +kernel
theorem dX5_look_32 : decode cX5_look 32 = .ok (.bipush 8, 2) := by decide +kernel
theorem dX5_look_34 : decode cX5_look 34 = .ok (.if_icmp .ge 88, 3) := by decide +kernel
theorem dX5_look_37 : decode cX5_look 37 = .ok (.aload_n 1, 1) := by decide +kernel
theorem dX5_look_38 : decode cX5_look 38 = .ok (.iload 4, 2) := by decide +kernel
theorem dX5_look_40 : decode cX5_look 40 = .ok (.invokevirtual 42, 3) := by decide +kernel
theorem dX5_look_43 : decode cX5_look 43 = .ok (.astore 5, 2) := by decide +kernel
theorem dX5_look_45 : decode cX5_look 45 = .ok (.aload 5, 2) := by decide +kernel
theorem dX5_look_47 : decode cX5_look 47 = .ok (.ifnull 20, 3) := by decide +kernel
theorem dX5_look_50 : decode cX5_look 50 = .ok (.iload_n 3, 1) := by decide +kernel
theorem dX5_look_51 : decode cX5_look 51 = .ok (.ifCond .ne 12, 3) := by decide +kernel
theorem dX5_look_54 : decode cX5_look 54 = .ok (.aload 5, 2) := by decide +kernel
theorem dX5_look_56 : decode cX5_look 56 = .ok (.getfield 46, 3) := by decide +kernel
theorem dX5_look_59 : decode cX5_look 59 = .ok (.iconst 5, 1) := by decide +kernel
theorem dX5_look_60 : decode cX5_look 60 = .ok (.if_icmp .eq 7, 3) := by decide +kernel
theorem dX5_look_63 : decode cX5_look 63 = .ok (.iconst 1, 1) := by decide +kernel
theorem dX5_look_64 : decode cX5_look 64 = .ok (.goto 4, 3) := by decide +kernel
theorem dX5_look_67 : decode cX5_look 67 = .ok (.iconst 0, 1) := by decide +kernel
theorem dX5_look_68 : decode cX5_look 68 = .ok (.istore 6, 2) := by decide +kernel
theorem dX5_look_70 : decode cX5_look 70 = .ok (.aload_n 0, 1) := by decide +kernel
theorem dX5_look_71 : decode cX5_look 71 = .ok (.getfield 23, 3) := by decide +kernel
theorem dX5_look_74 : decode cX5_look 74 = .ok (.iload 4, 2) := by decide +kernel
theorem dX5_look_76 : decode cX5_look 76 = .ok (.iload 6, 2) := by decide +kernel
theorem dX5_look_78 : decode cX5_look 78 = .ok (.ifCond .eq 8, 3) := by decide +kernel
theorem dX5_look_81 : decode cX5_look 81 = .ok (.aload 5, 2) := by decide +kernel
theorem dX5_look_83 : decode cX5_look 83 = .ok (.goto 4, 3) := by decide +kernel
theorem dX5_look_86 : decode cX5_look 86 = .ok (.aconst_null, 1) := by decide +kernel
theorem dX5_look_87 : decode cX5_look 87 = .ok (.aastore, 1) := by decide +kernel
theorem dX5_look_88 : decode cX5_look 88 = .ok (.aload_n 0, 1) := by decide +kernel
theorem dX5_look_89 : decode cX5_look 89 = .ok (.iload 6, 2) := by decide +kernel
theorem dX5_look_91 : decode cX5_look 91 = .ok (.ifCond .eq 18, 3) := by decide +kernel
theorem dX5_look_94 : decode cX5_look 94 = .ok (.aload_n 0, 1) := by decide +kernel
theorem dX5_look_95 : decode cX5_look 95 = .ok (.getfield 34, 3) := by decide +kernel
theorem dX5_look_98 : decode cX5_look 98 = .ok (.aload 5, 2) := by decide +kernel
theorem dX5_look_100 : decode cX5_look 100 = .ok (.getfield 49, 3) := by decide +kernel
theorem dX5_look_103 : decode cX5_look 103 = .ok (.invokestatic 52, 3) := by decide +kernel
theorem dX5_look_106 : decode cX5_look 106 = .ok (.goto 7, 3) := by decide +kernel
theorem dX5_look_109 : decode cX5_look 109 = .ok (.aload_n 0, 1) := by decide +kernel
theorem dX5_look_110 : decode cX5_look 110 = .ok (.getfield 34, 3) := by decide +kernel
theorem dX5_look_113 : decode cX5_look 113 = .ok (.putfield 34, 3) := by decide +kernel
theorem dX5_look_116 : decode cX5_look 116 = .ok (.iinc 4 1, 3) := by decide +kernel
theorem dX5_look_119 : decode cX5_look 119 = .ok (.goto (-98), 3) := by decide +kernel
theorem dX5_look_122 : decode cX5_look 122 = .ok (.aload_n 1, 1) := by decide +kernel
theorem dX5_look_123 : decode cX5_look 123 = .ok (.getfield 58, 3) := by decide +kernel
theorem dX5_look_126 : decode cX5_look 126 = .ok (.iconst 0, 1) := by decide +kernel
theorem dX5_look_127 : decode cX5_look 127 = .ok (.aload_n 0, 1) := by decide +kernel
theorem dX5_look_128 : decode cX5_look 128 = .ok (.getfield 18, 3) := by decide +kernel
theorem dX5_look_131 : decode cX5_look 131 = .ok (.iconst 0, 1) := by decide +kernel
theorem dX5_look_132 : decode cX5_look 132 = .ok (.iconst 3, 1) := by decide +kernel
theorem dX5_look_133 : decode cX5_look 133 = .ok (.invokestatic 59, 3) := by decide +kernel
theorem dX5_look_136 : decode cX5_look 136 = .ok (.aload_n 0, 1) := by decide +kernel
theorem dX5_look_137 : decode cX5_look 137 = .ok (.getfield 9, 3) := by decide +kernel
theorem dX5_look_140 : decode cX5_look 140 = .ok (.iconst (-1), 1) := by decide +kernel
theorem dX5_look_141 : decode cX5_look 141 = .ok (.invokestatic 65, 3) := by decide +kernel
theorem dX5_look_144 : decode cX5_look 144 = .ok (.aload_n 0, 1) := by decide +kernel
theorem dX5_look_145 : decode cX5_look 145 = .ok (.getfield 15, 3) := by decide +kernel
theorem dX5_look_148 : decode cX5_look 148 = .ok (.iconst (-1), 1) := by decide +kernel
theorem dX5_look_149 : decode cX5_look 149 = .ok (.invokestatic 65, 3) := by decide +kernel
theorem dX5_look_152 : decode cX5_look 152 = .ok (.return_, 1) := by decide +kernel
theorem dJ7_fill_53178_0 : decode cJ7_fill_53178 0 = .ok (.iconst 0, 1) := by decide +kernel
theorem dJ7_fill_53178_1 : decode cJ7_fill_53178 1 = .ok (.istore_n 2, 1) := by decide +kernel
theorem dJ7_fill_53178_2 : decode cJ7_fill_53178 2 = .ok (.aload_n 0, 1) := by decide +kernel
theorem dJ7_fill_53178_3 : decode cJ7_fill_53178 3 = .ok (.arraylength, 1) := by decide +kernel
theorem dJ7_fill_53178_4 : decode cJ7_fill_53178 4 = .ok (.istore_n 3, 1) := by decide +kernel
theorem dJ7_fill_53178_5 : decode cJ7_fill_53178 5 = .ok (.iload_n 2, 1) := by decide +kernel
theorem dJ7_fill_53178_6 : decode cJ7_fill_53178 6 = .ok (.iload_n 3, 1) := by decide +kernel
theorem dJ7_fill_53178_7 : decode cJ7_fill_53178 7 = .ok (.if_icmp .ge 13, 3) := by decide +kernel
theorem dJ7_fill_53178_10 : decode cJ7_fill_53178 10 = .ok (.aload_n 0, 1) := by decide +kernel
theorem dJ7_fill_53178_11 : decode cJ7_fill_53178 11 = .ok (.iload_n 2, 1) := by decide +kernel
theorem dJ7_fill_53178_12 : decode cJ7_fill_53178 12 = .ok (.iload_n 1, 1) := by decide +kernel
theorem dJ7_fill_53178_13 : decode cJ7_fill_53178 13 = .ok (.iastore, 1) := by decide +kernel
theorem dJ7_fill_53178_14 : decode cJ7_fill_53178 14 = .ok (.iinc 2 1, 3) := by decide +kernel
theorem dJ7_fill_53178_17 : decode cJ7_fill_53178 17 = .ok (.goto (-12), 3) := by decide +kernel
theorem dJ7_fill_53178_20 : decode cJ7_fill_53178 20 = .ok (.return_, 1) := by decide +kernel

