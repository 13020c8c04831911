def wsX4_hasSpan : List Cond := (.code yX4_hasSpan cX4_hasSpan 3 (some .boolean)) :: (.fieldLink RX4 19 "TheLiningsInIt$Shelf" "size" "I") :: wsX40
def wsX4_tells : List Cond := (.code yX4_tells cX4_tells 2 (some .int)) :: (.fieldLink RX4 9 "TheLiningsInIt$Shelf" "elements" "[J") :: (.methodLink RX4 36 yX4_hasSpan) :: (.instanceMethod yX4_hasSpan) :: (.selects RX4 yX4_hasSpan yX4_hasSpan) :: (.initialized RX4) :: (.code yX4_hasSpan cX4_hasSpan 3 (some .boolean)) :: (.fieldLink RX4 19 "TheLiningsInIt$Shelf" "size" "I") :: wsX40
def wsX4_noRow : List Cond := (.code yX4_noRow cX4_noRow 1 (some .int)) :: (.fieldLink RX4 15 "TheLiningsInIt$Shelf" "held" "I") :: wsX40
def wsX4_tellsWithin : List Cond := (.code yX4_tellsWithin cX4_tellsWithin 5 (some .boolean)) :: (.methodLink RX4 40 yX4_tells) :: (.instanceMethod yX4_tells) :: (.selects RX4 yX4_tells yX4_tells) :: (.initialized RX4) :: (.code yX4_tells cX4_tells 2 (some .int)) :: (.fieldLink RX4 9 "TheLiningsInIt$Shelf" "elements" "[J") :: (.methodLink RX4 36 yX4_hasSpan) :: (.instanceMethod yX4_hasSpan) :: (.selects RX4 yX4_hasSpan yX4_hasSpan) :: (.code yX4_hasSpan cX4_hasSpan 3 (some .boolean)) :: (.fieldLink RX4 19 "TheLiningsInIt$Shelf" "size" "I") :: (.static yX7_within) :: (.initialized RX7) :: (.code yX7_within cX7_within 3 (some .boolean)) :: wsX40
def wsX4_noBelief : List Cond := (.code yX4_noBelief cX4_noBelief 2 (some .int)) :: (.fieldLink RX4 19 "TheLiningsInIt$Shelf" "size" "I") :: (.methodLink RX4 28 yX4_noRow) :: (.instanceMethod yX4_noRow) :: (.selects RX4 yX4_noRow yX4_noRow) :: (.initialized RX4) :: (.code yX4_noRow cX4_noRow 1 (some .int)) :: (.fieldLink RX4 15 "TheLiningsInIt$Shelf" "held" "I") :: (.methodLink RX4 32 yX4_tellsWithin) :: (.instanceMethod yX4_tellsWithin) :: (.selects RX4 yX4_tellsWithin yX4_tellsWithin) :: (.code yX4_tellsWithin cX4_tellsWithin 5 (some .boolean)) :: (.methodLink RX4 40 yX4_tells) :: (.instanceMethod yX4_tells) :: (.selects RX4 yX4_tells yX4_tells) :: (.code yX4_tells cX4_tells 2 (some .int)) :: (.fieldLink RX4 9 "TheLiningsInIt$Shelf" "elements" "[J") :: (.methodLink RX4 36 yX4_hasSpan) :: (.instanceMethod yX4_hasSpan) :: (.selects RX4 yX4_hasSpan yX4_hasSpan) :: (.code yX4_hasSpan cX4_hasSpan 3 (some .boolean)) :: (.static yX7_within) :: (.initialized RX7) :: (.code yX7_within cX7_within 3 (some .boolean)) :: wsX40
def wsX4_noTelling : List Cond := (.code yX4_noTelling cX4_noTelling 3 (some .int)) :: (.fieldLink RX4 19 "TheLiningsInIt$Shelf" "size" "I") :: (.methodLink RX4 28 yX4_noRow) :: (.instanceMethod yX4_noRow) :: (.selects RX4 yX4_noRow yX4_noRow) :: (.initialized RX4) :: (.code yX4_noRow cX4_noRow 1 (some .int)) :: (.fieldLink RX4 15 "TheLiningsInIt$Shelf" "held" "I") :: wsX40
theorem dX4_noRow_0 : decode cX4_noRow 0 = .ok (.aload_n 0, 1) := by decide +kernel
theorem dX4_noRow_1 : decode cX4_noRow 1 = .ok (.getfield 15, 3) := by decide +kernel
theorem dX4_noRow_4 : decode cX4_noRow 4 = .ok (.bipush 100, 2) := by decide +kernel
theorem dX4_noRow_6 : decode cX4_noRow 6 = .ok (.if_icmp .lt 5, 3) := by decide +kernel
theorem dX4_noRow_9 : decode cX4_noRow 9 = .ok (.iconst 0, 1) := by decide +kernel
theorem dX4_noRow_10 : decode cX4_noRow 10 = .ok (.ireturn, 1) := by decide +kernel
theorem dX4_noRow_11 : decode cX4_noRow 11 = .ok (.aload_n 0, 1) := by decide +kernel
theorem dX4_noRow_12 : decode cX4_noRow 12 = .ok (.getfield 15, 3) := by decide +kernel
theorem dX4_noRow_15 : decode cX4_noRow 15 = .ok (.iconst (-1), 1) := by decide +kernel
theorem dX4_noRow_16 : decode cX4_noRow 16 = .ok (.if_icmp .ne 7, 3) := by decide +kernel
theorem dX4_noRow_19 : decode cX4_noRow 19 = .ok (.iconst 3, 1) := by decide +kernel
theorem dX4_noRow_20 : decode cX4_noRow 20 = .ok (.goto 4, 3) := by decide +kernel
theorem dX4_noRow_23 : decode cX4_noRow 23 = .ok (.iconst 2, 1) := by decide +kernel
theorem dX4_noRow_24 : decode cX4_noRow 24 = .ok (.ireturn, 1) := by decide +kernel
set_option maxRecDepth 20000 in
theorem ggX4_noBelief_X4_noRow : GoodIn wsX4_noBelief wsX4_noRow := goodIn_r _ [6, 7, 24, 25, 26] rfl (by decide +kernel)
set_option maxRecDepth 20000 in
theorem gX4_noBelief_X4_noRow : GoodIn wsX4_noBelief (wsV RX4 28 RX4 yX4_noRow wsX4_noRow) := goodIn_app (goodIn_r _ [2, 3, 4, 5] rfl (by decide +kernel)) ggX4_noBelief_X4_noRow
set_option maxRecDepth 20000 in
theorem ggX4_noBelief_X4_tellsWithin : GoodIn wsX4_noBelief wsX4_tellsWithin := goodIn_r _ [11, 12, 13, 14, 5, 15, 16, 17, 18, 19, 20, 1, 21, 22, 23, 24, 25, 26] rfl (by decide +kernel)
set_option maxRecDepth 20000 in
theorem gX4_noBelief_X4_tellsWithin : GoodIn wsX4_noBelief (wsV RX4 32 RX4 yX4_tellsWithin wsX4_tellsWithin) := goodIn_app (goodIn_r _ [8, 9, 10, 5] rfl (by decide +kernel)) ggX4_noBelief_X4_tellsWithin
theorem dX4_noBelief_0 : decode cX4_noBelief 0 = .ok (.aload_n 0, 1) := by decide +kernel
theorem dX4_noBelief_1 : decode cX4_noBelief 1 = .ok (.invokevirtual 28, 3) := by decide +kernel
theorem dX4_noBelief_4 : decode cX4_noBelief 4 = .ok (.istore_n 1, 1) := by decide +kernel
theorem dX4_noBelief_5 : decode cX4_noBelief 5 = .ok (.iload_n 1, 1) := by decide +kernel
theorem dX4_noBelief_6 : decode cX4_noBelief 6 = .ok (.ifCond .eq 5, 3) := by decide +kernel
theorem dX4_noBelief_9 : decode cX4_noBelief 9 = .ok (.iload_n 1, 1) := by decide +kernel
theorem dX4_noBelief_10 : decode cX4_noBelief 10 = .ok (.ireturn, 1) := by decide +kernel
theorem dX4_noBelief_11 : decode cX4_noBelief 11 = .ok (.aload_n 0, 1) := by decide +kernel
theorem dX4_noBelief_12 : decode cX4_noBelief 12 = .ok (.getfield 19, 3) := by decide +kernel
theorem dX4_noBelief_15 : decode cX4_noBelief 15 = .ok (.bipush 25, 2) := by decide +kernel
theorem dX4_noBelief_17 : decode cX4_noBelief 17 = .ok (.if_icmp .ge 5, 3) := by decide +kernel
theorem dX4_noBelief_20 : decode cX4_noBelief 20 = .ok (.iconst 5, 1) := by decide +kernel
theorem dX4_noBelief_21 : decode cX4_noBelief 21 = .ok (.ireturn, 1) := by decide +kernel
theorem dX4_noBelief_22 : decode cX4_noBelief 22 = .ok (.aload_n 0, 1) := by decide +kernel
theorem dX4_noBelief_23 : decode cX4_noBelief 23 = .ok (.bipush 25, 2) := by decide +kernel
theorem dX4_noBelief_25 : decode cX4_noBelief 25 = .ok (.iconst 0, 1) := by decide +kernel
theorem dX4_noBelief_26 : decode cX4_noBelief 26 = .ok (.bipush 99, 2) := by decide +kernel
theorem dX4_noBelief_28 : decode cX4_noBelief 28 = .ok (.invokevirtual 32, 3) := by decide +kernel
theorem dX4_noBelief_31 : decode cX4_noBelief 31 = .ok (.ifCond .eq 7, 3) := by decide +kernel
theorem dX4_noBelief_34 : decode cX4_noBelief 34 = .ok (.iconst 0, 1) := by decide +kernel
theorem dX4_noBelief_35 : decode cX4_noBelief 35 = .ok (.goto 5, 3) := by decide +kernel
theorem dX4_noBelief_38 : decode cX4_noBelief 38 = .ok (.bipush 6, 2) := by decide +kernel
theorem dX4_noBelief_40 : decode cX4_noBelief 40 = .ok (.ireturn, 1) := by decide +kernel
set_option maxRecDepth 20000 in
theorem ggX4_noTelling_X4_noRow : GoodIn wsX4_noTelling wsX4_noRow := goodIn_r _ [6, 7, 8, 9, 10] rfl (by decide +kernel)
set_option maxRecDepth 20000 in
theorem gX4_noTelling_X4_noRow : GoodIn wsX4_noTelling (wsV RX4 28 RX4 yX4_noRow wsX4_noRow) := goodIn_app (goodIn_r _ [2, 3, 4, 5] rfl (by decide +kernel)) ggX4_noTelling_X4_noRow
theorem dX4_noTelling_0 : decode cX4_noTelling 0 = .ok (.aload_n 0, 1) := by decide +kernel
theorem dX4_noTelling_1 : decode cX4_noTelling 1 = .ok (.invokevirtual 28, 3) := by decide +kernel
theorem dX4_noTelling_4 : decode cX4_noTelling 4 = .ok (.istore_n 2, 1) := by decide +kernel
theorem dX4_noTelling_5 : decode cX4_noTelling 5 = .ok (.iload_n 2, 1) := by decide +kernel
theorem dX4_noTelling_6 : decode cX4_noTelling 6 = .ok (.ifCond .eq 5, 3) := by decide +kernel
theorem dX4_noTelling_9 : decode cX4_noTelling 9 = .ok (.iload_n 2, 1) := by decide +kernel
theorem dX4_noTelling_10 : decode cX4_noTelling 10 = .ok (.ireturn, 1) := by decide +kernel
theorem dX4_noTelling_11 : decode cX4_noTelling 11 = .ok (.iload_n 1, 1) := by decide +kernel
theorem dX4_noTelling_12 : decode cX4_noTelling 12 = .ok (.ifCond .ge 5, 3) := by decide +kernel
theorem dX4_noTelling_15 : decode cX4_noTelling 15 = .ok (.iconst 4, 1) := by decide +kernel
theorem dX4_noTelling_16 : decode cX4_noTelling 16 = .ok (.ireturn, 1) := by decide +kernel
theorem dX4_noTelling_17 : decode cX4_noTelling 17 = .ok (.iload_n 1, 1) := by decide +kernel
theorem dX4_noTelling_18 : decode cX4_noTelling 18 = .ok (.aload_n 0, 1) := by decide +kernel
theorem dX4_noTelling_19 : decode cX4_noTelling 19 = .ok (.getfield 19, 3) := by decide +kernel
theorem dX4_noTelling_22 : decode cX4_noTelling 22 = .ok (.if_icmp .le 7, 3) := by decide +kernel
theorem dX4_noTelling_25 : decode cX4_noTelling 25 = .ok (.iconst 5, 1) := by decide +kernel
theorem dX4_noTelling_26 : decode cX4_noTelling 26 = .ok (.goto 4, 3) := by decide +kernel
theorem dX4_noTelling_29 : decode cX4_noTelling 29 = .ok (.iconst 0, 1) := by decide +kernel
theorem dX4_noTelling_30 : decode cX4_noTelling 30 = .ok (.ireturn, 1) := by decide +kernel
theorem dX4_hasSpan_0 : decode cX4_hasSpan 0 = .ok (.iload_n 1, 1) := by decide +kernel
theorem dX4_hasSpan_1 : decode cX4_hasSpan 1 = .ok (.ifCond .lt 29, 3) := by decide +kernel
theorem dX4_hasSpan_4 : decode cX4_hasSpan 4 = .ok (.iload_n 2, 1) := by decide +kernel
theorem dX4_hasSpan_5 : decode cX4_hasSpan 5 = .ok (.ifCond .lt 25, 3) := by decide +kernel
theorem dX4_hasSpan_8 : decode cX4_hasSpan 8 = .ok (.iload_n 2, 1) := by decide +kernel
theorem dX4_hasSpan_9 : decode cX4_hasSpan 9 = .ok (.aload_n 0, 1) := by decide +kernel
theorem dX4_hasSpan_10 : decode cX4_hasSpan 10 = .ok (.getfield 19, 3) := by decide +kernel
theorem dX4_hasSpan_13 : decode cX4_hasSpan 13 = .ok (.if_icmp .gt 17, 3) := by decide +kernel
theorem dX4_hasSpan_16 : decode cX4_hasSpan 16 = .ok (.iload_n 1, 1) := by decide +kernel
theorem dX4_hasSpan_17 : decode cX4_hasSpan 17 = .ok (.aload_n 0, 1) := by decide +kernel
theorem dX4_hasSpan_18 : decode cX4_hasSpan 18 = .ok (.getfield 19, 3) := by decide +kernel
theorem dX4_hasSpan_21 : decode cX4_hasSpan 21 = .ok (.iload_n 2, 1) := by decide +kernel
theorem dX4_hasSpan_22 : decode cX4_hasSpan 22 = .ok (.isub, 1) := by decide +kernel
theorem dX4_hasSpan_23 : decode cX4_hasSpan 23 = .ok (.if_icmp .gt 7, 3) := by decide +kernel
theorem dX4_hasSpan_26 : decode cX4_hasSpan 26 = .ok (.iconst 1, 1) := by decide +kernel
theorem dX4_hasSpan_27 : decode cX4_hasSpan 27 = .ok (.goto 4, 3) := by decide +kernel
theorem dX4_hasSpan_30 : decode cX4_hasSpan 30 = .ok (.iconst 0, 1) := by decide +kernel
theorem dX4_hasSpan_31 : decode cX4_hasSpan 31 = .ok (.ireturn, 1) := by decide +kernel
set_option maxRecDepth 20000 in
theorem ggX4_tells_X4_hasSpan : GoodIn wsX4_tells wsX4_hasSpan := goodIn_r _ [6, 7, 8, 9, 10] rfl (by decide +kernel)
set_option maxRecDepth 20000 in
theorem gX4_tells_X4_hasSpan : GoodIn wsX4_tells (wsV RX4 36 RX4 yX4_hasSpan wsX4_hasSpan) := goodIn_app (goodIn_r _ [2, 3, 4, 5] rfl (by decide +kernel)) ggX4_tells_X4_hasSpan
theorem dX4_tells_0 : decode cX4_tells 0 = .ok (.aload_n 0, 1) := by decide +kernel
theorem dX4_tells_1 : decode cX4_tells 1 = .ok (.iload_n 1, 1) := by decide +kernel
theorem dX4_tells_2 : decode cX4_tells 2 = .ok (.iconst 1, 1) := by decide +kernel
theorem dX4_tells_3 : decode cX4_tells 3 = .ok (.invokevirtual 36, 3) := by decide +kernel
theorem dX4_tells_6 : decode cX4_tells 6 = .ok (.ifCond .eq 13, 3) := by decide +kernel
theorem dX4_tells_9 : decode cX4_tells 9 = .ok (.aload_n 0, 1) := by decide +kernel
theorem dX4_tells_10 : decode cX4_tells 10 = .ok (.getfield 9, 3) := by decide +kernel
theorem dX4_tells_13 : decode cX4_tells 13 = .ok (.iload_n 1, 1) := by decide +kernel
theorem dX4_tells_14 : decode cX4_tells 14 = .ok (.laload, 1) := by decide +kernel
theorem dX4_tells_15 : decode cX4_tells 15 = .ok (.l2i, 1) := by decide +kernel
theorem dX4_tells_16 : decode cX4_tells 16 = .ok (.goto 4, 3) := by decide +kernel
theorem dX4_tells_19 : decode cX4_tells 19 = .ok (.iconst 0, 1) := by decide +kernel
theorem dX4_tells_20 : decode cX4_tells 20 = .ok (.ireturn, 1) := by decide +kernel
set_option maxRecDepth 20000 in
theorem ggX4_tellsWithin_X4_tells : GoodIn wsX4_tellsWithin wsX4_tells := goodIn_r _ [5, 6, 7, 8, 9, 4, 10, 11, 15, 16, 17] rfl (by decide +kernel)
set_option maxRecDepth 20000 in
theorem gX4_tellsWithin_X4_tells : GoodIn wsX4_tellsWithin (wsV RX4 40 RX4 yX4_tells wsX4_tells) := goodIn_app (goodIn_r _ [1, 2, 3, 4] rfl (by decide +kernel)) ggX4_tellsWithin_X4_tells
set_option maxRecDepth 20000 in
theorem ggX4_tellsWithin_X7_within : GoodIn wsX4_tellsWithin wsX7_within := goodIn_r _ [14] rfl (by decide +kernel)
set_option maxRecDepth 20000 in
theorem gX4_tellsWithin_X7_within_n44 : GoodIn wsX4_tellsWithin (wsX7_within) := ggX4_tellsWithin_X7_within
theorem dX4_tellsWithin_0 : decode cX4_tellsWithin 0 = .ok (.iconst 0, 1) := by decide +kernel
theorem dX4_tellsWithin_1 : decode cX4_tellsWithin 1 = .ok (.istore 4, 2) := by decide +kernel
theorem dX4_tellsWithin_3 : decode cX4_tellsWithin 3 = .ok (.iload 4, 2) := by decide +kernel
theorem dX4_tellsWithin_5 : decode cX4_tellsWithin 5 = .ok (.iload_n 1, 1) := by decide +kernel
theorem dX4_tellsWithin_6 : decode cX4_tellsWithin 6 = .ok (.if_icmp .ge 25, 3) := by decide +kernel
theorem dX4_tellsWithin_9 : decode cX4_tellsWithin 9 = .ok (.aload_n 0, 1) := by decide +kernel
theorem dX4_tellsWithin_10 : decode cX4_tellsWithin 10 = .ok (.iload 4, 2) := by decide +kernel
theorem dX4_tellsWithin_12 : decode cX4_tellsWithin 12 = .ok (.invokevirtual 40, 3) := by decide +kernel
theorem dX4_tellsWithin_15 : decode cX4_tellsWithin 15 = .ok (.iload_n 2, 1) := by decide +kernel
theorem dX4_tellsWithin_16 : decode cX4_tellsWithin 16 = .ok (.iload_n 3, 1) := by decide +kernel
theorem dX4_tellsWithin_17 : decode cX4_tellsWithin 17 = .ok (.invokestatic 44, 3) := by decide +kernel
theorem dX4_tellsWithin_20 : decode cX4_tellsWithin 20 = .ok (.ifCond .ne 5, 3) := by decide +kernel
theorem dX4_tellsWithin_23 : decode cX4_tellsWithin 23 = .ok (.iconst 0, 1) := by decide +kernel
theorem dX4_tellsWithin_24 : decode cX4_tellsWithin 24 = .ok (.ireturn, 1) := by decide +kernel
theorem dX4_tellsWithin_25 : decode cX4_tellsWithin 25 = .ok (.iinc 4 1, 3) := by decide +kernel
theorem dX4_tellsWithin_28 : decode cX4_tellsWithin 28 = .ok (.goto (-25), 3) := by decide +kernel
theorem dX4_tellsWithin_31 : decode cX4_tellsWithin 31 = .ok (.iconst 1, 1) := by decide +kernel
theorem dX4_tellsWithin_32 : decode cX4_tellsWithin 32 = .ok (.ireturn, 1) := by decide +kernel

