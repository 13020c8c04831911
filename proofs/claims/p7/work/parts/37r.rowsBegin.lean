def wsX1_begin_r1 : List Cond := (Cond.fieldLink RX1 28 "TheLiningsInIt$Pull" "kind" "I") :: (Cond.fieldLink RX1 19 "TheLiningsInIt$Moves" "kind" "I") :: (Cond.fieldLink RX1 22 "TheLiningsInIt$Moves" "m" "I") :: (Cond.fieldLink RX1 31 "TheLiningsInIt$Pull" "a" "I") :: (Cond.fieldLink RX1 25 "TheLiningsInIt$Moves" "k" "I") :: (Cond.methodLink RX1 34 yX1_run) :: (Cond.instanceMethod yX1_run) :: (Cond.selects RX1 yX1_run yX1_run) :: (Cond.initialized RX1) :: (Cond.code yX1_run cX1_run 7 (some .int)) :: (Cond.methodLink RX1 48 yX1_bodyFor) :: (Cond.static yX1_bodyFor) :: (Cond.code yX1_bodyFor cX1_bodyFor 5 (some .int)) :: (Cond.static yX7_within) :: (Cond.initialized RX7) :: (Cond.code yX7_within cX7_within 3 (some .boolean)) :: (Cond.methodLink RX1 55 yX1_ownBody) :: (Cond.static yX1_ownBody) :: (Cond.code yX1_ownBody cX1_ownBody 2 (some .int)) :: (Cond.methodLink RX1 51 yX1_note) :: (Cond.instanceMethod yX1_note) :: (Cond.selects RX1 yX1_note yX1_note) :: (Cond.code yX1_note cX1_note 2 none) :: (Cond.fieldLink RX1 15 "TheLiningsInIt$Moves" "ran" "I") :: []
def wsX1_begin_r2 : List Cond := (Cond.fieldLink RX1 11 "TheLiningsInIt$Moves" "bodies" "[I") :: []
def wsX1_begin : List Cond := (.code yX1_begin cX1_begin 5 (some .int)) :: ((wsX1_begin_r1 ++ wsX1_begin_r2) ++ wsX20 ++ wsX10)
set_option maxRecDepth 20000 in
theorem ggX1_begin_X1_run : GoodIn wsX1_begin wsX1_run := goodIn_r _ [10, 3, 2, 5, 11, 12, 9, 13, 14, 15, 16, 17, 18, 19, 20, 21, 22, 23, 24, 25, 6, 7, 8, 29, 30, 31, 32, 33] rfl (by decide +kernel)
set_option maxRecDepth 20000 in
theorem gX1_begin_X1_run : GoodIn wsX1_begin (wsV RX1 34 RX1 yX1_run wsX1_run) := goodIn_app (goodIn_r _ [6, 7, 8, 9] rfl (by decide +kernel)) ggX1_begin_X1_run
theorem dX1_begin_0 : decode cX1_begin 0 = .ok (.aload_n 0, 1) := by decide +kernel
theorem dX1_begin_1 : decode cX1_begin 1 = .ok (.aload_n 1, 1) := by decide +kernel
theorem dX1_begin_2 : decode cX1_begin 2 = .ok (.getfield 28, 3) := by decide +kernel
theorem dX1_begin_5 : decode cX1_begin 5 = .ok (.putfield 19, 3) := by decide +kernel
theorem dX1_begin_8 : decode cX1_begin 8 = .ok (.aload_n 0, 1) := by decide +kernel
theorem dX1_begin_9 : decode cX1_begin 9 = .ok (.iload_n 2, 1) := by decide +kernel
theorem dX1_begin_10 : decode cX1_begin 10 = .ok (.putfield 22, 3) := by decide +kernel
theorem dX1_begin_13 : decode cX1_begin 13 = .ok (.aload_n 0, 1) := by decide +kernel
theorem dX1_begin_14 : decode cX1_begin 14 = .ok (.aload_n 1, 1) := by decide +kernel
theorem dX1_begin_15 : decode cX1_begin 15 = .ok (.getfield 31, 3) := by decide +kernel
theorem dX1_begin_18 : decode cX1_begin 18 = .ok (.putfield 25, 3) := by decide +kernel
theorem dX1_begin_21 : decode cX1_begin 21 = .ok (.aload_n 0, 1) := by decide +kernel
theorem dX1_begin_22 : decode cX1_begin 22 = .ok (.aload_n 0, 1) := by decide +kernel
theorem dX1_begin_23 : decode cX1_begin 23 = .ok (.getfield 19, 3) := by decide +kernel
theorem dX1_begin_26 : decode cX1_begin 26 = .ok (.iload_n 3, 1) := by decide +kernel
theorem dX1_begin_27 : decode cX1_begin 27 = .ok (.iload 4, 2) := by decide +kernel
theorem dX1_begin_29 : decode cX1_begin 29 = .ok (.iconst 0, 1) := by decide +kernel
theorem dX1_begin_30 : decode cX1_begin 30 = .ok (.invokevirtual 34, 3) := by decide +kernel
theorem dX1_begin_33 : decode cX1_begin 33 = .ok (.ireturn, 1) := by decide +kernel

