def wsX6_become : List Cond := (.code yX6_become cX6_become 3 none) :: (.fieldLink RX6 9 "TheLiningsInIt$Zip" "lacking" "[Z") :: (.fieldLink RX6 15 "TheLiningsInIt$Zip" "slacks" "[I") :: (.fieldLink RX6 19 "TheLiningsInIt$Zip" "size" "I") :: (.fieldLink RX6 23 "TheLiningsInIt$Zip" "at" "I") :: (.fieldLink RX6 26 "TheLiningsInIt$Zip" "gap" "I") :: wsX60
def wsX6_has : List Cond := (.code yX6_has cX6_has 2 (some .boolean)) :: (.fieldLink RX6 19 "TheLiningsInIt$Zip" "size" "I") :: wsX60
def wsX6_catchesAt : List Cond := (.code yX6_catchesAt cX6_catchesAt 2 (some .boolean)) :: (.fieldLink RX6 9 "TheLiningsInIt$Zip" "lacking" "[Z") :: (.fieldLink RX6 15 "TheLiningsInIt$Zip" "slacks" "[I") :: (.fieldLink RX6 26 "TheLiningsInIt$Zip" "gap" "I") :: (.methodLink RX6 29 yX6_has) :: (.instanceMethod yX6_has) :: (.selects RX6 yX6_has yX6_has) :: (.initialized RX6) :: (.code yX6_has cX6_has 2 (some .boolean)) :: (.fieldLink RX6 19 "TheLiningsInIt$Zip" "size" "I") :: wsX60
def wsX6_lacksAt : List Cond := (.code yX6_lacksAt cX6_lacksAt 2 (some .boolean)) :: (.fieldLink RX6 9 "TheLiningsInIt$Zip" "lacking" "[Z") :: (.methodLink RX6 29 yX6_has) :: (.instanceMethod yX6_has) :: (.selects RX6 yX6_has yX6_has) :: (.initialized RX6) :: (.code yX6_has cX6_has 2 (some .boolean)) :: (.fieldLink RX6 19 "TheLiningsInIt$Zip" "size" "I") :: wsX60
def wsX6_lacksThreeFrom : List Cond := (.code yX6_lacksThreeFrom cX6_lacksThreeFrom 2 (some .boolean)) :: (.methodLink RX6 33 yX6_lacksAt) :: (.instanceMethod yX6_lacksAt) :: (.selects RX6 yX6_lacksAt yX6_lacksAt) :: (.initialized RX6) :: (.code yX6_lacksAt cX6_lacksAt 2 (some .boolean)) :: (.fieldLink RX6 9 "TheLiningsInIt$Zip" "lacking" "[Z") :: (.methodLink RX6 29 yX6_has) :: (.instanceMethod yX6_has) :: (.selects RX6 yX6_has yX6_has) :: (.code yX6_has cX6_has 2 (some .boolean)) :: (.fieldLink RX6 19 "TheLiningsInIt$Zip" "size" "I") :: wsX60
def wsX6_renew : List Cond := (.code yX6_renew cX6_renew 3 none) :: (.fieldLink RX6 19 "TheLiningsInIt$Zip" "size" "I") :: (.fieldLink RX6 23 "TheLiningsInIt$Zip" "at" "I") :: (.fieldLink RX6 9 "TheLiningsInIt$Zip" "lacking" "[Z") :: (.fieldLink RX6 15 "TheLiningsInIt$Zip" "slacks" "[I") :: wsX60
def wsX6_isStrong : List Cond := (.code yX6_isStrong cX6_isStrong 2 (some .boolean)) :: (.fieldLink RX6 19 "TheLiningsInIt$Zip" "size" "I") :: (.methodLink RX6 36 yX6_lacksThreeFrom) :: (.instanceMethod yX6_lacksThreeFrom) :: (.selects RX6 yX6_lacksThreeFrom yX6_lacksThreeFrom) :: (.initialized RX6) :: (.code yX6_lacksThreeFrom cX6_lacksThreeFrom 2 (some .boolean)) :: (.methodLink RX6 33 yX6_lacksAt) :: (.instanceMethod yX6_lacksAt) :: (.selects RX6 yX6_lacksAt yX6_lacksAt) :: (.code yX6_lacksAt cX6_lacksAt 2 (some .boolean)) :: (.fieldLink RX6 9 "TheLiningsInIt$Zip" "lacking" "[Z") :: (.methodLink RX6 29 yX6_has) :: (.instanceMethod yX6_has) :: (.selects RX6 yX6_has yX6_has) :: (.code yX6_has cX6_has 2 (some .boolean)) :: wsX60
def wsX6_isFrail : List Cond := (.code yX6_isFrail cX6_isFrail 4 (some .boolean)) :: (.methodLink RX6 33 yX6_lacksAt) :: (.instanceMethod yX6_lacksAt) :: (.selects RX6 yX6_lacksAt yX6_lacksAt) :: (.initialized RX6) :: (.code yX6_lacksAt cX6_lacksAt 2 (some .boolean)) :: (.fieldLink RX6 9 "TheLiningsInIt$Zip" "lacking" "[Z") :: (.methodLink RX6 29 yX6_has) :: (.instanceMethod yX6_has) :: (.selects RX6 yX6_has yX6_has) :: (.code yX6_has cX6_has 2 (some .boolean)) :: (.fieldLink RX6 19 "TheLiningsInIt$Zip" "size" "I") :: wsX60
def wsX6_frailTeeth : List Cond := (.code yX6_frailTeeth cX6_frailTeeth 3 (some .int)) :: (.fieldLink RX6 19 "TheLiningsInIt$Zip" "size" "I") :: (.fieldLink RX6 9 "TheLiningsInIt$Zip" "lacking" "[Z") :: (.methodLink RX6 39 yX6_isStrong) :: (.instanceMethod yX6_isStrong) :: (.selects RX6 yX6_isStrong yX6_isStrong) :: (.initialized RX6) :: (.code yX6_isStrong cX6_isStrong 2 (some .boolean)) :: (.methodLink RX6 36 yX6_lacksThreeFrom) :: (.instanceMethod yX6_lacksThreeFrom) :: (.selects RX6 yX6_lacksThreeFrom yX6_lacksThreeFrom) :: (.code yX6_lacksThreeFrom cX6_lacksThreeFrom 2 (some .boolean)) :: (.methodLink RX6 33 yX6_lacksAt) :: (.instanceMethod yX6_lacksAt) :: (.selects RX6 yX6_lacksAt yX6_lacksAt) :: (.code yX6_lacksAt cX6_lacksAt 2 (some .boolean)) :: (.methodLink RX6 29 yX6_has) :: (.instanceMethod yX6_has) :: (.selects RX6 yX6_has yX6_has) :: (.code yX6_has cX6_has 2 (some .boolean)) :: (.methodLink RX6 43 yX6_isFrail) :: (.instanceMethod yX6_isFrail) :: (.selects RX6 yX6_isFrail yX6_isFrail) :: (.code yX6_isFrail cX6_isFrail 4 (some .boolean)) :: wsX60
def wsX6_spareTeeth : List Cond := (.code yX6_spareTeeth cX6_spareTeeth 8 (some .int)) :: (.fieldLink RX6 19 "TheLiningsInIt$Zip" "size" "I") :: (.fieldLink RX6 9 "TheLiningsInIt$Zip" "lacking" "[Z") :: (.methodLink RX6 46 Lib.Math.max.name) :: (.static Lib.Math.max.name) :: (.initialized "java/lang/Math") :: (.code Lib.Math.max.name Lib.Math.max.code 2 (some .int)) :: (.methodLink RX6 39 yX6_isStrong) :: (.instanceMethod yX6_isStrong) :: (.selects RX6 yX6_isStrong yX6_isStrong) :: (.initialized RX6) :: (.code yX6_isStrong cX6_isStrong 2 (some .boolean)) :: (.methodLink RX6 36 yX6_lacksThreeFrom) :: (.instanceMethod yX6_lacksThreeFrom) :: (.selects RX6 yX6_lacksThreeFrom yX6_lacksThreeFrom) :: (.code yX6_lacksThreeFrom cX6_lacksThreeFrom 2 (some .boolean)) :: (.methodLink RX6 33 yX6_lacksAt) :: (.instanceMethod yX6_lacksAt) :: (.selects RX6 yX6_lacksAt yX6_lacksAt) :: (.code yX6_lacksAt cX6_lacksAt 2 (some .boolean)) :: (.methodLink RX6 29 yX6_has) :: (.instanceMethod yX6_has) :: (.selects RX6 yX6_has yX6_has) :: (.code yX6_has cX6_has 2 (some .boolean)) :: wsX60
def wsX6_lackingTeeth : List Cond := (.code yX6_lackingTeeth cX6_lackingTeeth 3 (some .int)) :: (.fieldLink RX6 19 "TheLiningsInIt$Zip" "size" "I") :: (.fieldLink RX6 9 "TheLiningsInIt$Zip" "lacking" "[Z") :: wsX60
def wsX6_catchingTeeth : List Cond := (.code yX6_catchingTeeth cX6_catchingTeeth 4 (some .int)) :: (.fieldLink RX6 19 "TheLiningsInIt$Zip" "size" "I") :: (.methodLink RX6 52 yX6_catchesAt) :: (.instanceMethod yX6_catchesAt) :: (.selects RX6 yX6_catchesAt yX6_catchesAt) :: (.initialized RX6) :: (.code yX6_catchesAt cX6_catchesAt 2 (some .boolean)) :: (.fieldLink RX6 9 "TheLiningsInIt$Zip" "lacking" "[Z") :: (.fieldLink RX6 15 "TheLiningsInIt$Zip" "slacks" "[I") :: (.fieldLink RX6 26 "TheLiningsInIt$Zip" "gap" "I") :: (.methodLink RX6 29 yX6_has) :: (.instanceMethod yX6_has) :: (.selects RX6 yX6_has yX6_has) :: (.code yX6_has cX6_has 2 (some .boolean)) :: wsX60
def wsX6_stitchesNeeded : List Cond := (.code yX6_stitchesNeeded cX6_stitchesNeeded 6 (some .int)) :: (.fieldLink RX6 19 "TheLiningsInIt$Zip" "size" "I") :: (.methodLink RX6 55 Lib.Math.min.name) :: (.static Lib.Math.min.name) :: (.initialized "java/lang/Math") :: (.code Lib.Math.min.name Lib.Math.min.code 2 (some .int)) :: (.methodLink RX6 52 yX6_catchesAt) :: (.instanceMethod yX6_catchesAt) :: (.selects RX6 yX6_catchesAt yX6_catchesAt) :: (.initialized RX6) :: (.code yX6_catchesAt cX6_catchesAt 2 (some .boolean)) :: (.fieldLink RX6 9 "TheLiningsInIt$Zip" "lacking" "[Z") :: (.fieldLink RX6 15 "TheLiningsInIt$Zip" "slacks" "[I") :: (.fieldLink RX6 26 "TheLiningsInIt$Zip" "gap" "I") :: (.methodLink RX6 29 yX6_has) :: (.instanceMethod yX6_has) :: (.selects RX6 yX6_has yX6_has) :: (.code yX6_has cX6_has 2 (some .boolean)) :: wsX60
def wsX6_takeSlack : List Cond := (.code yX6_takeSlack cX6_takeSlack 4 (some .int)) :: (.fieldLink RX6 15 "TheLiningsInIt$Zip" "slacks" "[I") :: (.methodLink RX6 29 yX6_has) :: (.instanceMethod yX6_has) :: (.selects RX6 yX6_has yX6_has) :: (.initialized RX6) :: (.code yX6_has cX6_has 2 (some .boolean)) :: (.fieldLink RX6 19 "TheLiningsInIt$Zip" "size" "I") :: wsX60
def wsX6_runsTo : List Cond := (.code yX6_runsTo cX6_runsTo 2 (some .int)) :: (.fieldLink RX6 23 "TheLiningsInIt$Zip" "at" "I") :: (.fieldLink RX6 19 "TheLiningsInIt$Zip" "size" "I") :: (.methodLink RX6 52 yX6_catchesAt) :: (.instanceMethod yX6_catchesAt) :: (.selects RX6 yX6_catchesAt yX6_catchesAt) :: (.initialized RX6) :: (.code yX6_catchesAt cX6_catchesAt 2 (some .boolean)) :: (.fieldLink RX6 9 "TheLiningsInIt$Zip" "lacking" "[Z") :: (.fieldLink RX6 15 "TheLiningsInIt$Zip" "slacks" "[I") :: (.fieldLink RX6 26 "TheLiningsInIt$Zip" "gap" "I") :: (.methodLink RX6 29 yX6_has) :: (.instanceMethod yX6_has) :: (.selects RX6 yX6_has yX6_has) :: (.code yX6_has cX6_has 2 (some .boolean)) :: (.methodLink RX6 36 yX6_lacksThreeFrom) :: (.instanceMethod yX6_lacksThreeFrom) :: (.selects RX6 yX6_lacksThreeFrom yX6_lacksThreeFrom) :: (.code yX6_lacksThreeFrom cX6_lacksThreeFrom 2 (some .boolean)) :: (.methodLink RX6 33 yX6_lacksAt) :: (.instanceMethod yX6_lacksAt) :: (.selects RX6 yX6_lacksAt yX6_lacksAt) :: (.code yX6_lacksAt cX6_lacksAt 2 (some .boolean)) :: wsX60
theorem dX6_renew_0 : decode cX6_renew 0 = .ok (.aload_n 0, 1) := by decide +kernel
theorem dX6_renew_1 : decode cX6_renew 1 = .ok (.iload_n 1, 1) := by decide +kernel
theorem dX6_renew_2 : decode cX6_renew 2 = .ok (.putfield 19, 3) := by decide +kernel
theorem dX6_renew_5 : decode cX6_renew 5 = .ok (.aload_n 0, 1) := by decide +kernel
theorem dX6_renew_6 : decode cX6_renew 6 = .ok (.iconst 0, 1) := by decide +kernel
theorem dX6_renew_7 : decode cX6_renew 7 = .ok (.putfield 23, 3) := by decide +kernel
theorem dX6_renew_10 : decode cX6_renew 10 = .ok (.iconst 0, 1) := by decide +kernel
theorem dX6_renew_11 : decode cX6_renew 11 = .ok (.istore_n 2, 1) := by decide +kernel
theorem dX6_renew_12 : decode cX6_renew 12 = .ok (.iload_n 2, 1) := by decide +kernel
theorem dX6_renew_13 : decode cX6_renew 13 = .ok (.bipush 40, 2) := by decide +kernel
theorem dX6_renew_15 : decode cX6_renew 15 = .ok (.if_icmp .ge 23, 3) := by decide +kernel
theorem dX6_renew_18 : decode cX6_renew 18 = .ok (.aload_n 0, 1) := by decide +kernel
theorem dX6_renew_19 : decode cX6_renew 19 = .ok (.getfield 9, 3) := by decide +kernel
theorem dX6_renew_22 : decode cX6_renew 22 = .ok (.iload_n 2, 1) := by decide +kernel
theorem dX6_renew_23 : decode cX6_renew 23 = .ok (.iconst 0, 1) := by decide +kernel
theorem dX6_renew_24 : decode cX6_renew 24 = .ok (.bastore, 1) := by decide +kernel
theorem dX6_renew_25 : decode cX6_renew 25 = .ok (.aload_n 0, 1) := by decide +kernel
theorem dX6_renew_26 : decode cX6_renew 26 = .ok (.getfield 15, 3) := by decide +kernel
theorem dX6_renew_29 : decode cX6_renew 29 = .ok (.iload_n 2, 1) := by decide +kernel
theorem dX6_renew_30 : decode cX6_renew 30 = .ok (.iconst 0, 1) := by decide +kernel
theorem dX6_renew_31 : decode cX6_renew 31 = .ok (.iastore, 1) := by decide +kernel
theorem dX6_renew_32 : decode cX6_renew 32 = .ok (.iinc 2 1, 3) := by decide +kernel
theorem dX6_renew_35 : decode cX6_renew 35 = .ok (.goto (-23), 3) := by decide +kernel
theorem dX6_renew_38 : decode cX6_renew 38 = .ok (.return_, 1) := by decide +kernel
theorem dX6_become_0 : decode cX6_become 0 = .ok (.iconst 0, 1) := by decide +kernel
theorem dX6_become_1 : decode cX6_become 1 = .ok (.istore_n 2, 1) := by decide +kernel
theorem dX6_become_2 : decode cX6_become 2 = .ok (.iload_n 2, 1) := by decide +kernel
theorem dX6_become_3 : decode cX6_become 3 = .ok (.bipush 40, 2) := by decide +kernel
theorem dX6_become_5 : decode cX6_become 5 = .ok (.if_icmp .ge 33, 3) := by decide +kernel
theorem dX6_become_8 : decode cX6_become 8 = .ok (.aload_n 0, 1) := by decide +kernel
theorem dX6_become_9 : decode cX6_become 9 = .ok (.getfield 9, 3) := by decide +kernel
theorem dX6_become_12 : decode cX6_become 12 = .ok (.iload_n 2, 1) := by decide +kernel
theorem dX6_become_13 : decode cX6_become 13 = .ok (.aload_n 1, 1) := by decide +kernel
theorem dX6_become_14 : decode cX6_become 14 = .ok (.getfield 9, 3) := by decide +kernel
theorem dX6_become_17 : decode cX6_become 17 = .ok (.iload_n 2, 1) := by decide +kernel
theorem dX6_become_18 : decode cX6_become 18 = .ok (.baload, 1) := by decide +kernel
theorem dX6_become_19 : decode cX6_become 19 = .ok (.bastore, 1) := by decide +kernel
theorem dX6_become_20 : decode cX6_become 20 = .ok (.aload_n 0, 1) := by decide +kernel
theorem dX6_become_21 : decode cX6_become 21 = .ok (.getfield 15, 3) := by decide +kernel
theorem dX6_become_24 : decode cX6_become 24 = .ok (.iload_n 2, 1) := by decide +kernel
theorem dX6_become_25 : decode cX6_become 25 = .ok (.aload_n 1, 1) := by decide +kernel
theorem dX6_become_26 : decode cX6_become 26 = .ok (.getfield 15, 3) := by decide +kernel
theorem dX6_become_29 : decode cX6_become 29 = .ok (.iload_n 2, 1) := by decide +kernel
theorem dX6_become_30 : decode cX6_become 30 = .ok (.iaload, 1) := by decide +kernel
theorem dX6_become_31 : decode cX6_become 31 = .ok (.iastore, 1) := by decide +kernel
theorem dX6_become_32 : decode cX6_become 32 = .ok (.iinc 2 1, 3) := by decide +kernel
theorem dX6_become_35 : decode cX6_become 35 = .ok (.goto (-33), 3) := by decide +kernel
theorem dX6_become_38 : decode cX6_become 38 = .ok (.aload_n 0, 1) := by decide +kernel
theorem dX6_become_39 : decode cX6_become 39 = .ok (.aload_n 1, 1) := by decide +kernel
theorem dX6_become_40 : decode cX6_become 40 = .ok (.getfield 19, 3) := by decide +kernel
theorem dX6_become_43 : decode cX6_become 43 = .ok (.putfield 19, 3) := by decide +kernel
theorem dX6_become_46 : decode cX6_become 46 = .ok (.aload_n 0, 1) := by decide +kernel
theorem dX6_become_47 : decode cX6_become 47 = .ok (.aload_n 1, 1) := by decide +kernel
theorem dX6_become_48 : decode cX6_become 48 = .ok (.getfield 23, 3) := by decide +kernel
theorem dX6_become_51 : decode cX6_become 51 = .ok (.putfield 23, 3) := by decide +kernel
theorem dX6_become_54 : decode cX6_become 54 = .ok (.aload_n 0, 1) := by decide +kernel
theorem dX6_become_55 : decode cX6_become 55 = .ok (.aload_n 1, 1) := by decide +kernel
theorem dX6_become_56 : decode cX6_become 56 = .ok (.getfield 26, 3) := by decide +kernel
theorem dX6_become_59 : decode cX6_become 59 = .ok (.putfield 26, 3) := by decide +kernel
theorem dX6_become_62 : decode cX6_become 62 = .ok (.return_, 1) := by decide +kernel
theorem dX6_has_0 : decode cX6_has 0 = .ok (.iload_n 1, 1) := by decide +kernel
theorem dX6_has_1 : decode cX6_has 1 = .ok (.ifCond .lt 15, 3) := by decide +kernel
theorem dX6_has_4 : decode cX6_has 4 = .ok (.iload_n 1, 1) := by decide +kernel
theorem dX6_has_5 : decode cX6_has 5 = .ok (.aload_n 0, 1) := by decide +kernel
theorem dX6_has_6 : decode cX6_has 6 = .ok (.getfield 19, 3) := by decide +kernel
theorem dX6_has_9 : decode cX6_has 9 = .ok (.if_icmp .ge 7, 3) := by decide +kernel
theorem dX6_has_12 : decode cX6_has 12 = .ok (.iconst 1, 1) := by decide +kernel
theorem dX6_has_13 : decode cX6_has 13 = .ok (.goto 4, 3) := by decide +kernel
theorem dX6_has_16 : decode cX6_has 16 = .ok (.iconst 0, 1) := by decide +kernel
theorem dX6_has_17 : decode cX6_has 17 = .ok (.ireturn, 1) := by decide +kernel
set_option maxRecDepth 20000 in
theorem ggX6_lacksAt_X6_has : GoodIn wsX6_lacksAt wsX6_has := goodIn_r _ [6, 7, 8, 9, 10, 11, 12] rfl (by decide +kernel)
set_option maxRecDepth 20000 in
theorem gX6_lacksAt_X6_has : GoodIn wsX6_lacksAt (wsV RX6 29 RX6 yX6_has wsX6_has) := goodIn_app (goodIn_r _ [2, 3, 4, 5] rfl (by decide +kernel)) ggX6_lacksAt_X6_has
theorem dX6_lacksAt_0 : decode cX6_lacksAt 0 = .ok (.aload_n 0, 1) := by decide +kernel
theorem dX6_lacksAt_1 : decode cX6_lacksAt 1 = .ok (.iload_n 1, 1) := by decide +kernel
theorem dX6_lacksAt_2 : decode cX6_lacksAt 2 = .ok (.invokevirtual 29, 3) := by decide +kernel
theorem dX6_lacksAt_5 : decode cX6_lacksAt 5 = .ok (.ifCond .eq 16, 3) := by decide +kernel
theorem dX6_lacksAt_8 : decode cX6_lacksAt 8 = .ok (.aload_n 0, 1) := by decide +kernel
theorem dX6_lacksAt_9 : decode cX6_lacksAt 9 = .ok (.getfield 9, 3) := by decide +kernel
theorem dX6_lacksAt_12 : decode cX6_lacksAt 12 = .ok (.iload_n 1, 1) := by decide +kernel
theorem dX6_lacksAt_13 : decode cX6_lacksAt 13 = .ok (.baload, 1) := by decide +kernel
theorem dX6_lacksAt_14 : decode cX6_lacksAt 14 = .ok (.ifCond .eq 7, 3) := by decide +kernel
theorem dX6_lacksAt_17 : decode cX6_lacksAt 17 = .ok (.iconst 1, 1) := by decide +kernel
theorem dX6_lacksAt_18 : decode cX6_lacksAt 18 = .ok (.goto 4, 3) := by decide +kernel
theorem dX6_lacksAt_21 : decode cX6_lacksAt 21 = .ok (.iconst 0, 1) := by decide +kernel
theorem dX6_lacksAt_22 : decode cX6_lacksAt 22 = .ok (.ireturn, 1) := by decide +kernel
set_option maxRecDepth 20000 in
theorem ggX6_catchesAt_X6_has : GoodIn wsX6_catchesAt wsX6_has := goodIn_r _ [8, 9, 10, 11, 12, 13, 14] rfl (by decide +kernel)
set_option maxRecDepth 20000 in
theorem gX6_catchesAt_X6_has : GoodIn wsX6_catchesAt (wsV RX6 29 RX6 yX6_has wsX6_has) := goodIn_app (goodIn_r _ [4, 5, 6, 7] rfl (by decide +kernel)) ggX6_catchesAt_X6_has
theorem dX6_catchesAt_0 : decode cX6_catchesAt 0 = .ok (.aload_n 0, 1) := by decide +kernel
theorem dX6_catchesAt_1 : decode cX6_catchesAt 1 = .ok (.iload_n 1, 1) := by decide +kernel
theorem dX6_catchesAt_2 : decode cX6_catchesAt 2 = .ok (.invokevirtual 29, 3) := by decide +kernel
theorem dX6_catchesAt_5 : decode cX6_catchesAt 5 = .ok (.ifCond .eq 29, 3) := by decide +kernel
theorem dX6_catchesAt_8 : decode cX6_catchesAt 8 = .ok (.aload_n 0, 1) := by decide +kernel
theorem dX6_catchesAt_9 : decode cX6_catchesAt 9 = .ok (.getfield 9, 3) := by decide +kernel
theorem dX6_catchesAt_12 : decode cX6_catchesAt 12 = .ok (.iload_n 1, 1) := by decide +kernel
theorem dX6_catchesAt_13 : decode cX6_catchesAt 13 = .ok (.baload, 1) := by decide +kernel
theorem dX6_catchesAt_14 : decode cX6_catchesAt 14 = .ok (.ifCond .ne 20, 3) := by decide +kernel
theorem dX6_catchesAt_17 : decode cX6_catchesAt 17 = .ok (.aload_n 0, 1) := by decide +kernel
theorem dX6_catchesAt_18 : decode cX6_catchesAt 18 = .ok (.getfield 15, 3) := by decide +kernel
theorem dX6_catchesAt_21 : decode cX6_catchesAt 21 = .ok (.iload_n 1, 1) := by decide +kernel
theorem dX6_catchesAt_22 : decode cX6_catchesAt 22 = .ok (.iaload, 1) := by decide +kernel
theorem dX6_catchesAt_23 : decode cX6_catchesAt 23 = .ok (.aload_n 0, 1) := by decide +kernel
theorem dX6_catchesAt_24 : decode cX6_catchesAt 24 = .ok (.getfield 26, 3) := by decide +kernel
theorem dX6_catchesAt_27 : decode cX6_catchesAt 27 = .ok (.if_icmp .lt 7, 3) := by decide +kernel
theorem dX6_catchesAt_30 : decode cX6_catchesAt 30 = .ok (.iconst 1, 1) := by decide +kernel
theorem dX6_catchesAt_31 : decode cX6_catchesAt 31 = .ok (.goto 4, 3) := by decide +kernel
theorem dX6_catchesAt_34 : decode cX6_catchesAt 34 = .ok (.iconst 0, 1) := by decide +kernel
theorem dX6_catchesAt_35 : decode cX6_catchesAt 35 = .ok (.ireturn, 1) := by decide +kernel
set_option maxRecDepth 20000 in
theorem ggX6_lacksThreeFrom_X6_lacksAt : GoodIn wsX6_lacksThreeFrom wsX6_lacksAt := goodIn_r _ [5, 6, 7, 8, 9, 4, 10, 11, 12, 13, 14, 15, 16] rfl (by decide +kernel)
set_option maxRecDepth 20000 in
theorem gX6_lacksThreeFrom_X6_lacksAt : GoodIn wsX6_lacksThreeFrom (wsV RX6 33 RX6 yX6_lacksAt wsX6_lacksAt) := goodIn_app (goodIn_r _ [1, 2, 3, 4] rfl (by decide +kernel)) ggX6_lacksThreeFrom_X6_lacksAt
theorem dX6_lacksThreeFrom_0 : decode cX6_lacksThreeFrom 0 = .ok (.aload_n 0, 1) := by decide +kernel
theorem dX6_lacksThreeFrom_1 : decode cX6_lacksThreeFrom 1 = .ok (.iload_n 1, 1) := by decide +kernel
theorem dX6_lacksThreeFrom_2 : decode cX6_lacksThreeFrom 2 = .ok (.invokevirtual 33, 3) := by decide +kernel
theorem dX6_lacksThreeFrom_5 : decode cX6_lacksThreeFrom 5 = .ok (.ifCond .eq 27, 3) := by decide +kernel
theorem dX6_lacksThreeFrom_8 : decode cX6_lacksThreeFrom 8 = .ok (.aload_n 0, 1) := by decide +kernel
theorem dX6_lacksThreeFrom_9 : decode cX6_lacksThreeFrom 9 = .ok (.iload_n 1, 1) := by decide +kernel
theorem dX6_lacksThreeFrom_10 : decode cX6_lacksThreeFrom 10 = .ok (.iconst 1, 1) := by decide +kernel
theorem dX6_lacksThreeFrom_11 : decode cX6_lacksThreeFrom 11 = .ok (.iadd, 1) := by decide +kernel
theorem dX6_lacksThreeFrom_12 : decode cX6_lacksThreeFrom 12 = .ok (.invokevirtual 33, 3) := by decide +kernel
theorem dX6_lacksThreeFrom_15 : decode cX6_lacksThreeFrom 15 = .ok (.ifCond .eq 17, 3) := by decide +kernel
theorem dX6_lacksThreeFrom_18 : decode cX6_lacksThreeFrom 18 = .ok (.aload_n 0, 1) := by decide +kernel
theorem dX6_lacksThreeFrom_19 : decode cX6_lacksThreeFrom 19 = .ok (.iload_n 1, 1) := by decide +kernel
theorem dX6_lacksThreeFrom_20 : decode cX6_lacksThreeFrom 20 = .ok (.iconst 2, 1) := by decide +kernel
theorem dX6_lacksThreeFrom_21 : decode cX6_lacksThreeFrom 21 = .ok (.iadd, 1) := by decide +kernel
theorem dX6_lacksThreeFrom_22 : decode cX6_lacksThreeFrom 22 = .ok (.invokevirtual 33, 3) := by decide +kernel
theorem dX6_lacksThreeFrom_25 : decode cX6_lacksThreeFrom 25 = .ok (.ifCond .eq 7, 3) := by decide +kernel
theorem dX6_lacksThreeFrom_28 : decode cX6_lacksThreeFrom 28 = .ok (.iconst 1, 1) := by decide +kernel
theorem dX6_lacksThreeFrom_29 : decode cX6_lacksThreeFrom 29 = .ok (.goto 4, 3) := by decide +kernel
theorem dX6_lacksThreeFrom_32 : decode cX6_lacksThreeFrom 32 = .ok (.iconst 0, 1) := by decide +kernel
theorem dX6_lacksThreeFrom_33 : decode cX6_lacksThreeFrom 33 = .ok (.ireturn, 1) := by decide +kernel
set_option maxRecDepth 20000 in
theorem ggX6_isStrong_X6_lacksThreeFrom : GoodIn wsX6_isStrong wsX6_lacksThreeFrom := goodIn_r _ [6, 7, 8, 9, 5, 10, 11, 12, 13, 14, 15, 1, 16, 17, 18, 19, 20] rfl (by decide +kernel)
set_option maxRecDepth 20000 in
theorem gX6_isStrong_X6_lacksThreeFrom : GoodIn wsX6_isStrong (wsV RX6 36 RX6 yX6_lacksThreeFrom wsX6_lacksThreeFrom) := goodIn_app (goodIn_r _ [2, 3, 4, 5] rfl (by decide +kernel)) ggX6_isStrong_X6_lacksThreeFrom
theorem dX6_isStrong_0 : decode cX6_isStrong 0 = .ok (.iconst 0, 1) := by decide +kernel
theorem dX6_isStrong_1 : decode cX6_isStrong 1 = .ok (.istore_n 1, 1) := by decide +kernel
theorem dX6_isStrong_2 : decode cX6_isStrong 2 = .ok (.iload_n 1, 1) := by decide +kernel
theorem dX6_isStrong_3 : decode cX6_isStrong 3 = .ok (.aload_n 0, 1) := by decide +kernel
theorem dX6_isStrong_4 : decode cX6_isStrong 4 = .ok (.getfield 19, 3) := by decide +kernel
theorem dX6_isStrong_7 : decode cX6_isStrong 7 = .ok (.if_icmp .ge 19, 3) := by decide +kernel
theorem dX6_isStrong_10 : decode cX6_isStrong 10 = .ok (.aload_n 0, 1) := by decide +kernel
theorem dX6_isStrong_11 : decode cX6_isStrong 11 = .ok (.iload_n 1, 1) := by decide +kernel
theorem dX6_isStrong_12 : decode cX6_isStrong 12 = .ok (.invokevirtual 36, 3) := by decide +kernel
theorem dX6_isStrong_15 : decode cX6_isStrong 15 = .ok (.ifCond .eq 5, 3) := by decide +kernel
theorem dX6_isStrong_18 : decode cX6_isStrong 18 = .ok (.iconst 0, 1) := by decide +kernel
theorem dX6_isStrong_19 : decode cX6_isStrong 19 = .ok (.ireturn, 1) := by decide +kernel
theorem dX6_isStrong_20 : decode cX6_isStrong 20 = .ok (.iinc 1 1, 3) := by decide +kernel
theorem dX6_isStrong_23 : decode cX6_isStrong 23 = .ok (.goto (-21), 3) := by decide +kernel
theorem dX6_isStrong_26 : decode cX6_isStrong 26 = .ok (.iconst 1, 1) := by decide +kernel
theorem dX6_isStrong_27 : decode cX6_isStrong 27 = .ok (.ireturn, 1) := by decide +kernel
set_option maxRecDepth 20000 in
theorem ggX6_frailTeeth_X6_isStrong : GoodIn wsX6_frailTeeth wsX6_isStrong := goodIn_r _ [7, 1, 8, 9, 10, 6, 11, 12, 13, 14, 15, 2, 16, 17, 18, 19, 24, 25, 26, 27, 28] rfl (by decide +kernel)
set_option maxRecDepth 20000 in
theorem gX6_frailTeeth_X6_isStrong : GoodIn wsX6_frailTeeth (wsV RX6 39 RX6 yX6_isStrong wsX6_isStrong) := goodIn_app (goodIn_r _ [3, 4, 5, 6] rfl (by decide +kernel)) ggX6_frailTeeth_X6_isStrong
set_option maxRecDepth 20000 in
theorem ggX6_frailTeeth_X6_isFrail : GoodIn wsX6_frailTeeth wsX6_isFrail := goodIn_r _ [23, 12, 13, 14, 6, 15, 2, 16, 17, 18, 19, 1, 24, 25, 26, 27, 28] rfl (by decide +kernel)
set_option maxRecDepth 20000 in
theorem gX6_frailTeeth_X6_isFrail : GoodIn wsX6_frailTeeth (wsV RX6 43 RX6 yX6_isFrail wsX6_isFrail) := goodIn_app (goodIn_r _ [20, 21, 22, 6] rfl (by decide +kernel)) ggX6_frailTeeth_X6_isFrail
theorem dX6_frailTeeth_0 : decode cX6_frailTeeth 0 = .ok (.aload_n 0, 1) := by decide +kernel
theorem dX6_frailTeeth_1 : decode cX6_frailTeeth 1 = .ok (.invokevirtual 39, 3) := by decide +kernel
theorem dX6_frailTeeth_4 : decode cX6_frailTeeth 4 = .ok (.ifCond .ne 5, 3) := by decide +kernel
theorem dX6_frailTeeth_7 : decode cX6_frailTeeth 7 = .ok (.iconst 0, 1) := by decide +kernel
theorem dX6_frailTeeth_8 : decode cX6_frailTeeth 8 = .ok (.ireturn, 1) := by decide +kernel
theorem dX6_frailTeeth_9 : decode cX6_frailTeeth 9 = .ok (.iconst 0, 1) := by decide +kernel
theorem dX6_frailTeeth_10 : decode cX6_frailTeeth 10 = .ok (.istore_n 1, 1) := by decide +kernel
theorem dX6_frailTeeth_11 : decode cX6_frailTeeth 11 = .ok (.iconst 0, 1) := by decide +kernel
theorem dX6_frailTeeth_12 : decode cX6_frailTeeth 12 = .ok (.istore_n 2, 1) := by decide +kernel
theorem dX6_frailTeeth_13 : decode cX6_frailTeeth 13 = .ok (.iload_n 2, 1) := by decide +kernel
theorem dX6_frailTeeth_14 : decode cX6_frailTeeth 14 = .ok (.aload_n 0, 1) := by decide +kernel
theorem dX6_frailTeeth_15 : decode cX6_frailTeeth 15 = .ok (.getfield 19, 3) := by decide +kernel
theorem dX6_frailTeeth_18 : decode cX6_frailTeeth 18 = .ok (.if_icmp .ge 29, 3) := by decide +kernel
theorem dX6_frailTeeth_21 : decode cX6_frailTeeth 21 = .ok (.aload_n 0, 1) := by decide +kernel
theorem dX6_frailTeeth_22 : decode cX6_frailTeeth 22 = .ok (.getfield 9, 3) := by decide +kernel
theorem dX6_frailTeeth_25 : decode cX6_frailTeeth 25 = .ok (.iload_n 2, 1) := by decide +kernel
theorem dX6_frailTeeth_26 : decode cX6_frailTeeth 26 = .ok (.baload, 1) := by decide +kernel
theorem dX6_frailTeeth_27 : decode cX6_frailTeeth 27 = .ok (.ifCond .ne 14, 3) := by decide +kernel
theorem dX6_frailTeeth_30 : decode cX6_frailTeeth 30 = .ok (.aload_n 0, 1) := by decide +kernel
theorem dX6_frailTeeth_31 : decode cX6_frailTeeth 31 = .ok (.iload_n 2, 1) := by decide +kernel
theorem dX6_frailTeeth_32 : decode cX6_frailTeeth 32 = .ok (.invokevirtual 43, 3) := by decide +kernel
theorem dX6_frailTeeth_35 : decode cX6_frailTeeth 35 = .ok (.ifCond .eq 6, 3) := by decide +kernel
theorem dX6_frailTeeth_38 : decode cX6_frailTeeth 38 = .ok (.iinc 1 1, 3) := by decide +kernel
theorem dX6_frailTeeth_41 : decode cX6_frailTeeth 41 = .ok (.iinc 2 1, 3) := by decide +kernel
theorem dX6_frailTeeth_44 : decode cX6_frailTeeth 44 = .ok (.goto (-31), 3) := by decide +kernel
theorem dX6_frailTeeth_47 : decode cX6_frailTeeth 47 = .ok (.iload_n 1, 1) := by decide +kernel
theorem dX6_frailTeeth_48 : decode cX6_frailTeeth 48 = .ok (.ireturn, 1) := by decide +kernel
set_option maxRecDepth 20000 in
theorem ggX6_isFrail_X6_lacksAt : GoodIn wsX6_isFrail wsX6_lacksAt := goodIn_r _ [5, 6, 7, 8, 9, 4, 10, 11, 12, 13, 14, 15, 16] rfl (by decide +kernel)
set_option maxRecDepth 20000 in
theorem gX6_isFrail_X6_lacksAt : GoodIn wsX6_isFrail (wsV RX6 33 RX6 yX6_lacksAt wsX6_lacksAt) := goodIn_app (goodIn_r _ [1, 2, 3, 4] rfl (by decide +kernel)) ggX6_isFrail_X6_lacksAt
theorem dX6_isFrail_0 : decode cX6_isFrail 0 = .ok (.aload_n 0, 1) := by decide +kernel
theorem dX6_isFrail_1 : decode cX6_isFrail 1 = .ok (.iload_n 1, 1) := by decide +kernel
theorem dX6_isFrail_2 : decode cX6_isFrail 2 = .ok (.iconst 1, 1) := by decide +kernel
theorem dX6_isFrail_3 : decode cX6_isFrail 3 = .ok (.isub, 1) := by decide +kernel
theorem dX6_isFrail_4 : decode cX6_isFrail 4 = .ok (.invokevirtual 33, 3) := by decide +kernel
theorem dX6_isFrail_7 : decode cX6_isFrail 7 = .ok (.istore_n 2, 1) := by decide +kernel
theorem dX6_isFrail_8 : decode cX6_isFrail 8 = .ok (.aload_n 0, 1) := by decide +kernel
theorem dX6_isFrail_9 : decode cX6_isFrail 9 = .ok (.iload_n 1, 1) := by decide +kernel
theorem dX6_isFrail_10 : decode cX6_isFrail 10 = .ok (.iconst 1, 1) := by decide +kernel
theorem dX6_isFrail_11 : decode cX6_isFrail 11 = .ok (.iadd, 1) := by decide +kernel
theorem dX6_isFrail_12 : decode cX6_isFrail 12 = .ok (.invokevirtual 33, 3) := by decide +kernel
theorem dX6_isFrail_15 : decode cX6_isFrail 15 = .ok (.istore_n 3, 1) := by decide +kernel
theorem dX6_isFrail_16 : decode cX6_isFrail 16 = .ok (.iload_n 2, 1) := by decide +kernel
theorem dX6_isFrail_17 : decode cX6_isFrail 17 = .ok (.ifCond .eq 13, 3) := by decide +kernel
theorem dX6_isFrail_20 : decode cX6_isFrail 20 = .ok (.aload_n 0, 1) := by decide +kernel
theorem dX6_isFrail_21 : decode cX6_isFrail 21 = .ok (.iload_n 1, 1) := by decide +kernel
theorem dX6_isFrail_22 : decode cX6_isFrail 22 = .ok (.iconst 2, 1) := by decide +kernel
theorem dX6_isFrail_23 : decode cX6_isFrail 23 = .ok (.isub, 1) := by decide +kernel
theorem dX6_isFrail_24 : decode cX6_isFrail 24 = .ok (.invokevirtual 33, 3) := by decide +kernel
theorem dX6_isFrail_27 : decode cX6_isFrail 27 = .ok (.ifCond .ne 25, 3) := by decide +kernel
theorem dX6_isFrail_30 : decode cX6_isFrail 30 = .ok (.iload_n 2, 1) := by decide +kernel
theorem dX6_isFrail_31 : decode cX6_isFrail 31 = .ok (.ifCond .eq 7, 3) := by decide +kernel
theorem dX6_isFrail_34 : decode cX6_isFrail 34 = .ok (.iload_n 3, 1) := by decide +kernel
theorem dX6_isFrail_35 : decode cX6_isFrail 35 = .ok (.ifCond .ne 17, 3) := by decide +kernel
theorem dX6_isFrail_38 : decode cX6_isFrail 38 = .ok (.iload_n 3, 1) := by decide +kernel
theorem dX6_isFrail_39 : decode cX6_isFrail 39 = .ok (.ifCond .eq 17, 3) := by decide +kernel
theorem dX6_isFrail_42 : decode cX6_isFrail 42 = .ok (.aload_n 0, 1) := by decide +kernel
theorem dX6_isFrail_43 : decode cX6_isFrail 43 = .ok (.iload_n 1, 1) := by decide +kernel
theorem dX6_isFrail_44 : decode cX6_isFrail 44 = .ok (.iconst 2, 1) := by decide +kernel
theorem dX6_isFrail_45 : decode cX6_isFrail 45 = .ok (.iadd, 1) := by decide +kernel
theorem dX6_isFrail_46 : decode cX6_isFrail 46 = .ok (.invokevirtual 33, 3) := by decide +kernel
theorem dX6_isFrail_49 : decode cX6_isFrail 49 = .ok (.ifCond .eq 7, 3) := by decide +kernel
theorem dX6_isFrail_52 : decode cX6_isFrail 52 = .ok (.iconst 1, 1) := by decide +kernel
theorem dX6_isFrail_53 : decode cX6_isFrail 53 = .ok (.goto 4, 3) := by decide +kernel
theorem dX6_isFrail_56 : decode cX6_isFrail 56 = .ok (.iconst 0, 1) := by decide +kernel
theorem dX6_isFrail_57 : decode cX6_isFrail 57 = .ok (.ireturn, 1) := by decide +kernel
set_option maxRecDepth 20000 in
theorem ggX6_spareTeeth_X6_isStrong : GoodIn wsX6_spareTeeth wsX6_isStrong := goodIn_r _ [11, 1, 12, 13, 14, 10, 15, 16, 17, 18, 19, 2, 20, 21, 22, 23, 24, 25, 26, 27, 28] rfl (by decide +kernel)
set_option maxRecDepth 20000 in
theorem gX6_spareTeeth_X6_isStrong : GoodIn wsX6_spareTeeth (wsV RX6 39 RX6 yX6_isStrong wsX6_isStrong) := goodIn_app (goodIn_r _ [7, 8, 9, 10] rfl (by decide +kernel)) ggX6_spareTeeth_X6_isStrong
theorem dX6_spareTeeth_0 : decode cX6_spareTeeth 0 = .ok (.aload_n 0, 1) := by decide +kernel
theorem dX6_spareTeeth_1 : decode cX6_spareTeeth 1 = .ok (.invokevirtual 39, 3) := by decide +kernel
theorem dX6_spareTeeth_4 : decode cX6_spareTeeth 4 = .ok (.ifCond .ne 5, 3) := by decide +kernel
theorem dX6_spareTeeth_7 : decode cX6_spareTeeth 7 = .ok (.iconst 0, 1) := by decide +kernel
theorem dX6_spareTeeth_8 : decode cX6_spareTeeth 8 = .ok (.ireturn, 1) := by decide +kernel
theorem dX6_spareTeeth_9 : decode cX6_spareTeeth 9 = .ok (.bipush (-41), 2) := by decide +kernel
theorem dX6_spareTeeth_11 : decode cX6_spareTeeth 11 = .ok (.istore_n 1, 1) := by decide +kernel
theorem dX6_spareTeeth_12 : decode cX6_spareTeeth 12 = .ok (.iconst 0, 1) := by decide +kernel
theorem dX6_spareTeeth_13 : decode cX6_spareTeeth 13 = .ok (.istore_n 2, 1) := by decide +kernel
theorem dX6_spareTeeth_14 : decode cX6_spareTeeth 14 = .ok (.iload_n 1, 1) := by decide +kernel
theorem dX6_spareTeeth_15 : decode cX6_spareTeeth 15 = .ok (.istore_n 3, 1) := by decide +kernel
theorem dX6_spareTeeth_16 : decode cX6_spareTeeth 16 = .ok (.iload_n 1, 1) := by decide +kernel
theorem dX6_spareTeeth_17 : decode cX6_spareTeeth 17 = .ok (.istore 4, 2) := by decide +kernel
theorem dX6_spareTeeth_19 : decode cX6_spareTeeth 19 = .ok (.iconst 0, 1) := by decide +kernel
theorem dX6_spareTeeth_20 : decode cX6_spareTeeth 20 = .ok (.istore 5, 2) := by decide +kernel
theorem dX6_spareTeeth_22 : decode cX6_spareTeeth 22 = .ok (.iload 5, 2) := by decide +kernel
theorem dX6_spareTeeth_24 : decode cX6_spareTeeth 24 = .ok (.aload_n 0, 1) := by decide +kernel
theorem dX6_spareTeeth_25 : decode cX6_spareTeeth 25 = .ok (.getfield 19, 3) := by decide +kernel
theorem dX6_spareTeeth_28 : decode cX6_spareTeeth 28 = .ok (.if_icmp .ge 66, 3) := by decide +kernel
theorem dX6_spareTeeth_31 : decode cX6_spareTeeth 31 = .ok (.aload_n 0, 1) := by decide +kernel
theorem dX6_spareTeeth_32 : decode cX6_spareTeeth 32 = .ok (.getfield 9, 3) := by decide +kernel
theorem dX6_spareTeeth_35 : decode cX6_spareTeeth 35 = .ok (.iload 5, 2) := by decide +kernel
theorem dX6_spareTeeth_37 : decode cX6_spareTeeth 37 = .ok (.baload, 1) := by decide +kernel
theorem dX6_spareTeeth_38 : decode cX6_spareTeeth 38 = .ok (.ifCond .eq 7, 3) := by decide +kernel
theorem dX6_spareTeeth_41 : decode cX6_spareTeeth 41 = .ok (.iconst 0, 1) := by decide +kernel
theorem dX6_spareTeeth_42 : decode cX6_spareTeeth 42 = .ok (.goto 4, 3) := by decide +kernel
theorem dX6_spareTeeth_45 : decode cX6_spareTeeth 45 = .ok (.iconst 1, 1) := by decide +kernel
theorem dX6_spareTeeth_46 : decode cX6_spareTeeth 46 = .ok (.istore 6, 2) := by decide +kernel
theorem dX6_spareTeeth_48 : decode cX6_spareTeeth 48 = .ok (.iload_n 2, 1) := by decide +kernel
theorem dX6_spareTeeth_49 : decode cX6_spareTeeth 49 = .ok (.iload_n 3, 1) := by decide +kernel
theorem dX6_spareTeeth_50 : decode cX6_spareTeeth 50 = .ok (.iload 4, 2) := by decide +kernel
theorem dX6_spareTeeth_52 : decode cX6_spareTeeth 52 = .ok (.invokestatic 46, 3) := by decide +kernel
theorem dX6_spareTeeth_55 : decode cX6_spareTeeth 55 = .ok (.invokestatic 46, 3) := by decide +kernel
theorem dX6_spareTeeth_58 : decode cX6_spareTeeth 58 = .ok (.istore 7, 2) := by decide +kernel
theorem dX6_spareTeeth_60 : decode cX6_spareTeeth 60 = .ok (.iload_n 3, 1) := by decide +kernel
theorem dX6_spareTeeth_61 : decode cX6_spareTeeth 61 = .ok (.iload 6, 2) := by decide +kernel
theorem dX6_spareTeeth_63 : decode cX6_spareTeeth 63 = .ok (.iadd, 1) := by decide +kernel
theorem dX6_spareTeeth_64 : decode cX6_spareTeeth 64 = .ok (.istore 4, 2) := by decide +kernel
theorem dX6_spareTeeth_66 : decode cX6_spareTeeth 66 = .ok (.iload_n 2, 1) := by decide +kernel
theorem dX6_spareTeeth_67 : decode cX6_spareTeeth 67 = .ok (.iload 6, 2) := by decide +kernel
theorem dX6_spareTeeth_69 : decode cX6_spareTeeth 69 = .ok (.iadd, 1) := by decide +kernel
theorem dX6_spareTeeth_70 : decode cX6_spareTeeth 70 = .ok (.istore_n 3, 1) := by decide +kernel
theorem dX6_spareTeeth_71 : decode cX6_spareTeeth 71 = .ok (.aload_n 0, 1) := by decide +kernel
theorem dX6_spareTeeth_72 : decode cX6_spareTeeth 72 = .ok (.getfield 9, 3) := by decide +kernel
theorem dX6_spareTeeth_75 : decode cX6_spareTeeth 75 = .ok (.iload 5, 2) := by decide +kernel
theorem dX6_spareTeeth_77 : decode cX6_spareTeeth 77 = .ok (.baload, 1) := by decide +kernel
theorem dX6_spareTeeth_78 : decode cX6_spareTeeth 78 = .ok (.ifCond .eq 7, 3) := by decide +kernel
theorem dX6_spareTeeth_81 : decode cX6_spareTeeth 81 = .ok (.iload_n 1, 1) := by decide +kernel
theorem dX6_spareTeeth_82 : decode cX6_spareTeeth 82 = .ok (.goto 5, 3) := by decide +kernel
theorem dX6_spareTeeth_85 : decode cX6_spareTeeth 85 = .ok (.iload 7, 2) := by decide +kernel
theorem dX6_spareTeeth_87 : decode cX6_spareTeeth 87 = .ok (.istore_n 2, 1) := by decide +kernel
theorem dX6_spareTeeth_88 : decode cX6_spareTeeth 88 = .ok (.iinc 5 1, 3) := by decide +kernel
theorem dX6_spareTeeth_91 : decode cX6_spareTeeth 91 = .ok (.goto (-69), 3) := by decide +kernel
theorem dX6_spareTeeth_94 : decode cX6_spareTeeth 94 = .ok (.iload_n 2, 1) := by decide +kernel
theorem dX6_spareTeeth_95 : decode cX6_spareTeeth 95 = .ok (.iload_n 3, 1) := by decide +kernel
theorem dX6_spareTeeth_96 : decode cX6_spareTeeth 96 = .ok (.iload 4, 2) := by decide +kernel
theorem dX6_spareTeeth_98 : decode cX6_spareTeeth 98 = .ok (.invokestatic 46, 3) := by decide +kernel
theorem dX6_spareTeeth_101 : decode cX6_spareTeeth 101 = .ok (.invokestatic 46, 3) := by decide +kernel
theorem dX6_spareTeeth_104 : decode cX6_spareTeeth 104 = .ok (.ireturn, 1) := by decide +kernel
theorem dX6_lackingTeeth_0 : decode cX6_lackingTeeth 0 = .ok (.iconst 0, 1) := by decide +kernel
theorem dX6_lackingTeeth_1 : decode cX6_lackingTeeth 1 = .ok (.istore_n 1, 1) := by decide +kernel
theorem dX6_lackingTeeth_2 : decode cX6_lackingTeeth 2 = .ok (.iconst 0, 1) := by decide +kernel
theorem dX6_lackingTeeth_3 : decode cX6_lackingTeeth 3 = .ok (.istore_n 2, 1) := by decide +kernel
theorem dX6_lackingTeeth_4 : decode cX6_lackingTeeth 4 = .ok (.iload_n 2, 1) := by decide +kernel
theorem dX6_lackingTeeth_5 : decode cX6_lackingTeeth 5 = .ok (.aload_n 0, 1) := by decide +kernel
theorem dX6_lackingTeeth_6 : decode cX6_lackingTeeth 6 = .ok (.getfield 19, 3) := by decide +kernel
theorem dX6_lackingTeeth_9 : decode cX6_lackingTeeth 9 = .ok (.if_icmp .ge 21, 3) := by decide +kernel
theorem dX6_lackingTeeth_12 : decode cX6_lackingTeeth 12 = .ok (.aload_n 0, 1) := by decide +kernel
theorem dX6_lackingTeeth_13 : decode cX6_lackingTeeth 13 = .ok (.getfield 9, 3) := by decide +kernel
theorem dX6_lackingTeeth_16 : decode cX6_lackingTeeth 16 = .ok (.iload_n 2, 1) := by decide +kernel
theorem dX6_lackingTeeth_17 : decode cX6_lackingTeeth 17 = .ok (.baload, 1) := by decide +kernel
theorem dX6_lackingTeeth_18 : decode cX6_lackingTeeth 18 = .ok (.ifCond .eq 6, 3) := by decide +kernel
theorem dX6_lackingTeeth_21 : decode cX6_lackingTeeth 21 = .ok (.iinc 1 1, 3) := by decide +kernel
theorem dX6_lackingTeeth_24 : decode cX6_lackingTeeth 24 = .ok (.iinc 2 1, 3) := by decide +kernel
theorem dX6_lackingTeeth_27 : decode cX6_lackingTeeth 27 = .ok (.goto (-23), 3) := by decide +kernel
theorem dX6_lackingTeeth_30 : decode cX6_lackingTeeth 30 = .ok (.iload_n 1, 1) := by decide +kernel
theorem dX6_lackingTeeth_31 : decode cX6_lackingTeeth 31 = .ok (.ireturn, 1) := by decide +kernel
set_option maxRecDepth 20000 in
theorem ggX6_catchingTeeth_X6_catchesAt : GoodIn wsX6_catchingTeeth wsX6_catchesAt := goodIn_r _ [6, 7, 8, 9, 10, 11, 12, 5, 13, 1, 14, 15, 16, 17, 18] rfl (by decide +kernel)
set_option maxRecDepth 20000 in
theorem gX6_catchingTeeth_X6_catchesAt : GoodIn wsX6_catchingTeeth (wsV RX6 52 RX6 yX6_catchesAt wsX6_catchesAt) := goodIn_app (goodIn_r _ [2, 3, 4, 5] rfl (by decide +kernel)) ggX6_catchingTeeth_X6_catchesAt
theorem dX6_catchingTeeth_0 : decode cX6_catchingTeeth 0 = .ok (.iconst 0, 1) := by decide +kernel
theorem dX6_catchingTeeth_1 : decode cX6_catchingTeeth 1 = .ok (.istore_n 2, 1) := by decide +kernel
theorem dX6_catchingTeeth_2 : decode cX6_catchingTeeth 2 = .ok (.iconst 0, 1) := by decide +kernel
theorem dX6_catchingTeeth_3 : decode cX6_catchingTeeth 3 = .ok (.istore_n 3, 1) := by decide +kernel
theorem dX6_catchingTeeth_4 : decode cX6_catchingTeeth 4 = .ok (.iload_n 3, 1) := by decide +kernel
theorem dX6_catchingTeeth_5 : decode cX6_catchingTeeth 5 = .ok (.aload_n 0, 1) := by decide +kernel
theorem dX6_catchingTeeth_6 : decode cX6_catchingTeeth 6 = .ok (.getfield 19, 3) := by decide +kernel
theorem dX6_catchingTeeth_9 : decode cX6_catchingTeeth 9 = .ok (.if_icmp .ge 27, 3) := by decide +kernel
theorem dX6_catchingTeeth_12 : decode cX6_catchingTeeth 12 = .ok (.aload_n 0, 1) := by decide +kernel
theorem dX6_catchingTeeth_13 : decode cX6_catchingTeeth 13 = .ok (.iload_n 3, 1) := by decide +kernel
theorem dX6_catchingTeeth_14 : decode cX6_catchingTeeth 14 = .ok (.invokevirtual 52, 3) := by decide +kernel
theorem dX6_catchingTeeth_17 : decode cX6_catchingTeeth 17 = .ok (.ifCond .eq 13, 3) := by decide +kernel
theorem dX6_catchingTeeth_20 : decode cX6_catchingTeeth 20 = .ok (.iload_n 2, 1) := by decide +kernel
theorem dX6_catchingTeeth_21 : decode cX6_catchingTeeth 21 = .ok (.iload_n 1, 1) := by decide +kernel
theorem dX6_catchingTeeth_22 : decode cX6_catchingTeeth 22 = .ok (.if_icmp .ne 5, 3) := by decide +kernel
theorem dX6_catchingTeeth_25 : decode cX6_catchingTeeth 25 = .ok (.iload_n 3, 1) := by decide +kernel
theorem dX6_catchingTeeth_26 : decode cX6_catchingTeeth 26 = .ok (.ireturn, 1) := by decide +kernel
theorem dX6_catchingTeeth_27 : decode cX6_catchingTeeth 27 = .ok (.iinc 2 1, 3) := by decide +kernel
theorem dX6_catchingTeeth_30 : decode cX6_catchingTeeth 30 = .ok (.iinc 3 1, 3) := by decide +kernel
theorem dX6_catchingTeeth_33 : decode cX6_catchingTeeth 33 = .ok (.goto (-29), 3) := by decide +kernel
theorem dX6_catchingTeeth_36 : decode cX6_catchingTeeth 36 = .ok (.iload_n 1, 1) := by decide +kernel
theorem dX6_catchingTeeth_37 : decode cX6_catchingTeeth 37 = .ok (.iconst (-1), 1) := by decide +kernel
theorem dX6_catchingTeeth_38 : decode cX6_catchingTeeth 38 = .ok (.if_icmp .ne 7, 3) := by decide +kernel
theorem dX6_catchingTeeth_41 : decode cX6_catchingTeeth 41 = .ok (.iload_n 2, 1) := by decide +kernel
theorem dX6_catchingTeeth_42 : decode cX6_catchingTeeth 42 = .ok (.goto 4, 3) := by decide +kernel
theorem dX6_catchingTeeth_45 : decode cX6_catchingTeeth 45 = .ok (.iconst (-1), 1) := by decide +kernel
theorem dX6_catchingTeeth_46 : decode cX6_catchingTeeth 46 = .ok (.ireturn, 1) := by decide +kernel
set_option maxRecDepth 20000 in
theorem ggX6_stitchesNeeded_X6_catchesAt : GoodIn wsX6_stitchesNeeded wsX6_catchesAt := goodIn_r _ [10, 11, 12, 13, 14, 15, 16, 9, 17, 1, 18, 19, 20, 21, 22] rfl (by decide +kernel)
set_option maxRecDepth 20000 in
theorem gX6_stitchesNeeded_X6_catchesAt : GoodIn wsX6_stitchesNeeded (wsV RX6 52 RX6 yX6_catchesAt wsX6_catchesAt) := goodIn_app (goodIn_r _ [6, 7, 8, 9] rfl (by decide +kernel)) ggX6_stitchesNeeded_X6_catchesAt
theorem dX6_stitchesNeeded_0 : decode cX6_stitchesNeeded 0 = .ok (.iconst 0, 1) := by decide +kernel
theorem dX6_stitchesNeeded_1 : decode cX6_stitchesNeeded 1 = .ok (.istore_n 2, 1) := by decide +kernel
theorem dX6_stitchesNeeded_2 : decode cX6_stitchesNeeded 2 = .ok (.iconst 0, 1) := by decide +kernel
theorem dX6_stitchesNeeded_3 : decode cX6_stitchesNeeded 3 = .ok (.istore_n 3, 1) := by decide +kernel
theorem dX6_stitchesNeeded_4 : decode cX6_stitchesNeeded 4 = .ok (.iconst 0, 1) := by decide +kernel
theorem dX6_stitchesNeeded_5 : decode cX6_stitchesNeeded 5 = .ok (.istore 4, 2) := by decide +kernel
theorem dX6_stitchesNeeded_7 : decode cX6_stitchesNeeded 7 = .ok (.iload 4, 2) := by decide +kernel
theorem dX6_stitchesNeeded_9 : decode cX6_stitchesNeeded 9 = .ok (.aload_n 0, 1) := by decide +kernel
theorem dX6_stitchesNeeded_10 : decode cX6_stitchesNeeded 10 = .ok (.getfield 19, 3) := by decide +kernel
theorem dX6_stitchesNeeded_13 : decode cX6_stitchesNeeded 13 = .ok (.if_icmp .ge 55, 3) := by decide +kernel
theorem dX6_stitchesNeeded_16 : decode cX6_stitchesNeeded 16 = .ok (.iload 4, 2) := by decide +kernel
theorem dX6_stitchesNeeded_18 : decode cX6_stitchesNeeded 18 = .ok (.iload_n 3, 1) := by decide +kernel
theorem dX6_stitchesNeeded_19 : decode cX6_stitchesNeeded 19 = .ok (.if_icmp .lt 43, 3) := by decide +kernel
theorem dX6_stitchesNeeded_22 : decode cX6_stitchesNeeded 22 = .ok (.aload_n 0, 1) := by decide +kernel
theorem dX6_stitchesNeeded_23 : decode cX6_stitchesNeeded 23 = .ok (.iload 4, 2) := by decide +kernel
theorem dX6_stitchesNeeded_25 : decode cX6_stitchesNeeded 25 = .ok (.invokevirtual 52, 3) := by decide +kernel
theorem dX6_stitchesNeeded_28 : decode cX6_stitchesNeeded 28 = .ok (.ifCond .eq 34, 3) := by decide +kernel
theorem dX6_stitchesNeeded_31 : decode cX6_stitchesNeeded 31 = .ok (.iload 4, 2) := by decide +kernel
theorem dX6_stitchesNeeded_33 : decode cX6_stitchesNeeded 33 = .ok (.iconst 2, 1) := by decide +kernel
theorem dX6_stitchesNeeded_34 : decode cX6_stitchesNeeded 34 = .ok (.iadd, 1) := by decide +kernel
theorem dX6_stitchesNeeded_35 : decode cX6_stitchesNeeded 35 = .ok (.aload_n 0, 1) := by decide +kernel
theorem dX6_stitchesNeeded_36 : decode cX6_stitchesNeeded 36 = .ok (.getfield 19, 3) := by decide +kernel
theorem dX6_stitchesNeeded_39 : decode cX6_stitchesNeeded 39 = .ok (.iconst 1, 1) := by decide +kernel
theorem dX6_stitchesNeeded_40 : decode cX6_stitchesNeeded 40 = .ok (.isub, 1) := by decide +kernel
theorem dX6_stitchesNeeded_41 : decode cX6_stitchesNeeded 41 = .ok (.invokestatic 55, 3) := by decide +kernel
theorem dX6_stitchesNeeded_44 : decode cX6_stitchesNeeded 44 = .ok (.istore 5, 2) := by decide +kernel
theorem dX6_stitchesNeeded_46 : decode cX6_stitchesNeeded 46 = .ok (.iload_n 2, 1) := by decide +kernel
theorem dX6_stitchesNeeded_47 : decode cX6_stitchesNeeded 47 = .ok (.iload_n 1, 1) := by decide +kernel
theorem dX6_stitchesNeeded_48 : decode cX6_stitchesNeeded 48 = .ok (.if_icmp .ne 6, 3) := by decide +kernel
theorem dX6_stitchesNeeded_51 : decode cX6_stitchesNeeded 51 = .ok (.iload 5, 2) := by decide +kernel
theorem dX6_stitchesNeeded_53 : decode cX6_stitchesNeeded 53 = .ok (.ireturn, 1) := by decide +kernel
theorem dX6_stitchesNeeded_54 : decode cX6_stitchesNeeded 54 = .ok (.iinc 2 1, 3) := by decide +kernel
theorem dX6_stitchesNeeded_57 : decode cX6_stitchesNeeded 57 = .ok (.iload 5, 2) := by decide +kernel
theorem dX6_stitchesNeeded_59 : decode cX6_stitchesNeeded 59 = .ok (.iconst 3, 1) := by decide +kernel
theorem dX6_stitchesNeeded_60 : decode cX6_stitchesNeeded 60 = .ok (.iadd, 1) := by decide +kernel
theorem dX6_stitchesNeeded_61 : decode cX6_stitchesNeeded 61 = .ok (.istore_n 3, 1) := by decide +kernel
theorem dX6_stitchesNeeded_62 : decode cX6_stitchesNeeded 62 = .ok (.iinc 4 1, 3) := by decide +kernel
theorem dX6_stitchesNeeded_65 : decode cX6_stitchesNeeded 65 = .ok (.goto (-58), 3) := by decide +kernel
theorem dX6_stitchesNeeded_68 : decode cX6_stitchesNeeded 68 = .ok (.iload_n 1, 1) := by decide +kernel
theorem dX6_stitchesNeeded_69 : decode cX6_stitchesNeeded 69 = .ok (.iconst (-1), 1) := by decide +kernel
theorem dX6_stitchesNeeded_70 : decode cX6_stitchesNeeded 70 = .ok (.if_icmp .ne 7, 3) := by decide +kernel
theorem dX6_stitchesNeeded_73 : decode cX6_stitchesNeeded 73 = .ok (.iload_n 2, 1) := by decide +kernel
theorem dX6_stitchesNeeded_74 : decode cX6_stitchesNeeded 74 = .ok (.goto 4, 3) := by decide +kernel
theorem dX6_stitchesNeeded_77 : decode cX6_stitchesNeeded 77 = .ok (.iconst (-1), 1) := by decide +kernel
theorem dX6_stitchesNeeded_78 : decode cX6_stitchesNeeded 78 = .ok (.ireturn, 1) := by decide +kernel
set_option maxRecDepth 20000 in
theorem ggX6_takeSlack_X6_has : GoodIn wsX6_takeSlack wsX6_has := goodIn_r _ [6, 7, 8, 9, 10, 11, 12] rfl (by decide +kernel)
set_option maxRecDepth 20000 in
theorem gX6_takeSlack_X6_has : GoodIn wsX6_takeSlack (wsV RX6 29 RX6 yX6_has wsX6_has) := goodIn_app (goodIn_r _ [2, 3, 4, 5] rfl (by decide +kernel)) ggX6_takeSlack_X6_has
theorem dX6_takeSlack_0 : decode cX6_takeSlack 0 = .ok (.iconst 0, 1) := by decide +kernel
theorem dX6_takeSlack_1 : decode cX6_takeSlack 1 = .ok (.istore_n 2, 1) := by decide +kernel
theorem dX6_takeSlack_2 : decode cX6_takeSlack 2 = .ok (.iload_n 1, 1) := by decide +kernel
theorem dX6_takeSlack_3 : decode cX6_takeSlack 3 = .ok (.iconst 2, 1) := by decide +kernel
theorem dX6_takeSlack_4 : decode cX6_takeSlack 4 = .ok (.isub, 1) := by decide +kernel
theorem dX6_takeSlack_5 : decode cX6_takeSlack 5 = .ok (.istore_n 3, 1) := by decide +kernel
theorem dX6_takeSlack_6 : decode cX6_takeSlack 6 = .ok (.iload_n 3, 1) := by decide +kernel
theorem dX6_takeSlack_7 : decode cX6_takeSlack 7 = .ok (.iload_n 1, 1) := by decide +kernel
theorem dX6_takeSlack_8 : decode cX6_takeSlack 8 = .ok (.iconst 2, 1) := by decide +kernel
theorem dX6_takeSlack_9 : decode cX6_takeSlack 9 = .ok (.iadd, 1) := by decide +kernel
theorem dX6_takeSlack_10 : decode cX6_takeSlack 10 = .ok (.if_icmp .gt 33, 3) := by decide +kernel
theorem dX6_takeSlack_13 : decode cX6_takeSlack 13 = .ok (.aload_n 0, 1) := by decide +kernel
theorem dX6_takeSlack_14 : decode cX6_takeSlack 14 = .ok (.iload_n 3, 1) := by decide +kernel
theorem dX6_takeSlack_15 : decode cX6_takeSlack 15 = .ok (.invokevirtual 29, 3) := by decide +kernel
theorem dX6_takeSlack_18 : decode cX6_takeSlack 18 = .ok (.ifCond .eq 19, 3) := by decide +kernel
theorem dX6_takeSlack_21 : decode cX6_takeSlack 21 = .ok (.iload_n 2, 1) := by decide +kernel
theorem dX6_takeSlack_22 : decode cX6_takeSlack 22 = .ok (.aload_n 0, 1) := by decide +kernel
theorem dX6_takeSlack_23 : decode cX6_takeSlack 23 = .ok (.getfield 15, 3) := by decide +kernel
theorem dX6_takeSlack_26 : decode cX6_takeSlack 26 = .ok (.iload_n 3, 1) := by decide +kernel
theorem dX6_takeSlack_27 : decode cX6_takeSlack 27 = .ok (.iaload, 1) := by decide +kernel
theorem dX6_takeSlack_28 : decode cX6_takeSlack 28 = .ok (.iadd, 1) := by decide +kernel
theorem dX6_takeSlack_29 : decode cX6_takeSlack 29 = .ok (.istore_n 2, 1) := by decide +kernel
theorem dX6_takeSlack_30 : decode cX6_takeSlack 30 = .ok (.aload_n 0, 1) := by decide +kernel
theorem dX6_takeSlack_31 : decode cX6_takeSlack 31 = .ok (.getfield 15, 3) := by decide +kernel
theorem dX6_takeSlack_34 : decode cX6_takeSlack 34 = .ok (.iload_n 3, 1) := by decide +kernel
theorem dX6_takeSlack_35 : decode cX6_takeSlack 35 = .ok (.iconst 0, 1) := by decide +kernel
theorem dX6_takeSlack_36 : decode cX6_takeSlack 36 = .ok (.iastore, 1) := by decide +kernel
theorem dX6_takeSlack_37 : decode cX6_takeSlack 37 = .ok (.iinc 3 1, 3) := by decide +kernel
theorem dX6_takeSlack_40 : decode cX6_takeSlack 40 = .ok (.goto (-34), 3) := by decide +kernel
theorem dX6_takeSlack_43 : decode cX6_takeSlack 43 = .ok (.iload_n 2, 1) := by decide +kernel
theorem dX6_takeSlack_44 : decode cX6_takeSlack 44 = .ok (.ireturn, 1) := by decide +kernel
set_option maxRecDepth 20000 in
theorem ggX6_runsTo_X6_catchesAt : GoodIn wsX6_runsTo wsX6_catchesAt := goodIn_r _ [7, 8, 9, 10, 11, 12, 13, 6, 14, 2, 23, 24, 25, 26, 27] rfl (by decide +kernel)
set_option maxRecDepth 20000 in
theorem gX6_runsTo_X6_catchesAt : GoodIn wsX6_runsTo (wsV RX6 52 RX6 yX6_catchesAt wsX6_catchesAt) := goodIn_app (goodIn_r _ [3, 4, 5, 6] rfl (by decide +kernel)) ggX6_runsTo_X6_catchesAt
set_option maxRecDepth 20000 in
theorem ggX6_runsTo_X6_lacksThreeFrom : GoodIn wsX6_runsTo wsX6_lacksThreeFrom := goodIn_r _ [18, 19, 20, 21, 6, 22, 8, 11, 12, 13, 14, 2, 23, 24, 25, 26, 27] rfl (by decide +kernel)
set_option maxRecDepth 20000 in
theorem gX6_runsTo_X6_lacksThreeFrom : GoodIn wsX6_runsTo (wsV RX6 36 RX6 yX6_lacksThreeFrom wsX6_lacksThreeFrom) := goodIn_app (goodIn_r _ [15, 16, 17, 6] rfl (by decide +kernel)) ggX6_runsTo_X6_lacksThreeFrom
theorem dX6_runsTo_0 : decode cX6_runsTo 0 = .ok (.aload_n 0, 1) := by decide +kernel
theorem dX6_runsTo_1 : decode cX6_runsTo 1 = .ok (.getfield 23, 3) := by decide +kernel
theorem dX6_runsTo_4 : decode cX6_runsTo 4 = .ok (.istore_n 1, 1) := by decide +kernel
theorem dX6_runsTo_5 : decode cX6_runsTo 5 = .ok (.iload_n 1, 1) := by decide +kernel
theorem dX6_runsTo_6 : decode cX6_runsTo 6 = .ok (.aload_n 0, 1) := by decide +kernel
theorem dX6_runsTo_7 : decode cX6_runsTo 7 = .ok (.getfield 19, 3) := by decide +kernel
theorem dX6_runsTo_10 : decode cX6_runsTo 10 = .ok (.if_icmp .ge 27, 3) := by decide +kernel
theorem dX6_runsTo_13 : decode cX6_runsTo 13 = .ok (.aload_n 0, 1) := by decide +kernel
theorem dX6_runsTo_14 : decode cX6_runsTo 14 = .ok (.iload_n 1, 1) := by decide +kernel
theorem dX6_runsTo_15 : decode cX6_runsTo 15 = .ok (.invokevirtual 52, 3) := by decide +kernel
theorem dX6_runsTo_18 : decode cX6_runsTo 18 = .ok (.ifCond .ne 11, 3) := by decide +kernel
theorem dX6_runsTo_21 : decode cX6_runsTo 21 = .ok (.aload_n 0, 1) := by decide +kernel
theorem dX6_runsTo_22 : decode cX6_runsTo 22 = .ok (.iload_n 1, 1) := by decide +kernel
theorem dX6_runsTo_23 : decode cX6_runsTo 23 = .ok (.invokevirtual 36, 3) := by decide +kernel
theorem dX6_runsTo_26 : decode cX6_runsTo 26 = .ok (.ifCond .eq 5, 3) := by decide +kernel
theorem dX6_runsTo_29 : decode cX6_runsTo 29 = .ok (.iload_n 1, 1) := by decide +kernel
theorem dX6_runsTo_30 : decode cX6_runsTo 30 = .ok (.ireturn, 1) := by decide +kernel
theorem dX6_runsTo_31 : decode cX6_runsTo 31 = .ok (.iinc 1 1, 3) := by decide +kernel
theorem dX6_runsTo_34 : decode cX6_runsTo 34 = .ok (.goto (-29), 3) := by decide +kernel
theorem dX6_runsTo_37 : decode cX6_runsTo 37 = .ok (.aload_n 0, 1) := by decide +kernel
theorem dX6_runsTo_38 : decode cX6_runsTo 38 = .ok (.getfield 19, 3) := by decide +kernel
theorem dX6_runsTo_41 : decode cX6_runsTo 41 = .ok (.ireturn, 1) := by decide +kernel

