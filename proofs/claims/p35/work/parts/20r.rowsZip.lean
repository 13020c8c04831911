section
def wsX6_become : List Cond := (.code yX6_become cX6_become 3 none) :: (.fieldLink RX6 9 "TheLiningsInIt$Zip" "lacking" "[Z") :: (.fieldLink RX6 15 "TheLiningsInIt$Zip" "slacks" "[I") :: (.fieldLink RX6 19 "TheLiningsInIt$Zip" "size" "I") :: (.fieldLink RX6 23 "TheLiningsInIt$Zip" "at" "I") :: (.fieldLink RX6 26 "TheLiningsInIt$Zip" "gap" "I") :: wsX60
def wsX6_has : List Cond := (.code yX6_has cX6_has 2 (some .boolean)) :: (.fieldLink RX6 19 "TheLiningsInIt$Zip" "size" "I") :: wsX60
def wsX6_catchesAt : List Cond := (.code yX6_catchesAt cX6_catchesAt 2 (some .boolean)) :: (.fieldLink RX6 9 "TheLiningsInIt$Zip" "lacking" "[Z") :: (.fieldLink RX6 15 "TheLiningsInIt$Zip" "slacks" "[I") :: (.fieldLink RX6 26 "TheLiningsInIt$Zip" "gap" "I") :: (.methodLink RX6 29 yX6_has) :: (.instanceMethod yX6_has) :: (.selects RX6 yX6_has yX6_has) :: (.initialized RX6) :: (.code yX6_has cX6_has 2 (some .boolean)) :: (.fieldLink RX6 19 "TheLiningsInIt$Zip" "size" "I") :: wsX60
def wsX6_lacksAt : List Cond := (.code yX6_lacksAt cX6_lacksAt 2 (some .boolean)) :: (.fieldLink RX6 9 "TheLiningsInIt$Zip" "lacking" "[Z") :: (.methodLink RX6 29 yX6_has) :: (.instanceMethod yX6_has) :: (.selects RX6 yX6_has yX6_has) :: (.initialized RX6) :: (.code yX6_has cX6_has 2 (some .boolean)) :: (.fieldLink RX6 19 "TheLiningsInIt$Zip" "size" "I") :: wsX60
def wsX6_lacksThreeFrom : List Cond := (.code yX6_lacksThreeFrom cX6_lacksThreeFrom 2 (some .boolean)) :: (.methodLink RX6 33 yX6_lacksAt) :: (.instanceMethod yX6_lacksAt) :: (.selects RX6 yX6_lacksAt yX6_lacksAt) :: (.initialized RX6) :: (.code yX6_lacksAt cX6_lacksAt 2 (some .boolean)) :: (.fieldLink RX6 9 "TheLiningsInIt$Zip" "lacking" "[Z") :: (.methodLink RX6 29 yX6_has) :: (.instanceMethod yX6_has) :: (.selects RX6 yX6_has yX6_has) :: (.code yX6_has cX6_has 2 (some .boolean)) :: (.fieldLink RX6 19 "TheLiningsInIt$Zip" "size" "I") :: wsX60
def wsX6_renew : List Cond := (.code yX6_renew cX6_renew 3 none) :: (.fieldLink RX6 19 "TheLiningsInIt$Zip" "size" "I") :: (.fieldLink RX6 23 "TheLiningsInIt$Zip" "at" "I") :: (.fieldLink RX6 9 "TheLiningsInIt$Zip" "lacking" "[Z") :: (.fieldLink RX6 15 "TheLiningsInIt$Zip" "slacks" "[I") :: wsX60
def wsX6_isStrong : List Cond := (.code yX6_isStrong cX6_isStrong 2 (some .boolean)) :: (.fieldLink RX6 19 "TheLiningsInIt$Zip" "size" "I") :: (.methodLink RX6 36 yX6_lacksThreeFrom) :: (.instanceMethod yX6_lacksThreeFrom) :: (.selects RX6 yX6_lacksThreeFrom yX6_lacksThreeFrom) :: (.initialized RX6) :: (.code yX6_lacksThreeFrom cX6_lacksThreeFrom 2 (some .boolean)) :: (.methodLink RX6 33 yX6_lacksAt) :: (.instanceMethod yX6_lacksAt) :: (.selects RX6 yX6_lacksAt yX6_lacksAt) :: (.code yX6_lacksAt cX6_lacksAt 2 (some .boolean)) :: (.fieldLink RX6 9 "TheLiningsInIt$Zip" "lacking" "[Z") :: (.methodLink RX6 29 yX6_has) :: (.instanceMethod yX6_has) :: (.selects RX6 yX6_has yX6_has) :: (.code yX6_has cX6_has 2 (some .boolean)) :: wsX60
def wsX6_isFrail : List Cond := (.code yX6_isFrail cX6_isFrail 4 (some .boolean)) :: (.methodLink RX6 33 yX6_lacksAt) :: (.instanceMethod yX6_lacksAt) :: (.selects RX6 yX6_lacksAt yX6_lacksAt) :: (.initialized RX6) :: (.code yX6_lacksAt cX6_lacksAt 2 (some .boolean)) :: (.fieldLink RX6 9 "TheLiningsInIt$Zip" "lacking" "[Z") :: (.methodLink RX6 29 yX6_has) :: (.instanceMethod yX6_has) :: (.selects RX6 yX6_has yX6_has) :: (.code yX6_has cX6_has 2 (some .boolean)) :: (.fieldLink RX6 19 "TheLiningsInIt$Zip" "size" "I") :: wsX60
def wsX6_frailTeeth : List Cond := (.code yX6_frailTeeth cX6_frailTeeth 3 (some .int)) :: (.fieldLink RX6 19 "TheLiningsInIt$Zip" "size" "I") :: (.fieldLink RX6 9 "TheLiningsInIt$Zip" "lacking" "[Z") :: (.methodLink RX6 39 yX6_isStrong) :: (.instanceMethod yX6_isStrong) :: (.selects RX6 yX6_isStrong yX6_isStrong) :: (.initialized RX6) :: (.code yX6_isStrong cX6_isStrong 2 (some .boolean)) :: (.methodLink RX6 36 yX6_lacksThreeFrom) :: (.instanceMethod yX6_lacksThreeFrom) :: (.selects RX6 yX6_lacksThreeFrom yX6_lacksThreeFrom) :: (.code yX6_lacksThreeFrom cX6_lacksThreeFrom 2 (some .boolean)) :: (.methodLink RX6 33 yX6_lacksAt) :: (.instanceMethod yX6_lacksAt) :: (.selects RX6 yX6_lacksAt yX6_lacksAt) :: (.code yX6_lacksAt cX6_lacksAt 2 (some .boolean)) :: (.methodLink RX6 29 yX6_has) :: (.instanceMethod yX6_has) :: (.selects RX6 yX6_has yX6_has) :: (.code yX6_has cX6_has 2 (some .boolean)) :: (.methodLink RX6 43 yX6_isFrail) :: (.instanceMethod yX6_isFrail) :: (.selects RX6 yX6_isFrail yX6_isFrail) :: (.code yX6_isFrail cX6_isFrail 4 (some .boolean)) :: wsX60
def wsX6_spareTeeth : List Cond := (.code yX6_spareTeeth cX6_spareTeeth 8 (some .int)) :: (.fieldLink RX6 19 "TheLiningsInIt$Zip" "size" "I") :: (.fieldLink RX6 9 "TheLiningsInIt$Zip" "lacking" "[Z") :: (.methodLink RX6 46 Lib.Math.max.name) :: (.static Lib.Math.max.name) :: (.initialized "java/lang/Math") :: (.code Lib.Math.max.name Lib.Math.max.code 2 (some .int)) :: (.methodLink RX6 39 yX6_isStrong) :: (.instanceMethod yX6_isStrong) :: (.selects RX6 yX6_isStrong yX6_isStrong) :: (.initialized RX6) :: (.code yX6_isStrong cX6_isStrong 2 (some .boolean)) :: (.methodLink RX6 36 yX6_lacksThreeFrom) :: (.instanceMethod yX6_lacksThreeFrom) :: (.selects RX6 yX6_lacksThreeFrom yX6_lacksThreeFrom) :: (.code yX6_lacksThreeFrom cX6_lacksThreeFrom 2 (some .boolean)) :: (.methodLink RX6 33 yX6_lacksAt) :: (.instanceMethod yX6_lacksAt) :: (.selects RX6 yX6_lacksAt yX6_lacksAt) :: (.code yX6_lacksAt cX6_lacksAt 2 (some .boolean)) :: (.methodLink RX6 29 yX6_has) :: (.instanceMethod yX6_has) :: (.selects RX6 yX6_has yX6_has) :: (.code yX6_has cX6_has 2 (some .boolean)) :: wsX60
def wsX6_lackingTeeth : List Cond := (.code yX6_lackingTeeth cX6_lackingTeeth 3 (some .int)) :: (.fieldLink RX6 19 "TheLiningsInIt$Zip" "size" "I") :: (.fieldLink RX6 9 "TheLiningsInIt$Zip" "lacking" "[Z") :: wsX60
def wsX6_catchingTeeth : List Cond := (.code yX6_catchingTeeth cX6_catchingTeeth 4 (some .int)) :: (.fieldLink RX6 19 "TheLiningsInIt$Zip" "size" "I") :: (.methodLink RX6 52 yX6_catchesAt) :: (.instanceMethod yX6_catchesAt) :: (.selects RX6 yX6_catchesAt yX6_catchesAt) :: (.initialized RX6) :: (.code yX6_catchesAt cX6_catchesAt 2 (some .boolean)) :: (.fieldLink RX6 9 "TheLiningsInIt$Zip" "lacking" "[Z") :: (.fieldLink RX6 15 "TheLiningsInIt$Zip" "slacks" "[I") :: (.fieldLink RX6 26 "TheLiningsInIt$Zip" "gap" "I") :: (.methodLink RX6 29 yX6_has) :: (.instanceMethod yX6_has) :: (.selects RX6 yX6_has yX6_has) :: (.code yX6_has cX6_has 2 (some .boolean)) :: wsX60
def wsX6_stitchesNeeded : List Cond := (.code yX6_stitchesNeeded cX6_stitchesNeeded 6 (some .int)) :: (.fieldLink RX6 19 "TheLiningsInIt$Zip" "size" "I") :: (.methodLink RX6 55 Lib.Math.min.name) :: (.static Lib.Math.min.name) :: (.initialized "java/lang/Math") :: (.code Lib.Math.min.name Lib.Math.min.code 2 (some .int)) :: (.methodLink RX6 52 yX6_catchesAt) :: (.instanceMethod yX6_catchesAt) :: (.selects RX6 yX6_catchesAt yX6_catchesAt) :: (.initialized RX6) :: (.code yX6_catchesAt cX6_catchesAt 2 (some .boolean)) :: (.fieldLink RX6 9 "TheLiningsInIt$Zip" "lacking" "[Z") :: (.fieldLink RX6 15 "TheLiningsInIt$Zip" "slacks" "[I") :: (.fieldLink RX6 26 "TheLiningsInIt$Zip" "gap" "I") :: (.methodLink RX6 29 yX6_has) :: (.instanceMethod yX6_has) :: (.selects RX6 yX6_has yX6_has) :: (.code yX6_has cX6_has 2 (some .boolean)) :: wsX60
def wsX6_takeSlack : List Cond := (.code yX6_takeSlack cX6_takeSlack 4 (some .int)) :: (.fieldLink RX6 15 "TheLiningsInIt$Zip" "slacks" "[I") :: (.methodLink RX6 29 yX6_has) :: (.instanceMethod yX6_has) :: (.selects RX6 yX6_has yX6_has) :: (.initialized RX6) :: (.code yX6_has cX6_has 2 (some .boolean)) :: (.fieldLink RX6 19 "TheLiningsInIt$Zip" "size" "I") :: wsX60
def wsX6_runsTo : List Cond := (.code yX6_runsTo cX6_runsTo 2 (some .int)) :: (.fieldLink RX6 23 "TheLiningsInIt$Zip" "at" "I") :: (.fieldLink RX6 19 "TheLiningsInIt$Zip" "size" "I") :: (.methodLink RX6 52 yX6_catchesAt) :: (.instanceMethod yX6_catchesAt) :: (.selects RX6 yX6_catchesAt yX6_catchesAt) :: (.initialized RX6) :: (.code yX6_catchesAt cX6_catchesAt 2 (some .boolean)) :: (.fieldLink RX6 9 "TheLiningsInIt$Zip" "lacking" "[Z") :: (.fieldLink RX6 15 "TheLiningsInIt$Zip" "slacks" "[I") :: (.fieldLink RX6 26 "TheLiningsInIt$Zip" "gap" "I") :: (.methodLink RX6 29 yX6_has) :: (.instanceMethod yX6_has) :: (.selects RX6 yX6_has yX6_has) :: (.code yX6_has cX6_has 2 (some .boolean)) :: (.methodLink RX6 36 yX6_lacksThreeFrom) :: (.instanceMethod yX6_lacksThreeFrom) :: (.selects RX6 yX6_lacksThreeFrom yX6_lacksThreeFrom) :: (.code yX6_lacksThreeFrom cX6_lacksThreeFrom 2 (some .boolean)) :: (.methodLink RX6 33 yX6_lacksAt) :: (.instanceMethod yX6_lacksAt) :: (.selects RX6 yX6_lacksAt yX6_lacksAt) :: (.code yX6_lacksAt cX6_lacksAt 2 (some .boolean)) :: wsX60
theorem dX6_renew_0 : decode cX6_renew 0 = .ok (.aload_n 0, 1) := dq_42 dp_cX6_renew rfl
theorem dX6_renew_1 : decode cX6_renew 1 = .ok (.iload_n 1, 1) := dq_27 dp_cX6_renew rfl
theorem dX6_renew_2 : decode cX6_renew 2 = .ok (.putfield 19, 3) := dq_181 dp_cX6_renew rfl
theorem dX6_renew_5 : decode cX6_renew 5 = .ok (.aload_n 0, 1) := dq_42 dp_cX6_renew rfl
theorem dX6_renew_6 : decode cX6_renew 6 = .ok (.iconst 0, 1) := dq_3 dp_cX6_renew rfl
theorem dX6_renew_7 : decode cX6_renew 7 = .ok (.putfield 23, 3) := dq_181 dp_cX6_renew rfl
theorem dX6_renew_10 : decode cX6_renew 10 = .ok (.iconst 0, 1) := dq_3 dp_cX6_renew rfl
theorem dX6_renew_11 : decode cX6_renew 11 = .ok (.istore_n 2, 1) := dq_61 dp_cX6_renew rfl
theorem dX6_renew_12 : decode cX6_renew 12 = .ok (.iload_n 2, 1) := dq_28 dp_cX6_renew rfl
theorem dX6_renew_13 : decode cX6_renew 13 = .ok (.bipush 40, 2) := dq_16 (v := 40) dp_cX6_renew rfl rfl
theorem dX6_renew_15 : decode cX6_renew 15 = .ok (.if_icmp .ge 23, 3) := dq_162 (v := 23) dp_cX6_renew rfl rfl
theorem dX6_renew_18 : decode cX6_renew 18 = .ok (.aload_n 0, 1) := dq_42 dp_cX6_renew rfl
theorem dX6_renew_19 : decode cX6_renew 19 = .ok (.getfield 9, 3) := dq_180 dp_cX6_renew rfl
theorem dX6_renew_22 : decode cX6_renew 22 = .ok (.iload_n 2, 1) := dq_28 dp_cX6_renew rfl
theorem dX6_renew_23 : decode cX6_renew 23 = .ok (.iconst 0, 1) := dq_3 dp_cX6_renew rfl
theorem dX6_renew_24 : decode cX6_renew 24 = .ok (.bastore, 1) := dq_84 dp_cX6_renew rfl
theorem dX6_renew_25 : decode cX6_renew 25 = .ok (.aload_n 0, 1) := dq_42 dp_cX6_renew rfl
theorem dX6_renew_26 : decode cX6_renew 26 = .ok (.getfield 15, 3) := dq_180 dp_cX6_renew rfl
theorem dX6_renew_29 : decode cX6_renew 29 = .ok (.iload_n 2, 1) := dq_28 dp_cX6_renew rfl
theorem dX6_renew_30 : decode cX6_renew 30 = .ok (.iconst 0, 1) := dq_3 dp_cX6_renew rfl
theorem dX6_renew_31 : decode cX6_renew 31 = .ok (.iastore, 1) := dq_79 dp_cX6_renew rfl
theorem dX6_renew_32 : decode cX6_renew 32 = .ok (.iinc 2 1, 3) := dq_132 (v := 1) dp_cX6_renew rfl (by decide) rfl
theorem dX6_renew_35 : decode cX6_renew 35 = .ok (.goto (-23), 3) := dq_167 (v := 65513) dp_cX6_renew rfl rfl
theorem dX6_renew_38 : decode cX6_renew 38 = .ok (.return_, 1) := dq_177 dp_cX6_renew rfl
theorem dX6_become_0 : decode cX6_become 0 = .ok (.iconst 0, 1) := dq_3 dp_cX6_become rfl
theorem dX6_become_1 : decode cX6_become 1 = .ok (.istore_n 2, 1) := dq_61 dp_cX6_become rfl
theorem dX6_become_2 : decode cX6_become 2 = .ok (.iload_n 2, 1) := dq_28 dp_cX6_become rfl
theorem dX6_become_3 : decode cX6_become 3 = .ok (.bipush 40, 2) := dq_16 (v := 40) dp_cX6_become rfl rfl
theorem dX6_become_5 : decode cX6_become 5 = .ok (.if_icmp .ge 33, 3) := dq_162 (v := 33) dp_cX6_become rfl rfl
theorem dX6_become_8 : decode cX6_become 8 = .ok (.aload_n 0, 1) := dq_42 dp_cX6_become rfl
theorem dX6_become_9 : decode cX6_become 9 = .ok (.getfield 9, 3) := dq_180 dp_cX6_become rfl
theorem dX6_become_12 : decode cX6_become 12 = .ok (.iload_n 2, 1) := dq_28 dp_cX6_become rfl
theorem dX6_become_13 : decode cX6_become 13 = .ok (.aload_n 1, 1) := dq_43 dp_cX6_become rfl
theorem dX6_become_14 : decode cX6_become 14 = .ok (.getfield 9, 3) := dq_180 dp_cX6_become rfl
theorem dX6_become_17 : decode cX6_become 17 = .ok (.iload_n 2, 1) := dq_28 dp_cX6_become rfl
theorem dX6_become_18 : decode cX6_become 18 = .ok (.baload, 1) := dq_51 dp_cX6_become rfl
theorem dX6_become_19 : decode cX6_become 19 = .ok (.bastore, 1) := dq_84 dp_cX6_become rfl
theorem dX6_become_20 : decode cX6_become 20 = .ok (.aload_n 0, 1) := dq_42 dp_cX6_become rfl
theorem dX6_become_21 : decode cX6_become 21 = .ok (.getfield 15, 3) := dq_180 dp_cX6_become rfl
theorem dX6_become_24 : decode cX6_become 24 = .ok (.iload_n 2, 1) := dq_28 dp_cX6_become rfl
theorem dX6_become_25 : decode cX6_become 25 = .ok (.aload_n 1, 1) := dq_43 dp_cX6_become rfl
theorem dX6_become_26 : decode cX6_become 26 = .ok (.getfield 15, 3) := dq_180 dp_cX6_become rfl
theorem dX6_become_29 : decode cX6_become 29 = .ok (.iload_n 2, 1) := dq_28 dp_cX6_become rfl
theorem dX6_become_30 : decode cX6_become 30 = .ok (.iaload, 1) := dq_46 dp_cX6_become rfl
theorem dX6_become_31 : decode cX6_become 31 = .ok (.iastore, 1) := dq_79 dp_cX6_become rfl
theorem dX6_become_32 : decode cX6_become 32 = .ok (.iinc 2 1, 3) := dq_132 (v := 1) dp_cX6_become rfl (by decide) rfl
theorem dX6_become_35 : decode cX6_become 35 = .ok (.goto (-33), 3) := dq_167 (v := 65503) dp_cX6_become rfl rfl
theorem dX6_become_38 : decode cX6_become 38 = .ok (.aload_n 0, 1) := dq_42 dp_cX6_become rfl
theorem dX6_become_39 : decode cX6_become 39 = .ok (.aload_n 1, 1) := dq_43 dp_cX6_become rfl
theorem dX6_become_40 : decode cX6_become 40 = .ok (.getfield 19, 3) := dq_180 dp_cX6_become rfl
theorem dX6_become_43 : decode cX6_become 43 = .ok (.putfield 19, 3) := dq_181 dp_cX6_become rfl
theorem dX6_become_46 : decode cX6_become 46 = .ok (.aload_n 0, 1) := dq_42 dp_cX6_become rfl
theorem dX6_become_47 : decode cX6_become 47 = .ok (.aload_n 1, 1) := dq_43 dp_cX6_become rfl
theorem dX6_become_48 : decode cX6_become 48 = .ok (.getfield 23, 3) := dq_180 dp_cX6_become rfl
theorem dX6_become_51 : decode cX6_become 51 = .ok (.putfield 23, 3) := dq_181 dp_cX6_become rfl
theorem dX6_become_54 : decode cX6_become 54 = .ok (.aload_n 0, 1) := dq_42 dp_cX6_become rfl
theorem dX6_become_55 : decode cX6_become 55 = .ok (.aload_n 1, 1) := dq_43 dp_cX6_become rfl
theorem dX6_become_56 : decode cX6_become 56 = .ok (.getfield 26, 3) := dq_180 dp_cX6_become rfl
theorem dX6_become_59 : decode cX6_become 59 = .ok (.putfield 26, 3) := dq_181 dp_cX6_become rfl
theorem dX6_become_62 : decode cX6_become 62 = .ok (.return_, 1) := dq_177 dp_cX6_become rfl
theorem dX6_has_0 : decode cX6_has 0 = .ok (.iload_n 1, 1) := dq_27 dp_cX6_has rfl
theorem dX6_has_1 : decode cX6_has 1 = .ok (.ifCond .lt 15, 3) := dq_155 (v := 15) dp_cX6_has rfl rfl
theorem dX6_has_4 : decode cX6_has 4 = .ok (.iload_n 1, 1) := dq_27 dp_cX6_has rfl
theorem dX6_has_5 : decode cX6_has 5 = .ok (.aload_n 0, 1) := dq_42 dp_cX6_has rfl
theorem dX6_has_6 : decode cX6_has 6 = .ok (.getfield 19, 3) := dq_180 dp_cX6_has rfl
theorem dX6_has_9 : decode cX6_has 9 = .ok (.if_icmp .ge 7, 3) := dq_162 (v := 7) dp_cX6_has rfl rfl
theorem dX6_has_12 : decode cX6_has 12 = .ok (.iconst 1, 1) := dq_4 dp_cX6_has rfl
theorem dX6_has_13 : decode cX6_has 13 = .ok (.goto 4, 3) := dq_167 (v := 4) dp_cX6_has rfl rfl
theorem dX6_has_16 : decode cX6_has 16 = .ok (.iconst 0, 1) := dq_3 dp_cX6_has rfl
theorem dX6_has_17 : decode cX6_has 17 = .ok (.ireturn, 1) := dq_172 dp_cX6_has rfl
set_option maxRecDepth 20000 in
theorem gl_X6_lacksAt_X60 : GoodIn wsX6_lacksAt wsX60 := (dg_t (dg_t (dg_t (dg_t (dg_t (dg_t (dg_t (dg_t gw_wsX60))))))))
theorem ggX6_lacksAt_X6_has : GoodIn wsX6_lacksAt wsX6_has := (dg_c 6 rfl rfl (dg_c 7 rfl rfl gl_X6_lacksAt_X60))
set_option maxRecDepth 20000 in
theorem gX6_lacksAt_X6_has : GoodIn wsX6_lacksAt (wsV RX6 29 RX6 yX6_has wsX6_has) := goodIn_app (dg_c 2 rfl rfl (dg_c 3 rfl rfl (dg_c 4 rfl rfl (dg_c 5 rfl rfl dg_0)))) ggX6_lacksAt_X6_has
theorem dX6_lacksAt_0 : decode cX6_lacksAt 0 = .ok (.aload_n 0, 1) := dq_42 dp_cX6_lacksAt rfl
theorem dX6_lacksAt_1 : decode cX6_lacksAt 1 = .ok (.iload_n 1, 1) := dq_27 dp_cX6_lacksAt rfl
theorem dX6_lacksAt_2 : decode cX6_lacksAt 2 = .ok (.invokevirtual 29, 3) := dq_182 dp_cX6_lacksAt rfl
theorem dX6_lacksAt_5 : decode cX6_lacksAt 5 = .ok (.ifCond .eq 16, 3) := dq_153 (v := 16) dp_cX6_lacksAt rfl rfl
theorem dX6_lacksAt_8 : decode cX6_lacksAt 8 = .ok (.aload_n 0, 1) := dq_42 dp_cX6_lacksAt rfl
theorem dX6_lacksAt_9 : decode cX6_lacksAt 9 = .ok (.getfield 9, 3) := dq_180 dp_cX6_lacksAt rfl
theorem dX6_lacksAt_12 : decode cX6_lacksAt 12 = .ok (.iload_n 1, 1) := dq_27 dp_cX6_lacksAt rfl
theorem dX6_lacksAt_13 : decode cX6_lacksAt 13 = .ok (.baload, 1) := dq_51 dp_cX6_lacksAt rfl
theorem dX6_lacksAt_14 : decode cX6_lacksAt 14 = .ok (.ifCond .eq 7, 3) := dq_153 (v := 7) dp_cX6_lacksAt rfl rfl
theorem dX6_lacksAt_17 : decode cX6_lacksAt 17 = .ok (.iconst 1, 1) := dq_4 dp_cX6_lacksAt rfl
theorem dX6_lacksAt_18 : decode cX6_lacksAt 18 = .ok (.goto 4, 3) := dq_167 (v := 4) dp_cX6_lacksAt rfl rfl
theorem dX6_lacksAt_21 : decode cX6_lacksAt 21 = .ok (.iconst 0, 1) := dq_3 dp_cX6_lacksAt rfl
theorem dX6_lacksAt_22 : decode cX6_lacksAt 22 = .ok (.ireturn, 1) := dq_172 dp_cX6_lacksAt rfl
set_option maxRecDepth 20000 in
theorem gl_X6_catchesAt_X60 : GoodIn wsX6_catchesAt wsX60 := (dg_t (dg_t (dg_t (dg_t (dg_t (dg_t (dg_t (dg_t (dg_t (dg_t gw_wsX60))))))))))
theorem ggX6_catchesAt_X6_has : GoodIn wsX6_catchesAt wsX6_has := (dg_c 8 rfl rfl (dg_c 9 rfl rfl gl_X6_catchesAt_X60))
set_option maxRecDepth 20000 in
theorem gX6_catchesAt_X6_has : GoodIn wsX6_catchesAt (wsV RX6 29 RX6 yX6_has wsX6_has) := goodIn_app (dg_c 4 rfl rfl (dg_c 5 rfl rfl (dg_c 6 rfl rfl (dg_c 7 rfl rfl dg_0)))) ggX6_catchesAt_X6_has
theorem dX6_catchesAt_0 : decode cX6_catchesAt 0 = .ok (.aload_n 0, 1) := dq_42 dp_cX6_catchesAt rfl
theorem dX6_catchesAt_1 : decode cX6_catchesAt 1 = .ok (.iload_n 1, 1) := dq_27 dp_cX6_catchesAt rfl
theorem dX6_catchesAt_2 : decode cX6_catchesAt 2 = .ok (.invokevirtual 29, 3) := dq_182 dp_cX6_catchesAt rfl
theorem dX6_catchesAt_5 : decode cX6_catchesAt 5 = .ok (.ifCond .eq 29, 3) := dq_153 (v := 29) dp_cX6_catchesAt rfl rfl
theorem dX6_catchesAt_8 : decode cX6_catchesAt 8 = .ok (.aload_n 0, 1) := dq_42 dp_cX6_catchesAt rfl
theorem dX6_catchesAt_9 : decode cX6_catchesAt 9 = .ok (.getfield 9, 3) := dq_180 dp_cX6_catchesAt rfl
theorem dX6_catchesAt_12 : decode cX6_catchesAt 12 = .ok (.iload_n 1, 1) := dq_27 dp_cX6_catchesAt rfl
theorem dX6_catchesAt_13 : decode cX6_catchesAt 13 = .ok (.baload, 1) := dq_51 dp_cX6_catchesAt rfl
theorem dX6_catchesAt_14 : decode cX6_catchesAt 14 = .ok (.ifCond .ne 20, 3) := dq_154 (v := 20) dp_cX6_catchesAt rfl rfl
theorem dX6_catchesAt_17 : decode cX6_catchesAt 17 = .ok (.aload_n 0, 1) := dq_42 dp_cX6_catchesAt rfl
theorem dX6_catchesAt_18 : decode cX6_catchesAt 18 = .ok (.getfield 15, 3) := dq_180 dp_cX6_catchesAt rfl
theorem dX6_catchesAt_21 : decode cX6_catchesAt 21 = .ok (.iload_n 1, 1) := dq_27 dp_cX6_catchesAt rfl
theorem dX6_catchesAt_22 : decode cX6_catchesAt 22 = .ok (.iaload, 1) := dq_46 dp_cX6_catchesAt rfl
theorem dX6_catchesAt_23 : decode cX6_catchesAt 23 = .ok (.aload_n 0, 1) := dq_42 dp_cX6_catchesAt rfl
theorem dX6_catchesAt_24 : decode cX6_catchesAt 24 = .ok (.getfield 26, 3) := dq_180 dp_cX6_catchesAt rfl
theorem dX6_catchesAt_27 : decode cX6_catchesAt 27 = .ok (.if_icmp .lt 7, 3) := dq_161 (v := 7) dp_cX6_catchesAt rfl rfl
theorem dX6_catchesAt_30 : decode cX6_catchesAt 30 = .ok (.iconst 1, 1) := dq_4 dp_cX6_catchesAt rfl
theorem dX6_catchesAt_31 : decode cX6_catchesAt 31 = .ok (.goto 4, 3) := dq_167 (v := 4) dp_cX6_catchesAt rfl rfl
theorem dX6_catchesAt_34 : decode cX6_catchesAt 34 = .ok (.iconst 0, 1) := dq_3 dp_cX6_catchesAt rfl
theorem dX6_catchesAt_35 : decode cX6_catchesAt 35 = .ok (.ireturn, 1) := dq_172 dp_cX6_catchesAt rfl
set_option maxRecDepth 20000 in
theorem gl_X6_lacksThreeFrom_X60 : GoodIn wsX6_lacksThreeFrom wsX60 := (dg_t (dg_t (dg_t (dg_t (dg_t (dg_t (dg_t (dg_t (dg_t (dg_t (dg_t (dg_t gw_wsX60))))))))))))
theorem ggX6_lacksThreeFrom_X6_lacksAt : GoodIn wsX6_lacksThreeFrom wsX6_lacksAt := (dg_c 5 rfl rfl (dg_c 6 rfl rfl (dg_c 7 rfl rfl (dg_c 8 rfl rfl (dg_c 9 rfl rfl (dg_c 4 rfl rfl (dg_c 10 rfl rfl (dg_c 11 rfl rfl gl_X6_lacksThreeFrom_X60))))))))
set_option maxRecDepth 20000 in
theorem gX6_lacksThreeFrom_X6_lacksAt : GoodIn wsX6_lacksThreeFrom (wsV RX6 33 RX6 yX6_lacksAt wsX6_lacksAt) := goodIn_app (dg_c 1 rfl rfl (dg_c 2 rfl rfl (dg_c 3 rfl rfl (dg_c 4 rfl rfl dg_0)))) ggX6_lacksThreeFrom_X6_lacksAt
theorem dX6_lacksThreeFrom_0 : decode cX6_lacksThreeFrom 0 = .ok (.aload_n 0, 1) := dq_42 dp_cX6_lacksThreeFrom rfl
theorem dX6_lacksThreeFrom_1 : decode cX6_lacksThreeFrom 1 = .ok (.iload_n 1, 1) := dq_27 dp_cX6_lacksThreeFrom rfl
theorem dX6_lacksThreeFrom_2 : decode cX6_lacksThreeFrom 2 = .ok (.invokevirtual 33, 3) := dq_182 dp_cX6_lacksThreeFrom rfl
theorem dX6_lacksThreeFrom_5 : decode cX6_lacksThreeFrom 5 = .ok (.ifCond .eq 27, 3) := dq_153 (v := 27) dp_cX6_lacksThreeFrom rfl rfl
theorem dX6_lacksThreeFrom_8 : decode cX6_lacksThreeFrom 8 = .ok (.aload_n 0, 1) := dq_42 dp_cX6_lacksThreeFrom rfl
theorem dX6_lacksThreeFrom_9 : decode cX6_lacksThreeFrom 9 = .ok (.iload_n 1, 1) := dq_27 dp_cX6_lacksThreeFrom rfl
theorem dX6_lacksThreeFrom_10 : decode cX6_lacksThreeFrom 10 = .ok (.iconst 1, 1) := dq_4 dp_cX6_lacksThreeFrom rfl
theorem dX6_lacksThreeFrom_11 : decode cX6_lacksThreeFrom 11 = .ok (.iadd, 1) := dq_96 dp_cX6_lacksThreeFrom rfl
theorem dX6_lacksThreeFrom_12 : decode cX6_lacksThreeFrom 12 = .ok (.invokevirtual 33, 3) := dq_182 dp_cX6_lacksThreeFrom rfl
theorem dX6_lacksThreeFrom_15 : decode cX6_lacksThreeFrom 15 = .ok (.ifCond .eq 17, 3) := dq_153 (v := 17) dp_cX6_lacksThreeFrom rfl rfl
theorem dX6_lacksThreeFrom_18 : decode cX6_lacksThreeFrom 18 = .ok (.aload_n 0, 1) := dq_42 dp_cX6_lacksThreeFrom rfl
theorem dX6_lacksThreeFrom_19 : decode cX6_lacksThreeFrom 19 = .ok (.iload_n 1, 1) := dq_27 dp_cX6_lacksThreeFrom rfl
theorem dX6_lacksThreeFrom_20 : decode cX6_lacksThreeFrom 20 = .ok (.iconst 2, 1) := dq_5 dp_cX6_lacksThreeFrom rfl
theorem dX6_lacksThreeFrom_21 : decode cX6_lacksThreeFrom 21 = .ok (.iadd, 1) := dq_96 dp_cX6_lacksThreeFrom rfl
theorem dX6_lacksThreeFrom_22 : decode cX6_lacksThreeFrom 22 = .ok (.invokevirtual 33, 3) := dq_182 dp_cX6_lacksThreeFrom rfl
theorem dX6_lacksThreeFrom_25 : decode cX6_lacksThreeFrom 25 = .ok (.ifCond .eq 7, 3) := dq_153 (v := 7) dp_cX6_lacksThreeFrom rfl rfl
theorem dX6_lacksThreeFrom_28 : decode cX6_lacksThreeFrom 28 = .ok (.iconst 1, 1) := dq_4 dp_cX6_lacksThreeFrom rfl
theorem dX6_lacksThreeFrom_29 : decode cX6_lacksThreeFrom 29 = .ok (.goto 4, 3) := dq_167 (v := 4) dp_cX6_lacksThreeFrom rfl rfl
theorem dX6_lacksThreeFrom_32 : decode cX6_lacksThreeFrom 32 = .ok (.iconst 0, 1) := dq_3 dp_cX6_lacksThreeFrom rfl
theorem dX6_lacksThreeFrom_33 : decode cX6_lacksThreeFrom 33 = .ok (.ireturn, 1) := dq_172 dp_cX6_lacksThreeFrom rfl
set_option maxRecDepth 20000 in
theorem gl_X6_isStrong_X60 : GoodIn wsX6_isStrong wsX60 := (dg_t (dg_t (dg_t (dg_t (dg_t (dg_t (dg_t (dg_t (dg_t (dg_t (dg_t (dg_t (dg_t (dg_t (dg_t (dg_t gw_wsX60))))))))))))))))
theorem ggX6_isStrong_X6_lacksThreeFrom : GoodIn wsX6_isStrong wsX6_lacksThreeFrom := (dg_c 6 rfl rfl (dg_c 7 rfl rfl (dg_c 8 rfl rfl (dg_c 9 rfl rfl (dg_c 5 rfl rfl (dg_c 10 rfl rfl (dg_c 11 rfl rfl (dg_c 12 rfl rfl (dg_c 13 rfl rfl (dg_c 14 rfl rfl (dg_c 15 rfl rfl (dg_c 1 rfl rfl gl_X6_isStrong_X60))))))))))))
set_option maxRecDepth 20000 in
theorem gX6_isStrong_X6_lacksThreeFrom : GoodIn wsX6_isStrong (wsV RX6 36 RX6 yX6_lacksThreeFrom wsX6_lacksThreeFrom) := goodIn_app (dg_c 2 rfl rfl (dg_c 3 rfl rfl (dg_c 4 rfl rfl (dg_c 5 rfl rfl dg_0)))) ggX6_isStrong_X6_lacksThreeFrom
theorem dX6_isStrong_0 : decode cX6_isStrong 0 = .ok (.iconst 0, 1) := dq_3 dp_cX6_isStrong rfl
theorem dX6_isStrong_1 : decode cX6_isStrong 1 = .ok (.istore_n 1, 1) := dq_60 dp_cX6_isStrong rfl
theorem dX6_isStrong_2 : decode cX6_isStrong 2 = .ok (.iload_n 1, 1) := dq_27 dp_cX6_isStrong rfl
theorem dX6_isStrong_3 : decode cX6_isStrong 3 = .ok (.aload_n 0, 1) := dq_42 dp_cX6_isStrong rfl
theorem dX6_isStrong_4 : decode cX6_isStrong 4 = .ok (.getfield 19, 3) := dq_180 dp_cX6_isStrong rfl
theorem dX6_isStrong_7 : decode cX6_isStrong 7 = .ok (.if_icmp .ge 19, 3) := dq_162 (v := 19) dp_cX6_isStrong rfl rfl
theorem dX6_isStrong_10 : decode cX6_isStrong 10 = .ok (.aload_n 0, 1) := dq_42 dp_cX6_isStrong rfl
theorem dX6_isStrong_11 : decode cX6_isStrong 11 = .ok (.iload_n 1, 1) := dq_27 dp_cX6_isStrong rfl
theorem dX6_isStrong_12 : decode cX6_isStrong 12 = .ok (.invokevirtual 36, 3) := dq_182 dp_cX6_isStrong rfl
theorem dX6_isStrong_15 : decode cX6_isStrong 15 = .ok (.ifCond .eq 5, 3) := dq_153 (v := 5) dp_cX6_isStrong rfl rfl
theorem dX6_isStrong_18 : decode cX6_isStrong 18 = .ok (.iconst 0, 1) := dq_3 dp_cX6_isStrong rfl
theorem dX6_isStrong_19 : decode cX6_isStrong 19 = .ok (.ireturn, 1) := dq_172 dp_cX6_isStrong rfl
theorem dX6_isStrong_20 : decode cX6_isStrong 20 = .ok (.iinc 1 1, 3) := dq_132 (v := 1) dp_cX6_isStrong rfl (by decide) rfl
theorem dX6_isStrong_23 : decode cX6_isStrong 23 = .ok (.goto (-21), 3) := dq_167 (v := 65515) dp_cX6_isStrong rfl rfl
theorem dX6_isStrong_26 : decode cX6_isStrong 26 = .ok (.iconst 1, 1) := dq_4 dp_cX6_isStrong rfl
theorem dX6_isStrong_27 : decode cX6_isStrong 27 = .ok (.ireturn, 1) := dq_172 dp_cX6_isStrong rfl
set_option maxRecDepth 20000 in
theorem gl_X6_frailTeeth_X60 : GoodIn wsX6_frailTeeth wsX60 := (dg_t (dg_t (dg_t (dg_t (dg_t (dg_t (dg_t (dg_t (dg_t (dg_t (dg_t (dg_t (dg_t (dg_t (dg_t (dg_t (dg_t (dg_t (dg_t (dg_t (dg_t (dg_t (dg_t (dg_t gw_wsX60))))))))))))))))))))))))
theorem ggX6_frailTeeth_X6_isStrong : GoodIn wsX6_frailTeeth wsX6_isStrong := (dg_c 7 rfl rfl (dg_c 1 rfl rfl (dg_c 8 rfl rfl (dg_c 9 rfl rfl (dg_c 10 rfl rfl (dg_c 6 rfl rfl (dg_c 11 rfl rfl (dg_c 12 rfl rfl (dg_c 13 rfl rfl (dg_c 14 rfl rfl (dg_c 15 rfl rfl (dg_c 2 rfl rfl (dg_c 16 rfl rfl (dg_c 17 rfl rfl (dg_c 18 rfl rfl (dg_c 19 rfl rfl gl_X6_frailTeeth_X60))))))))))))))))
set_option maxRecDepth 20000 in
theorem gX6_frailTeeth_X6_isStrong : GoodIn wsX6_frailTeeth (wsV RX6 39 RX6 yX6_isStrong wsX6_isStrong) := goodIn_app (dg_c 3 rfl rfl (dg_c 4 rfl rfl (dg_c 5 rfl rfl (dg_c 6 rfl rfl dg_0)))) ggX6_frailTeeth_X6_isStrong
set_option maxRecDepth 20000 in
theorem ggX6_frailTeeth_X6_isFrail : GoodIn wsX6_frailTeeth wsX6_isFrail := (dg_c 23 rfl rfl (dg_c 12 rfl rfl (dg_c 13 rfl rfl (dg_c 14 rfl rfl (dg_c 6 rfl rfl (dg_c 15 rfl rfl (dg_c 2 rfl rfl (dg_c 16 rfl rfl (dg_c 17 rfl rfl (dg_c 18 rfl rfl (dg_c 19 rfl rfl (dg_c 1 rfl rfl gl_X6_frailTeeth_X60))))))))))))
set_option maxRecDepth 20000 in
theorem gX6_frailTeeth_X6_isFrail : GoodIn wsX6_frailTeeth (wsV RX6 43 RX6 yX6_isFrail wsX6_isFrail) := goodIn_app (dg_c 20 rfl rfl (dg_c 21 rfl rfl (dg_c 22 rfl rfl (dg_c 6 rfl rfl dg_0)))) ggX6_frailTeeth_X6_isFrail
theorem dX6_frailTeeth_0 : decode cX6_frailTeeth 0 = .ok (.aload_n 0, 1) := dq_42 dp_cX6_frailTeeth rfl
theorem dX6_frailTeeth_1 : decode cX6_frailTeeth 1 = .ok (.invokevirtual 39, 3) := dq_182 dp_cX6_frailTeeth rfl
theorem dX6_frailTeeth_4 : decode cX6_frailTeeth 4 = .ok (.ifCond .ne 5, 3) := dq_154 (v := 5) dp_cX6_frailTeeth rfl rfl
theorem dX6_frailTeeth_7 : decode cX6_frailTeeth 7 = .ok (.iconst 0, 1) := dq_3 dp_cX6_frailTeeth rfl
theorem dX6_frailTeeth_8 : decode cX6_frailTeeth 8 = .ok (.ireturn, 1) := dq_172 dp_cX6_frailTeeth rfl
theorem dX6_frailTeeth_9 : decode cX6_frailTeeth 9 = .ok (.iconst 0, 1) := dq_3 dp_cX6_frailTeeth rfl
theorem dX6_frailTeeth_10 : decode cX6_frailTeeth 10 = .ok (.istore_n 1, 1) := dq_60 dp_cX6_frailTeeth rfl
theorem dX6_frailTeeth_11 : decode cX6_frailTeeth 11 = .ok (.iconst 0, 1) := dq_3 dp_cX6_frailTeeth rfl
theorem dX6_frailTeeth_12 : decode cX6_frailTeeth 12 = .ok (.istore_n 2, 1) := dq_61 dp_cX6_frailTeeth rfl
theorem dX6_frailTeeth_13 : decode cX6_frailTeeth 13 = .ok (.iload_n 2, 1) := dq_28 dp_cX6_frailTeeth rfl
theorem dX6_frailTeeth_14 : decode cX6_frailTeeth 14 = .ok (.aload_n 0, 1) := dq_42 dp_cX6_frailTeeth rfl
theorem dX6_frailTeeth_15 : decode cX6_frailTeeth 15 = .ok (.getfield 19, 3) := dq_180 dp_cX6_frailTeeth rfl
theorem dX6_frailTeeth_18 : decode cX6_frailTeeth 18 = .ok (.if_icmp .ge 29, 3) := dq_162 (v := 29) dp_cX6_frailTeeth rfl rfl
theorem dX6_frailTeeth_21 : decode cX6_frailTeeth 21 = .ok (.aload_n 0, 1) := dq_42 dp_cX6_frailTeeth rfl
theorem dX6_frailTeeth_22 : decode cX6_frailTeeth 22 = .ok (.getfield 9, 3) := dq_180 dp_cX6_frailTeeth rfl
theorem dX6_frailTeeth_25 : decode cX6_frailTeeth 25 = .ok (.iload_n 2, 1) := dq_28 dp_cX6_frailTeeth rfl
theorem dX6_frailTeeth_26 : decode cX6_frailTeeth 26 = .ok (.baload, 1) := dq_51 dp_cX6_frailTeeth rfl
theorem dX6_frailTeeth_27 : decode cX6_frailTeeth 27 = .ok (.ifCond .ne 14, 3) := dq_154 (v := 14) dp_cX6_frailTeeth rfl rfl
theorem dX6_frailTeeth_30 : decode cX6_frailTeeth 30 = .ok (.aload_n 0, 1) := dq_42 dp_cX6_frailTeeth rfl
theorem dX6_frailTeeth_31 : decode cX6_frailTeeth 31 = .ok (.iload_n 2, 1) := dq_28 dp_cX6_frailTeeth rfl
theorem dX6_frailTeeth_32 : decode cX6_frailTeeth 32 = .ok (.invokevirtual 43, 3) := dq_182 dp_cX6_frailTeeth rfl
theorem dX6_frailTeeth_35 : decode cX6_frailTeeth 35 = .ok (.ifCond .eq 6, 3) := dq_153 (v := 6) dp_cX6_frailTeeth rfl rfl
theorem dX6_frailTeeth_38 : decode cX6_frailTeeth 38 = .ok (.iinc 1 1, 3) := dq_132 (v := 1) dp_cX6_frailTeeth rfl (by decide) rfl
theorem dX6_frailTeeth_41 : decode cX6_frailTeeth 41 = .ok (.iinc 2 1, 3) := dq_132 (v := 1) dp_cX6_frailTeeth rfl (by decide) rfl
theorem dX6_frailTeeth_44 : decode cX6_frailTeeth 44 = .ok (.goto (-31), 3) := dq_167 (v := 65505) dp_cX6_frailTeeth rfl rfl
theorem dX6_frailTeeth_47 : decode cX6_frailTeeth 47 = .ok (.iload_n 1, 1) := dq_27 dp_cX6_frailTeeth rfl
theorem dX6_frailTeeth_48 : decode cX6_frailTeeth 48 = .ok (.ireturn, 1) := dq_172 dp_cX6_frailTeeth rfl
set_option maxRecDepth 20000 in
theorem gl_X6_isFrail_X60 : GoodIn wsX6_isFrail wsX60 := (dg_t (dg_t (dg_t (dg_t (dg_t (dg_t (dg_t (dg_t (dg_t (dg_t (dg_t (dg_t gw_wsX60))))))))))))
theorem ggX6_isFrail_X6_lacksAt : GoodIn wsX6_isFrail wsX6_lacksAt := (dg_c 5 rfl rfl (dg_c 6 rfl rfl (dg_c 7 rfl rfl (dg_c 8 rfl rfl (dg_c 9 rfl rfl (dg_c 4 rfl rfl (dg_c 10 rfl rfl (dg_c 11 rfl rfl gl_X6_isFrail_X60))))))))
set_option maxRecDepth 20000 in
theorem gX6_isFrail_X6_lacksAt : GoodIn wsX6_isFrail (wsV RX6 33 RX6 yX6_lacksAt wsX6_lacksAt) := goodIn_app (dg_c 1 rfl rfl (dg_c 2 rfl rfl (dg_c 3 rfl rfl (dg_c 4 rfl rfl dg_0)))) ggX6_isFrail_X6_lacksAt
theorem dX6_isFrail_0 : decode cX6_isFrail 0 = .ok (.aload_n 0, 1) := dq_42 dp_cX6_isFrail rfl
theorem dX6_isFrail_1 : decode cX6_isFrail 1 = .ok (.iload_n 1, 1) := dq_27 dp_cX6_isFrail rfl
theorem dX6_isFrail_2 : decode cX6_isFrail 2 = .ok (.iconst 1, 1) := dq_4 dp_cX6_isFrail rfl
theorem dX6_isFrail_3 : decode cX6_isFrail 3 = .ok (.isub, 1) := dq_100 dp_cX6_isFrail rfl
theorem dX6_isFrail_4 : decode cX6_isFrail 4 = .ok (.invokevirtual 33, 3) := dq_182 dp_cX6_isFrail rfl
theorem dX6_isFrail_7 : decode cX6_isFrail 7 = .ok (.istore_n 2, 1) := dq_61 dp_cX6_isFrail rfl
theorem dX6_isFrail_8 : decode cX6_isFrail 8 = .ok (.aload_n 0, 1) := dq_42 dp_cX6_isFrail rfl
theorem dX6_isFrail_9 : decode cX6_isFrail 9 = .ok (.iload_n 1, 1) := dq_27 dp_cX6_isFrail rfl
theorem dX6_isFrail_10 : decode cX6_isFrail 10 = .ok (.iconst 1, 1) := dq_4 dp_cX6_isFrail rfl
theorem dX6_isFrail_11 : decode cX6_isFrail 11 = .ok (.iadd, 1) := dq_96 dp_cX6_isFrail rfl
theorem dX6_isFrail_12 : decode cX6_isFrail 12 = .ok (.invokevirtual 33, 3) := dq_182 dp_cX6_isFrail rfl
theorem dX6_isFrail_15 : decode cX6_isFrail 15 = .ok (.istore_n 3, 1) := dq_62 dp_cX6_isFrail rfl
theorem dX6_isFrail_16 : decode cX6_isFrail 16 = .ok (.iload_n 2, 1) := dq_28 dp_cX6_isFrail rfl
theorem dX6_isFrail_17 : decode cX6_isFrail 17 = .ok (.ifCond .eq 13, 3) := dq_153 (v := 13) dp_cX6_isFrail rfl rfl
theorem dX6_isFrail_20 : decode cX6_isFrail 20 = .ok (.aload_n 0, 1) := dq_42 dp_cX6_isFrail rfl
theorem dX6_isFrail_21 : decode cX6_isFrail 21 = .ok (.iload_n 1, 1) := dq_27 dp_cX6_isFrail rfl
theorem dX6_isFrail_22 : decode cX6_isFrail 22 = .ok (.iconst 2, 1) := dq_5 dp_cX6_isFrail rfl
theorem dX6_isFrail_23 : decode cX6_isFrail 23 = .ok (.isub, 1) := dq_100 dp_cX6_isFrail rfl
theorem dX6_isFrail_24 : decode cX6_isFrail 24 = .ok (.invokevirtual 33, 3) := dq_182 dp_cX6_isFrail rfl
theorem dX6_isFrail_27 : decode cX6_isFrail 27 = .ok (.ifCond .ne 25, 3) := dq_154 (v := 25) dp_cX6_isFrail rfl rfl
theorem dX6_isFrail_30 : decode cX6_isFrail 30 = .ok (.iload_n 2, 1) := dq_28 dp_cX6_isFrail rfl
theorem dX6_isFrail_31 : decode cX6_isFrail 31 = .ok (.ifCond .eq 7, 3) := dq_153 (v := 7) dp_cX6_isFrail rfl rfl
theorem dX6_isFrail_34 : decode cX6_isFrail 34 = .ok (.iload_n 3, 1) := dq_29 dp_cX6_isFrail rfl
theorem dX6_isFrail_35 : decode cX6_isFrail 35 = .ok (.ifCond .ne 17, 3) := dq_154 (v := 17) dp_cX6_isFrail rfl rfl
theorem dX6_isFrail_38 : decode cX6_isFrail 38 = .ok (.iload_n 3, 1) := dq_29 dp_cX6_isFrail rfl
theorem dX6_isFrail_39 : decode cX6_isFrail 39 = .ok (.ifCond .eq 17, 3) := dq_153 (v := 17) dp_cX6_isFrail rfl rfl
theorem dX6_isFrail_42 : decode cX6_isFrail 42 = .ok (.aload_n 0, 1) := dq_42 dp_cX6_isFrail rfl
theorem dX6_isFrail_43 : decode cX6_isFrail 43 = .ok (.iload_n 1, 1) := dq_27 dp_cX6_isFrail rfl
theorem dX6_isFrail_44 : decode cX6_isFrail 44 = .ok (.iconst 2, 1) := dq_5 dp_cX6_isFrail rfl
theorem dX6_isFrail_45 : decode cX6_isFrail 45 = .ok (.iadd, 1) := dq_96 dp_cX6_isFrail rfl
theorem dX6_isFrail_46 : decode cX6_isFrail 46 = .ok (.invokevirtual 33, 3) := dq_182 dp_cX6_isFrail rfl
theorem dX6_isFrail_49 : decode cX6_isFrail 49 = .ok (.ifCond .eq 7, 3) := dq_153 (v := 7) dp_cX6_isFrail rfl rfl
theorem dX6_isFrail_52 : decode cX6_isFrail 52 = .ok (.iconst 1, 1) := dq_4 dp_cX6_isFrail rfl
theorem dX6_isFrail_53 : decode cX6_isFrail 53 = .ok (.goto 4, 3) := dq_167 (v := 4) dp_cX6_isFrail rfl rfl
theorem dX6_isFrail_56 : decode cX6_isFrail 56 = .ok (.iconst 0, 1) := dq_3 dp_cX6_isFrail rfl
theorem dX6_isFrail_57 : decode cX6_isFrail 57 = .ok (.ireturn, 1) := dq_172 dp_cX6_isFrail rfl
set_option maxRecDepth 20000 in
theorem gl_X6_spareTeeth_X60 : GoodIn wsX6_spareTeeth wsX60 := (dg_t (dg_t (dg_t (dg_t (dg_t (dg_t (dg_t (dg_t (dg_t (dg_t (dg_t (dg_t (dg_t (dg_t (dg_t (dg_t (dg_t (dg_t (dg_t (dg_t (dg_t (dg_t (dg_t (dg_t gw_wsX60))))))))))))))))))))))))
theorem ggX6_spareTeeth_X6_isStrong : GoodIn wsX6_spareTeeth wsX6_isStrong := (dg_c 11 rfl rfl (dg_c 1 rfl rfl (dg_c 12 rfl rfl (dg_c 13 rfl rfl (dg_c 14 rfl rfl (dg_c 10 rfl rfl (dg_c 15 rfl rfl (dg_c 16 rfl rfl (dg_c 17 rfl rfl (dg_c 18 rfl rfl (dg_c 19 rfl rfl (dg_c 2 rfl rfl (dg_c 20 rfl rfl (dg_c 21 rfl rfl (dg_c 22 rfl rfl (dg_c 23 rfl rfl gl_X6_spareTeeth_X60))))))))))))))))
set_option maxRecDepth 20000 in
theorem gX6_spareTeeth_X6_isStrong : GoodIn wsX6_spareTeeth (wsV RX6 39 RX6 yX6_isStrong wsX6_isStrong) := goodIn_app (dg_c 7 rfl rfl (dg_c 8 rfl rfl (dg_c 9 rfl rfl (dg_c 10 rfl rfl dg_0)))) ggX6_spareTeeth_X6_isStrong
theorem dX6_spareTeeth_0 : decode cX6_spareTeeth 0 = .ok (.aload_n 0, 1) := dq_42 dp_cX6_spareTeeth rfl
theorem dX6_spareTeeth_1 : decode cX6_spareTeeth 1 = .ok (.invokevirtual 39, 3) := dq_182 dp_cX6_spareTeeth rfl
theorem dX6_spareTeeth_4 : decode cX6_spareTeeth 4 = .ok (.ifCond .ne 5, 3) := dq_154 (v := 5) dp_cX6_spareTeeth rfl rfl
theorem dX6_spareTeeth_7 : decode cX6_spareTeeth 7 = .ok (.iconst 0, 1) := dq_3 dp_cX6_spareTeeth rfl
theorem dX6_spareTeeth_8 : decode cX6_spareTeeth 8 = .ok (.ireturn, 1) := dq_172 dp_cX6_spareTeeth rfl
theorem dX6_spareTeeth_9 : decode cX6_spareTeeth 9 = .ok (.bipush (-41), 2) := dq_16 (v := 215) dp_cX6_spareTeeth rfl rfl
theorem dX6_spareTeeth_11 : decode cX6_spareTeeth 11 = .ok (.istore_n 1, 1) := dq_60 dp_cX6_spareTeeth rfl
theorem dX6_spareTeeth_12 : decode cX6_spareTeeth 12 = .ok (.iconst 0, 1) := dq_3 dp_cX6_spareTeeth rfl
theorem dX6_spareTeeth_13 : decode cX6_spareTeeth 13 = .ok (.istore_n 2, 1) := dq_61 dp_cX6_spareTeeth rfl
theorem dX6_spareTeeth_14 : decode cX6_spareTeeth 14 = .ok (.iload_n 1, 1) := dq_27 dp_cX6_spareTeeth rfl
theorem dX6_spareTeeth_15 : decode cX6_spareTeeth 15 = .ok (.istore_n 3, 1) := dq_62 dp_cX6_spareTeeth rfl
theorem dX6_spareTeeth_16 : decode cX6_spareTeeth 16 = .ok (.iload_n 1, 1) := dq_27 dp_cX6_spareTeeth rfl
theorem dX6_spareTeeth_17 : decode cX6_spareTeeth 17 = .ok (.istore 4, 2) := dq_54 dp_cX6_spareTeeth rfl
theorem dX6_spareTeeth_19 : decode cX6_spareTeeth 19 = .ok (.iconst 0, 1) := dq_3 dp_cX6_spareTeeth rfl
theorem dX6_spareTeeth_20 : decode cX6_spareTeeth 20 = .ok (.istore 5, 2) := dq_54 dp_cX6_spareTeeth rfl
theorem dX6_spareTeeth_22 : decode cX6_spareTeeth 22 = .ok (.iload 5, 2) := dq_21 dp_cX6_spareTeeth rfl
theorem dX6_spareTeeth_24 : decode cX6_spareTeeth 24 = .ok (.aload_n 0, 1) := dq_42 dp_cX6_spareTeeth rfl
theorem dX6_spareTeeth_25 : decode cX6_spareTeeth 25 = .ok (.getfield 19, 3) := dq_180 dp_cX6_spareTeeth rfl
theorem dX6_spareTeeth_28 : decode cX6_spareTeeth 28 = .ok (.if_icmp .ge 66, 3) := dq_162 (v := 66) dp_cX6_spareTeeth rfl rfl
theorem dX6_spareTeeth_31 : decode cX6_spareTeeth 31 = .ok (.aload_n 0, 1) := dq_42 dp_cX6_spareTeeth rfl
theorem dX6_spareTeeth_32 : decode cX6_spareTeeth 32 = .ok (.getfield 9, 3) := dq_180 dp_cX6_spareTeeth rfl
theorem dX6_spareTeeth_35 : decode cX6_spareTeeth 35 = .ok (.iload 5, 2) := dq_21 dp_cX6_spareTeeth rfl
theorem dX6_spareTeeth_37 : decode cX6_spareTeeth 37 = .ok (.baload, 1) := dq_51 dp_cX6_spareTeeth rfl
theorem dX6_spareTeeth_38 : decode cX6_spareTeeth 38 = .ok (.ifCond .eq 7, 3) := dq_153 (v := 7) dp_cX6_spareTeeth rfl rfl
theorem dX6_spareTeeth_41 : decode cX6_spareTeeth 41 = .ok (.iconst 0, 1) := dq_3 dp_cX6_spareTeeth rfl
theorem dX6_spareTeeth_42 : decode cX6_spareTeeth 42 = .ok (.goto 4, 3) := dq_167 (v := 4) dp_cX6_spareTeeth rfl rfl
theorem dX6_spareTeeth_45 : decode cX6_spareTeeth 45 = .ok (.iconst 1, 1) := dq_4 dp_cX6_spareTeeth rfl
theorem dX6_spareTeeth_46 : decode cX6_spareTeeth 46 = .ok (.istore 6, 2) := dq_54 dp_cX6_spareTeeth rfl
theorem dX6_spareTeeth_48 : decode cX6_spareTeeth 48 = .ok (.iload_n 2, 1) := dq_28 dp_cX6_spareTeeth rfl
theorem dX6_spareTeeth_49 : decode cX6_spareTeeth 49 = .ok (.iload_n 3, 1) := dq_29 dp_cX6_spareTeeth rfl
theorem dX6_spareTeeth_50 : decode cX6_spareTeeth 50 = .ok (.iload 4, 2) := dq_21 dp_cX6_spareTeeth rfl
theorem dX6_spareTeeth_52 : decode cX6_spareTeeth 52 = .ok (.invokestatic 46, 3) := dq_184 dp_cX6_spareTeeth rfl
theorem dX6_spareTeeth_55 : decode cX6_spareTeeth 55 = .ok (.invokestatic 46, 3) := dq_184 dp_cX6_spareTeeth rfl
theorem dX6_spareTeeth_58 : decode cX6_spareTeeth 58 = .ok (.istore 7, 2) := dq_54 dp_cX6_spareTeeth rfl
theorem dX6_spareTeeth_60 : decode cX6_spareTeeth 60 = .ok (.iload_n 3, 1) := dq_29 dp_cX6_spareTeeth rfl
theorem dX6_spareTeeth_61 : decode cX6_spareTeeth 61 = .ok (.iload 6, 2) := dq_21 dp_cX6_spareTeeth rfl
theorem dX6_spareTeeth_63 : decode cX6_spareTeeth 63 = .ok (.iadd, 1) := dq_96 dp_cX6_spareTeeth rfl
theorem dX6_spareTeeth_64 : decode cX6_spareTeeth 64 = .ok (.istore 4, 2) := dq_54 dp_cX6_spareTeeth rfl
theorem dX6_spareTeeth_66 : decode cX6_spareTeeth 66 = .ok (.iload_n 2, 1) := dq_28 dp_cX6_spareTeeth rfl
theorem dX6_spareTeeth_67 : decode cX6_spareTeeth 67 = .ok (.iload 6, 2) := dq_21 dp_cX6_spareTeeth rfl
theorem dX6_spareTeeth_69 : decode cX6_spareTeeth 69 = .ok (.iadd, 1) := dq_96 dp_cX6_spareTeeth rfl
theorem dX6_spareTeeth_70 : decode cX6_spareTeeth 70 = .ok (.istore_n 3, 1) := dq_62 dp_cX6_spareTeeth rfl
theorem dX6_spareTeeth_71 : decode cX6_spareTeeth 71 = .ok (.aload_n 0, 1) := dq_42 dp_cX6_spareTeeth rfl
theorem dX6_spareTeeth_72 : decode cX6_spareTeeth 72 = .ok (.getfield 9, 3) := dq_180 dp_cX6_spareTeeth rfl
theorem dX6_spareTeeth_75 : decode cX6_spareTeeth 75 = .ok (.iload 5, 2) := dq_21 dp_cX6_spareTeeth rfl
theorem dX6_spareTeeth_77 : decode cX6_spareTeeth 77 = .ok (.baload, 1) := dq_51 dp_cX6_spareTeeth rfl
theorem dX6_spareTeeth_78 : decode cX6_spareTeeth 78 = .ok (.ifCond .eq 7, 3) := dq_153 (v := 7) dp_cX6_spareTeeth rfl rfl
theorem dX6_spareTeeth_81 : decode cX6_spareTeeth 81 = .ok (.iload_n 1, 1) := dq_27 dp_cX6_spareTeeth rfl
theorem dX6_spareTeeth_82 : decode cX6_spareTeeth 82 = .ok (.goto 5, 3) := dq_167 (v := 5) dp_cX6_spareTeeth rfl rfl
theorem dX6_spareTeeth_85 : decode cX6_spareTeeth 85 = .ok (.iload 7, 2) := dq_21 dp_cX6_spareTeeth rfl
theorem dX6_spareTeeth_87 : decode cX6_spareTeeth 87 = .ok (.istore_n 2, 1) := dq_61 dp_cX6_spareTeeth rfl
theorem dX6_spareTeeth_88 : decode cX6_spareTeeth 88 = .ok (.iinc 5 1, 3) := dq_132 (v := 1) dp_cX6_spareTeeth rfl (by decide) rfl
theorem dX6_spareTeeth_91 : decode cX6_spareTeeth 91 = .ok (.goto (-69), 3) := dq_167 (v := 65467) dp_cX6_spareTeeth rfl rfl
theorem dX6_spareTeeth_94 : decode cX6_spareTeeth 94 = .ok (.iload_n 2, 1) := dq_28 dp_cX6_spareTeeth rfl
theorem dX6_spareTeeth_95 : decode cX6_spareTeeth 95 = .ok (.iload_n 3, 1) := dq_29 dp_cX6_spareTeeth rfl
theorem dX6_spareTeeth_96 : decode cX6_spareTeeth 96 = .ok (.iload 4, 2) := dq_21 dp_cX6_spareTeeth rfl
theorem dX6_spareTeeth_98 : decode cX6_spareTeeth 98 = .ok (.invokestatic 46, 3) := dq_184 dp_cX6_spareTeeth rfl
theorem dX6_spareTeeth_101 : decode cX6_spareTeeth 101 = .ok (.invokestatic 46, 3) := dq_184 dp_cX6_spareTeeth rfl
theorem dX6_spareTeeth_104 : decode cX6_spareTeeth 104 = .ok (.ireturn, 1) := dq_172 dp_cX6_spareTeeth rfl
theorem dX6_lackingTeeth_0 : decode cX6_lackingTeeth 0 = .ok (.iconst 0, 1) := dq_3 dp_cX6_lackingTeeth rfl
theorem dX6_lackingTeeth_1 : decode cX6_lackingTeeth 1 = .ok (.istore_n 1, 1) := dq_60 dp_cX6_lackingTeeth rfl
theorem dX6_lackingTeeth_2 : decode cX6_lackingTeeth 2 = .ok (.iconst 0, 1) := dq_3 dp_cX6_lackingTeeth rfl
theorem dX6_lackingTeeth_3 : decode cX6_lackingTeeth 3 = .ok (.istore_n 2, 1) := dq_61 dp_cX6_lackingTeeth rfl
theorem dX6_lackingTeeth_4 : decode cX6_lackingTeeth 4 = .ok (.iload_n 2, 1) := dq_28 dp_cX6_lackingTeeth rfl
theorem dX6_lackingTeeth_5 : decode cX6_lackingTeeth 5 = .ok (.aload_n 0, 1) := dq_42 dp_cX6_lackingTeeth rfl
theorem dX6_lackingTeeth_6 : decode cX6_lackingTeeth 6 = .ok (.getfield 19, 3) := dq_180 dp_cX6_lackingTeeth rfl
theorem dX6_lackingTeeth_9 : decode cX6_lackingTeeth 9 = .ok (.if_icmp .ge 21, 3) := dq_162 (v := 21) dp_cX6_lackingTeeth rfl rfl
theorem dX6_lackingTeeth_12 : decode cX6_lackingTeeth 12 = .ok (.aload_n 0, 1) := dq_42 dp_cX6_lackingTeeth rfl
theorem dX6_lackingTeeth_13 : decode cX6_lackingTeeth 13 = .ok (.getfield 9, 3) := dq_180 dp_cX6_lackingTeeth rfl
theorem dX6_lackingTeeth_16 : decode cX6_lackingTeeth 16 = .ok (.iload_n 2, 1) := dq_28 dp_cX6_lackingTeeth rfl
theorem dX6_lackingTeeth_17 : decode cX6_lackingTeeth 17 = .ok (.baload, 1) := dq_51 dp_cX6_lackingTeeth rfl
theorem dX6_lackingTeeth_18 : decode cX6_lackingTeeth 18 = .ok (.ifCond .eq 6, 3) := dq_153 (v := 6) dp_cX6_lackingTeeth rfl rfl
theorem dX6_lackingTeeth_21 : decode cX6_lackingTeeth 21 = .ok (.iinc 1 1, 3) := dq_132 (v := 1) dp_cX6_lackingTeeth rfl (by decide) rfl
theorem dX6_lackingTeeth_24 : decode cX6_lackingTeeth 24 = .ok (.iinc 2 1, 3) := dq_132 (v := 1) dp_cX6_lackingTeeth rfl (by decide) rfl
theorem dX6_lackingTeeth_27 : decode cX6_lackingTeeth 27 = .ok (.goto (-23), 3) := dq_167 (v := 65513) dp_cX6_lackingTeeth rfl rfl
theorem dX6_lackingTeeth_30 : decode cX6_lackingTeeth 30 = .ok (.iload_n 1, 1) := dq_27 dp_cX6_lackingTeeth rfl
theorem dX6_lackingTeeth_31 : decode cX6_lackingTeeth 31 = .ok (.ireturn, 1) := dq_172 dp_cX6_lackingTeeth rfl
set_option maxRecDepth 20000 in
theorem gl_X6_catchingTeeth_X60 : GoodIn wsX6_catchingTeeth wsX60 := (dg_t (dg_t (dg_t (dg_t (dg_t (dg_t (dg_t (dg_t (dg_t (dg_t (dg_t (dg_t (dg_t (dg_t gw_wsX60))))))))))))))
theorem ggX6_catchingTeeth_X6_catchesAt : GoodIn wsX6_catchingTeeth wsX6_catchesAt := (dg_c 6 rfl rfl (dg_c 7 rfl rfl (dg_c 8 rfl rfl (dg_c 9 rfl rfl (dg_c 10 rfl rfl (dg_c 11 rfl rfl (dg_c 12 rfl rfl (dg_c 5 rfl rfl (dg_c 13 rfl rfl (dg_c 1 rfl rfl gl_X6_catchingTeeth_X60))))))))))
set_option maxRecDepth 20000 in
theorem gX6_catchingTeeth_X6_catchesAt : GoodIn wsX6_catchingTeeth (wsV RX6 52 RX6 yX6_catchesAt wsX6_catchesAt) := goodIn_app (dg_c 2 rfl rfl (dg_c 3 rfl rfl (dg_c 4 rfl rfl (dg_c 5 rfl rfl dg_0)))) ggX6_catchingTeeth_X6_catchesAt
theorem dX6_catchingTeeth_0 : decode cX6_catchingTeeth 0 = .ok (.iconst 0, 1) := dq_3 dp_cX6_catchingTeeth rfl
theorem dX6_catchingTeeth_1 : decode cX6_catchingTeeth 1 = .ok (.istore_n 2, 1) := dq_61 dp_cX6_catchingTeeth rfl
theorem dX6_catchingTeeth_2 : decode cX6_catchingTeeth 2 = .ok (.iconst 0, 1) := dq_3 dp_cX6_catchingTeeth rfl
theorem dX6_catchingTeeth_3 : decode cX6_catchingTeeth 3 = .ok (.istore_n 3, 1) := dq_62 dp_cX6_catchingTeeth rfl
theorem dX6_catchingTeeth_4 : decode cX6_catchingTeeth 4 = .ok (.iload_n 3, 1) := dq_29 dp_cX6_catchingTeeth rfl
theorem dX6_catchingTeeth_5 : decode cX6_catchingTeeth 5 = .ok (.aload_n 0, 1) := dq_42 dp_cX6_catchingTeeth rfl
theorem dX6_catchingTeeth_6 : decode cX6_catchingTeeth 6 = .ok (.getfield 19, 3) := dq_180 dp_cX6_catchingTeeth rfl
theorem dX6_catchingTeeth_9 : decode cX6_catchingTeeth 9 = .ok (.if_icmp .ge 27, 3) := dq_162 (v := 27) dp_cX6_catchingTeeth rfl rfl
theorem dX6_catchingTeeth_12 : decode cX6_catchingTeeth 12 = .ok (.aload_n 0, 1) := dq_42 dp_cX6_catchingTeeth rfl
theorem dX6_catchingTeeth_13 : decode cX6_catchingTeeth 13 = .ok (.iload_n 3, 1) := dq_29 dp_cX6_catchingTeeth rfl
theorem dX6_catchingTeeth_14 : decode cX6_catchingTeeth 14 = .ok (.invokevirtual 52, 3) := dq_182 dp_cX6_catchingTeeth rfl
theorem dX6_catchingTeeth_17 : decode cX6_catchingTeeth 17 = .ok (.ifCond .eq 13, 3) := dq_153 (v := 13) dp_cX6_catchingTeeth rfl rfl
theorem dX6_catchingTeeth_20 : decode cX6_catchingTeeth 20 = .ok (.iload_n 2, 1) := dq_28 dp_cX6_catchingTeeth rfl
theorem dX6_catchingTeeth_21 : decode cX6_catchingTeeth 21 = .ok (.iload_n 1, 1) := dq_27 dp_cX6_catchingTeeth rfl
theorem dX6_catchingTeeth_22 : decode cX6_catchingTeeth 22 = .ok (.if_icmp .ne 5, 3) := dq_160 (v := 5) dp_cX6_catchingTeeth rfl rfl
theorem dX6_catchingTeeth_25 : decode cX6_catchingTeeth 25 = .ok (.iload_n 3, 1) := dq_29 dp_cX6_catchingTeeth rfl
theorem dX6_catchingTeeth_26 : decode cX6_catchingTeeth 26 = .ok (.ireturn, 1) := dq_172 dp_cX6_catchingTeeth rfl
theorem dX6_catchingTeeth_27 : decode cX6_catchingTeeth 27 = .ok (.iinc 2 1, 3) := dq_132 (v := 1) dp_cX6_catchingTeeth rfl (by decide) rfl
theorem dX6_catchingTeeth_30 : decode cX6_catchingTeeth 30 = .ok (.iinc 3 1, 3) := dq_132 (v := 1) dp_cX6_catchingTeeth rfl (by decide) rfl
theorem dX6_catchingTeeth_33 : decode cX6_catchingTeeth 33 = .ok (.goto (-29), 3) := dq_167 (v := 65507) dp_cX6_catchingTeeth rfl rfl
theorem dX6_catchingTeeth_36 : decode cX6_catchingTeeth 36 = .ok (.iload_n 1, 1) := dq_27 dp_cX6_catchingTeeth rfl
theorem dX6_catchingTeeth_37 : decode cX6_catchingTeeth 37 = .ok (.iconst (-1), 1) := dq_2 dp_cX6_catchingTeeth rfl
theorem dX6_catchingTeeth_38 : decode cX6_catchingTeeth 38 = .ok (.if_icmp .ne 7, 3) := dq_160 (v := 7) dp_cX6_catchingTeeth rfl rfl
theorem dX6_catchingTeeth_41 : decode cX6_catchingTeeth 41 = .ok (.iload_n 2, 1) := dq_28 dp_cX6_catchingTeeth rfl
theorem dX6_catchingTeeth_42 : decode cX6_catchingTeeth 42 = .ok (.goto 4, 3) := dq_167 (v := 4) dp_cX6_catchingTeeth rfl rfl
theorem dX6_catchingTeeth_45 : decode cX6_catchingTeeth 45 = .ok (.iconst (-1), 1) := dq_2 dp_cX6_catchingTeeth rfl
theorem dX6_catchingTeeth_46 : decode cX6_catchingTeeth 46 = .ok (.ireturn, 1) := dq_172 dp_cX6_catchingTeeth rfl
set_option maxRecDepth 20000 in
theorem gl_X6_stitchesNeeded_X60 : GoodIn wsX6_stitchesNeeded wsX60 := (dg_t (dg_t (dg_t (dg_t (dg_t (dg_t (dg_t (dg_t (dg_t (dg_t (dg_t (dg_t (dg_t (dg_t (dg_t (dg_t (dg_t (dg_t gw_wsX60))))))))))))))))))
theorem ggX6_stitchesNeeded_X6_catchesAt : GoodIn wsX6_stitchesNeeded wsX6_catchesAt := (dg_c 10 rfl rfl (dg_c 11 rfl rfl (dg_c 12 rfl rfl (dg_c 13 rfl rfl (dg_c 14 rfl rfl (dg_c 15 rfl rfl (dg_c 16 rfl rfl (dg_c 9 rfl rfl (dg_c 17 rfl rfl (dg_c 1 rfl rfl gl_X6_stitchesNeeded_X60))))))))))
set_option maxRecDepth 20000 in
theorem gX6_stitchesNeeded_X6_catchesAt : GoodIn wsX6_stitchesNeeded (wsV RX6 52 RX6 yX6_catchesAt wsX6_catchesAt) := goodIn_app (dg_c 6 rfl rfl (dg_c 7 rfl rfl (dg_c 8 rfl rfl (dg_c 9 rfl rfl dg_0)))) ggX6_stitchesNeeded_X6_catchesAt
theorem dX6_stitchesNeeded_0 : decode cX6_stitchesNeeded 0 = .ok (.iconst 0, 1) := dq_3 dp_cX6_stitchesNeeded rfl
theorem dX6_stitchesNeeded_1 : decode cX6_stitchesNeeded 1 = .ok (.istore_n 2, 1) := dq_61 dp_cX6_stitchesNeeded rfl
theorem dX6_stitchesNeeded_2 : decode cX6_stitchesNeeded 2 = .ok (.iconst 0, 1) := dq_3 dp_cX6_stitchesNeeded rfl
theorem dX6_stitchesNeeded_3 : decode cX6_stitchesNeeded 3 = .ok (.istore_n 3, 1) := dq_62 dp_cX6_stitchesNeeded rfl
theorem dX6_stitchesNeeded_4 : decode cX6_stitchesNeeded 4 = .ok (.iconst 0, 1) := dq_3 dp_cX6_stitchesNeeded rfl
theorem dX6_stitchesNeeded_5 : decode cX6_stitchesNeeded 5 = .ok (.istore 4, 2) := dq_54 dp_cX6_stitchesNeeded rfl
theorem dX6_stitchesNeeded_7 : decode cX6_stitchesNeeded 7 = .ok (.iload 4, 2) := dq_21 dp_cX6_stitchesNeeded rfl
theorem dX6_stitchesNeeded_9 : decode cX6_stitchesNeeded 9 = .ok (.aload_n 0, 1) := dq_42 dp_cX6_stitchesNeeded rfl
theorem dX6_stitchesNeeded_10 : decode cX6_stitchesNeeded 10 = .ok (.getfield 19, 3) := dq_180 dp_cX6_stitchesNeeded rfl
theorem dX6_stitchesNeeded_13 : decode cX6_stitchesNeeded 13 = .ok (.if_icmp .ge 55, 3) := dq_162 (v := 55) dp_cX6_stitchesNeeded rfl rfl
theorem dX6_stitchesNeeded_16 : decode cX6_stitchesNeeded 16 = .ok (.iload 4, 2) := dq_21 dp_cX6_stitchesNeeded rfl
theorem dX6_stitchesNeeded_18 : decode cX6_stitchesNeeded 18 = .ok (.iload_n 3, 1) := dq_29 dp_cX6_stitchesNeeded rfl
theorem dX6_stitchesNeeded_19 : decode cX6_stitchesNeeded 19 = .ok (.if_icmp .lt 43, 3) := dq_161 (v := 43) dp_cX6_stitchesNeeded rfl rfl
theorem dX6_stitchesNeeded_22 : decode cX6_stitchesNeeded 22 = .ok (.aload_n 0, 1) := dq_42 dp_cX6_stitchesNeeded rfl
theorem dX6_stitchesNeeded_23 : decode cX6_stitchesNeeded 23 = .ok (.iload 4, 2) := dq_21 dp_cX6_stitchesNeeded rfl
theorem dX6_stitchesNeeded_25 : decode cX6_stitchesNeeded 25 = .ok (.invokevirtual 52, 3) := dq_182 dp_cX6_stitchesNeeded rfl
theorem dX6_stitchesNeeded_28 : decode cX6_stitchesNeeded 28 = .ok (.ifCond .eq 34, 3) := dq_153 (v := 34) dp_cX6_stitchesNeeded rfl rfl
theorem dX6_stitchesNeeded_31 : decode cX6_stitchesNeeded 31 = .ok (.iload 4, 2) := dq_21 dp_cX6_stitchesNeeded rfl
theorem dX6_stitchesNeeded_33 : decode cX6_stitchesNeeded 33 = .ok (.iconst 2, 1) := dq_5 dp_cX6_stitchesNeeded rfl
theorem dX6_stitchesNeeded_34 : decode cX6_stitchesNeeded 34 = .ok (.iadd, 1) := dq_96 dp_cX6_stitchesNeeded rfl
theorem dX6_stitchesNeeded_35 : decode cX6_stitchesNeeded 35 = .ok (.aload_n 0, 1) := dq_42 dp_cX6_stitchesNeeded rfl
theorem dX6_stitchesNeeded_36 : decode cX6_stitchesNeeded 36 = .ok (.getfield 19, 3) := dq_180 dp_cX6_stitchesNeeded rfl
theorem dX6_stitchesNeeded_39 : decode cX6_stitchesNeeded 39 = .ok (.iconst 1, 1) := dq_4 dp_cX6_stitchesNeeded rfl
theorem dX6_stitchesNeeded_40 : decode cX6_stitchesNeeded 40 = .ok (.isub, 1) := dq_100 dp_cX6_stitchesNeeded rfl
theorem dX6_stitchesNeeded_41 : decode cX6_stitchesNeeded 41 = .ok (.invokestatic 55, 3) := dq_184 dp_cX6_stitchesNeeded rfl
theorem dX6_stitchesNeeded_44 : decode cX6_stitchesNeeded 44 = .ok (.istore 5, 2) := dq_54 dp_cX6_stitchesNeeded rfl
theorem dX6_stitchesNeeded_46 : decode cX6_stitchesNeeded 46 = .ok (.iload_n 2, 1) := dq_28 dp_cX6_stitchesNeeded rfl
theorem dX6_stitchesNeeded_47 : decode cX6_stitchesNeeded 47 = .ok (.iload_n 1, 1) := dq_27 dp_cX6_stitchesNeeded rfl
theorem dX6_stitchesNeeded_48 : decode cX6_stitchesNeeded 48 = .ok (.if_icmp .ne 6, 3) := dq_160 (v := 6) dp_cX6_stitchesNeeded rfl rfl
theorem dX6_stitchesNeeded_51 : decode cX6_stitchesNeeded 51 = .ok (.iload 5, 2) := dq_21 dp_cX6_stitchesNeeded rfl
theorem dX6_stitchesNeeded_53 : decode cX6_stitchesNeeded 53 = .ok (.ireturn, 1) := dq_172 dp_cX6_stitchesNeeded rfl
theorem dX6_stitchesNeeded_54 : decode cX6_stitchesNeeded 54 = .ok (.iinc 2 1, 3) := dq_132 (v := 1) dp_cX6_stitchesNeeded rfl (by decide) rfl
theorem dX6_stitchesNeeded_57 : decode cX6_stitchesNeeded 57 = .ok (.iload 5, 2) := dq_21 dp_cX6_stitchesNeeded rfl
theorem dX6_stitchesNeeded_59 : decode cX6_stitchesNeeded 59 = .ok (.iconst 3, 1) := dq_6 dp_cX6_stitchesNeeded rfl
theorem dX6_stitchesNeeded_60 : decode cX6_stitchesNeeded 60 = .ok (.iadd, 1) := dq_96 dp_cX6_stitchesNeeded rfl
theorem dX6_stitchesNeeded_61 : decode cX6_stitchesNeeded 61 = .ok (.istore_n 3, 1) := dq_62 dp_cX6_stitchesNeeded rfl
theorem dX6_stitchesNeeded_62 : decode cX6_stitchesNeeded 62 = .ok (.iinc 4 1, 3) := dq_132 (v := 1) dp_cX6_stitchesNeeded rfl (by decide) rfl
theorem dX6_stitchesNeeded_65 : decode cX6_stitchesNeeded 65 = .ok (.goto (-58), 3) := dq_167 (v := 65478) dp_cX6_stitchesNeeded rfl rfl
theorem dX6_stitchesNeeded_68 : decode cX6_stitchesNeeded 68 = .ok (.iload_n 1, 1) := dq_27 dp_cX6_stitchesNeeded rfl
theorem dX6_stitchesNeeded_69 : decode cX6_stitchesNeeded 69 = .ok (.iconst (-1), 1) := dq_2 dp_cX6_stitchesNeeded rfl
theorem dX6_stitchesNeeded_70 : decode cX6_stitchesNeeded 70 = .ok (.if_icmp .ne 7, 3) := dq_160 (v := 7) dp_cX6_stitchesNeeded rfl rfl
theorem dX6_stitchesNeeded_73 : decode cX6_stitchesNeeded 73 = .ok (.iload_n 2, 1) := dq_28 dp_cX6_stitchesNeeded rfl
theorem dX6_stitchesNeeded_74 : decode cX6_stitchesNeeded 74 = .ok (.goto 4, 3) := dq_167 (v := 4) dp_cX6_stitchesNeeded rfl rfl
theorem dX6_stitchesNeeded_77 : decode cX6_stitchesNeeded 77 = .ok (.iconst (-1), 1) := dq_2 dp_cX6_stitchesNeeded rfl
theorem dX6_stitchesNeeded_78 : decode cX6_stitchesNeeded 78 = .ok (.ireturn, 1) := dq_172 dp_cX6_stitchesNeeded rfl
set_option maxRecDepth 20000 in
theorem gl_X6_takeSlack_X60 : GoodIn wsX6_takeSlack wsX60 := (dg_t (dg_t (dg_t (dg_t (dg_t (dg_t (dg_t (dg_t gw_wsX60))))))))
theorem ggX6_takeSlack_X6_has : GoodIn wsX6_takeSlack wsX6_has := (dg_c 6 rfl rfl (dg_c 7 rfl rfl gl_X6_takeSlack_X60))
set_option maxRecDepth 20000 in
theorem gX6_takeSlack_X6_has : GoodIn wsX6_takeSlack (wsV RX6 29 RX6 yX6_has wsX6_has) := goodIn_app (dg_c 2 rfl rfl (dg_c 3 rfl rfl (dg_c 4 rfl rfl (dg_c 5 rfl rfl dg_0)))) ggX6_takeSlack_X6_has
theorem dX6_takeSlack_0 : decode cX6_takeSlack 0 = .ok (.iconst 0, 1) := dq_3 dp_cX6_takeSlack rfl
theorem dX6_takeSlack_1 : decode cX6_takeSlack 1 = .ok (.istore_n 2, 1) := dq_61 dp_cX6_takeSlack rfl
theorem dX6_takeSlack_2 : decode cX6_takeSlack 2 = .ok (.iload_n 1, 1) := dq_27 dp_cX6_takeSlack rfl
theorem dX6_takeSlack_3 : decode cX6_takeSlack 3 = .ok (.iconst 2, 1) := dq_5 dp_cX6_takeSlack rfl
theorem dX6_takeSlack_4 : decode cX6_takeSlack 4 = .ok (.isub, 1) := dq_100 dp_cX6_takeSlack rfl
theorem dX6_takeSlack_5 : decode cX6_takeSlack 5 = .ok (.istore_n 3, 1) := dq_62 dp_cX6_takeSlack rfl
theorem dX6_takeSlack_6 : decode cX6_takeSlack 6 = .ok (.iload_n 3, 1) := dq_29 dp_cX6_takeSlack rfl
theorem dX6_takeSlack_7 : decode cX6_takeSlack 7 = .ok (.iload_n 1, 1) := dq_27 dp_cX6_takeSlack rfl
theorem dX6_takeSlack_8 : decode cX6_takeSlack 8 = .ok (.iconst 2, 1) := dq_5 dp_cX6_takeSlack rfl
theorem dX6_takeSlack_9 : decode cX6_takeSlack 9 = .ok (.iadd, 1) := dq_96 dp_cX6_takeSlack rfl
theorem dX6_takeSlack_10 : decode cX6_takeSlack 10 = .ok (.if_icmp .gt 33, 3) := dq_163 (v := 33) dp_cX6_takeSlack rfl rfl
theorem dX6_takeSlack_13 : decode cX6_takeSlack 13 = .ok (.aload_n 0, 1) := dq_42 dp_cX6_takeSlack rfl
theorem dX6_takeSlack_14 : decode cX6_takeSlack 14 = .ok (.iload_n 3, 1) := dq_29 dp_cX6_takeSlack rfl
theorem dX6_takeSlack_15 : decode cX6_takeSlack 15 = .ok (.invokevirtual 29, 3) := dq_182 dp_cX6_takeSlack rfl
theorem dX6_takeSlack_18 : decode cX6_takeSlack 18 = .ok (.ifCond .eq 19, 3) := dq_153 (v := 19) dp_cX6_takeSlack rfl rfl
theorem dX6_takeSlack_21 : decode cX6_takeSlack 21 = .ok (.iload_n 2, 1) := dq_28 dp_cX6_takeSlack rfl
theorem dX6_takeSlack_22 : decode cX6_takeSlack 22 = .ok (.aload_n 0, 1) := dq_42 dp_cX6_takeSlack rfl
theorem dX6_takeSlack_23 : decode cX6_takeSlack 23 = .ok (.getfield 15, 3) := dq_180 dp_cX6_takeSlack rfl
theorem dX6_takeSlack_26 : decode cX6_takeSlack 26 = .ok (.iload_n 3, 1) := dq_29 dp_cX6_takeSlack rfl
theorem dX6_takeSlack_27 : decode cX6_takeSlack 27 = .ok (.iaload, 1) := dq_46 dp_cX6_takeSlack rfl
theorem dX6_takeSlack_28 : decode cX6_takeSlack 28 = .ok (.iadd, 1) := dq_96 dp_cX6_takeSlack rfl
theorem dX6_takeSlack_29 : decode cX6_takeSlack 29 = .ok (.istore_n 2, 1) := dq_61 dp_cX6_takeSlack rfl
theorem dX6_takeSlack_30 : decode cX6_takeSlack 30 = .ok (.aload_n 0, 1) := dq_42 dp_cX6_takeSlack rfl
theorem dX6_takeSlack_31 : decode cX6_takeSlack 31 = .ok (.getfield 15, 3) := dq_180 dp_cX6_takeSlack rfl
theorem dX6_takeSlack_34 : decode cX6_takeSlack 34 = .ok (.iload_n 3, 1) := dq_29 dp_cX6_takeSlack rfl
theorem dX6_takeSlack_35 : decode cX6_takeSlack 35 = .ok (.iconst 0, 1) := dq_3 dp_cX6_takeSlack rfl
theorem dX6_takeSlack_36 : decode cX6_takeSlack 36 = .ok (.iastore, 1) := dq_79 dp_cX6_takeSlack rfl
theorem dX6_takeSlack_37 : decode cX6_takeSlack 37 = .ok (.iinc 3 1, 3) := dq_132 (v := 1) dp_cX6_takeSlack rfl (by decide) rfl
theorem dX6_takeSlack_40 : decode cX6_takeSlack 40 = .ok (.goto (-34), 3) := dq_167 (v := 65502) dp_cX6_takeSlack rfl rfl
theorem dX6_takeSlack_43 : decode cX6_takeSlack 43 = .ok (.iload_n 2, 1) := dq_28 dp_cX6_takeSlack rfl
theorem dX6_takeSlack_44 : decode cX6_takeSlack 44 = .ok (.ireturn, 1) := dq_172 dp_cX6_takeSlack rfl
set_option maxRecDepth 20000 in
theorem gl_X6_runsTo_X60 : GoodIn wsX6_runsTo wsX60 := (dg_t (dg_t (dg_t (dg_t (dg_t (dg_t (dg_t (dg_t (dg_t (dg_t (dg_t (dg_t (dg_t (dg_t (dg_t (dg_t (dg_t (dg_t (dg_t (dg_t (dg_t (dg_t (dg_t gw_wsX60)))))))))))))))))))))))
theorem ggX6_runsTo_X6_catchesAt : GoodIn wsX6_runsTo wsX6_catchesAt := (dg_c 7 rfl rfl (dg_c 8 rfl rfl (dg_c 9 rfl rfl (dg_c 10 rfl rfl (dg_c 11 rfl rfl (dg_c 12 rfl rfl (dg_c 13 rfl rfl (dg_c 6 rfl rfl (dg_c 14 rfl rfl (dg_c 2 rfl rfl gl_X6_runsTo_X60))))))))))
set_option maxRecDepth 20000 in
theorem gX6_runsTo_X6_catchesAt : GoodIn wsX6_runsTo (wsV RX6 52 RX6 yX6_catchesAt wsX6_catchesAt) := goodIn_app (dg_c 3 rfl rfl (dg_c 4 rfl rfl (dg_c 5 rfl rfl (dg_c 6 rfl rfl dg_0)))) ggX6_runsTo_X6_catchesAt
set_option maxRecDepth 20000 in
theorem ggX6_runsTo_X6_lacksThreeFrom : GoodIn wsX6_runsTo wsX6_lacksThreeFrom := (dg_c 18 rfl rfl (dg_c 19 rfl rfl (dg_c 20 rfl rfl (dg_c 21 rfl rfl (dg_c 6 rfl rfl (dg_c 22 rfl rfl (dg_c 8 rfl rfl (dg_c 11 rfl rfl (dg_c 12 rfl rfl (dg_c 13 rfl rfl (dg_c 14 rfl rfl (dg_c 2 rfl rfl gl_X6_runsTo_X60))))))))))))
set_option maxRecDepth 20000 in
theorem gX6_runsTo_X6_lacksThreeFrom : GoodIn wsX6_runsTo (wsV RX6 36 RX6 yX6_lacksThreeFrom wsX6_lacksThreeFrom) := goodIn_app (dg_c 15 rfl rfl (dg_c 16 rfl rfl (dg_c 17 rfl rfl (dg_c 6 rfl rfl dg_0)))) ggX6_runsTo_X6_lacksThreeFrom
theorem dX6_runsTo_0 : decode cX6_runsTo 0 = .ok (.aload_n 0, 1) := dq_42 dp_cX6_runsTo rfl
theorem dX6_runsTo_1 : decode cX6_runsTo 1 = .ok (.getfield 23, 3) := dq_180 dp_cX6_runsTo rfl
theorem dX6_runsTo_4 : decode cX6_runsTo 4 = .ok (.istore_n 1, 1) := dq_60 dp_cX6_runsTo rfl
theorem dX6_runsTo_5 : decode cX6_runsTo 5 = .ok (.iload_n 1, 1) := dq_27 dp_cX6_runsTo rfl
theorem dX6_runsTo_6 : decode cX6_runsTo 6 = .ok (.aload_n 0, 1) := dq_42 dp_cX6_runsTo rfl
theorem dX6_runsTo_7 : decode cX6_runsTo 7 = .ok (.getfield 19, 3) := dq_180 dp_cX6_runsTo rfl
theorem dX6_runsTo_10 : decode cX6_runsTo 10 = .ok (.if_icmp .ge 27, 3) := dq_162 (v := 27) dp_cX6_runsTo rfl rfl
theorem dX6_runsTo_13 : decode cX6_runsTo 13 = .ok (.aload_n 0, 1) := dq_42 dp_cX6_runsTo rfl
theorem dX6_runsTo_14 : decode cX6_runsTo 14 = .ok (.iload_n 1, 1) := dq_27 dp_cX6_runsTo rfl
theorem dX6_runsTo_15 : decode cX6_runsTo 15 = .ok (.invokevirtual 52, 3) := dq_182 dp_cX6_runsTo rfl
theorem dX6_runsTo_18 : decode cX6_runsTo 18 = .ok (.ifCond .ne 11, 3) := dq_154 (v := 11) dp_cX6_runsTo rfl rfl
theorem dX6_runsTo_21 : decode cX6_runsTo 21 = .ok (.aload_n 0, 1) := dq_42 dp_cX6_runsTo rfl
theorem dX6_runsTo_22 : decode cX6_runsTo 22 = .ok (.iload_n 1, 1) := dq_27 dp_cX6_runsTo rfl
theorem dX6_runsTo_23 : decode cX6_runsTo 23 = .ok (.invokevirtual 36, 3) := dq_182 dp_cX6_runsTo rfl
theorem dX6_runsTo_26 : decode cX6_runsTo 26 = .ok (.ifCond .eq 5, 3) := dq_153 (v := 5) dp_cX6_runsTo rfl rfl
theorem dX6_runsTo_29 : decode cX6_runsTo 29 = .ok (.iload_n 1, 1) := dq_27 dp_cX6_runsTo rfl
theorem dX6_runsTo_30 : decode cX6_runsTo 30 = .ok (.ireturn, 1) := dq_172 dp_cX6_runsTo rfl
theorem dX6_runsTo_31 : decode cX6_runsTo 31 = .ok (.iinc 1 1, 3) := dq_132 (v := 1) dp_cX6_runsTo rfl (by decide) rfl
theorem dX6_runsTo_34 : decode cX6_runsTo 34 = .ok (.goto (-29), 3) := dq_167 (v := 65507) dp_cX6_runsTo rfl rfl
theorem dX6_runsTo_37 : decode cX6_runsTo 37 = .ok (.aload_n 0, 1) := dq_42 dp_cX6_runsTo rfl
theorem dX6_runsTo_38 : decode cX6_runsTo 38 = .ok (.getfield 19, 3) := dq_180 dp_cX6_runsTo rfl
theorem dX6_runsTo_41 : decode cX6_runsTo 41 = .ok (.ireturn, 1) := dq_172 dp_cX6_runsTo rfl
end
section
theorem gl_X6_has_X60 : GoodIn wsX6_has wsX60 := (dg_t (dg_t gw_wsX60))
theorem hi_X6_has_6 : ∀ w ∈ u_ws RX6 TX6 5, w ∈ wsX6_has := fun w h => (gl_X6_has_X60 w h).1
set_option maxHeartbeats 4000000 in
set_option maxRecDepth 100000 in
theorem c_Zip_has (l : Launch) (D : va_G) (cI cJ cZ cP cS : ClassId) (po : zPool) (z0 zl zs : Nat) (sz at_ gp : Int32) (t : Int32)  : Met l yX6_has wsX6_has ({ frames := 0, cells := 0, slots := 0, locals := 0 }) (va_Pc [.ref z0, .int t] (zR D (zKT cI cJ cZ cP cS) po [(z0, .inr (6, [.ref zl, .ref zs, .int sz, .int at_, .int gp]))])) (vp_Si (fun r => (r = 0 ∧ t.toInt < 0) ∨ (r = 0 ∧ 0 ≤ t.toInt ∧ sz.toInt ≤ t.toInt) ∨ (r = 1 ∧ 0 ≤ t.toInt ∧ t.toInt < sz.toInt))) 0 0 (fun _ => False) := by
  refine Met.ofW (cc := cX6_has) (maxL := 2) (ret := (some .boolean)) (by decide) rfl ?_
  intro p e s m args below meth c s₁ B hml hv
  obtain ⟨rfl, hP, hK, hN, hZ⟩ := hv
  have hx := B.exec
  have hb := B.bytes
  have hr := B.returns
  have hts := atoms_spec (ws := wsX6_has) B.pre
  have hown : s.vm.findClass RX6 = some m.cls := findClass_of_methodNamed B.named
  have hlocks := B.notSynchronized
  have hl := lv_entry ([.ref z0, .int t]) (n := 2) (Nat.le_of_ble_eq_true rfl)
  rw [lg_entry_eq]
  generalize (lg_sl ([.ref z0, .int t]) ++ List.replicate (2 - (lg_sl ([.ref z0, .int t])).length) Slot.unset).toArray = ls at hl ⊢
  replace hl : lv_has ls 2 [(0, .ref z0), (1, .int t)] := hl
  refine lv_iload_n hx hb dX6_has_0 rfl (lv_at hl 1 rfl) ?_
  refine lv_if_lt (tgt := 16) hx hb dX6_has_1 (by decide) (fun c_1 => ?_) (fun c_1 => ?_)
  · have fc_1 : t.toInt < 0 := zf_lt c_1 rfl (by decide)
    refine lv_iconst (v := 0) hx hb dX6_has_16 (by decide) ?_
    exact W.zret (v := 0) hx hb hr (by decide) (fun t ht hW => ⟨0, rfl, Or.inl (⟨rfl, (by first | omega | decide)⟩), ht⟩) (fun q hq => by cases hq) dX6_has_17
  · have fc_1 : 0 ≤ t.toInt := zf_nlt c_1 rfl (by decide)
    refine lv_iload_n hx hb dX6_has_4 rfl (lv_at hl 1 rfl) ?_
    refine lv_aload_n hx hb dX6_has_5 rfl (lv_at hl 0 rfl) ?_
    refine va_get (D := D) (ci := 6) (v := .int sz) (C := RX6) (T := TX6) (N := 5) hx hb hts hi_X6_has_6 hown hK hP 0 rfl rfl 2 (by decide) (hts (.fieldLink RX6 19 "TheLiningsInIt$Zip" "size" "I") (List.mem_of_getElem? (i := 1) rfl)) (fun _ h9 => h9) rfl dX6_has_6 ?_
    refine lv_icmp_ge (tgt := 16) hx hb dX6_has_9 (by decide) (fun c_2 => ?_) (fun c_2 => ?_)
    · have fc_2 : sz.toInt ≤ t.toInt := zf_le c_2 rfl rfl
      refine lv_iconst (v := 0) hx hb dX6_has_16 (by decide) ?_
      exact W.zret (v := 0) hx hb hr (by decide) (fun t ht hW => ⟨0, rfl, Or.inr (Or.inl (⟨rfl, (by first | omega | decide), (by first | omega | decide)⟩)), ht⟩) (fun q hq => by cases hq) dX6_has_17
    · have fc_2 : t.toInt < sz.toInt := zf_nle c_2 rfl rfl
      refine lv_iconst (v := 1) hx hb dX6_has_12 (by decide) ?_
      refine lv_goto (tgt := 17) hx hb dX6_has_13 (by decide) ?_
      exact W.zret (v := 1) hx hb hr (by decide) (fun t ht hW => ⟨1, rfl, Or.inr (Or.inr (⟨rfl, (by first | omega | decide), (by first | omega | decide)⟩)), ht⟩) (fun q hq => by cases hq) dX6_has_17
theorem hi_X6_lacksAt_6 : ∀ w ∈ u_ws RX6 TX6 5, w ∈ wsX6_lacksAt := fun w h => (gl_X6_lacksAt_X60 w h).1
set_option maxHeartbeats 4000000 in
set_option maxRecDepth 100000 in
theorem c_Zip_lacksAt (l : Launch) (D : va_G) (cI cJ cZ cP cS : ClassId) (po : zPool) (z0 zl zs : Nat) (sz at_ gp : Int32) (fl fs : Nat → Int32) (t : Int32) (hy0 : 4 ≤ sz.toInt) (hy1 : sz.toInt ≤ 40) (hy2 : 0 ≤ at_.toInt) (hy3 : at_.toInt ≤ 40) (hy4 : 1 ≤ gp.toInt) (hy5 : gp.toInt ≤ 9) (hp_fl : zRg fl (0) 1) : Met l yX6_lacksAt wsX6_lacksAt ({ frames := 1, cells := 0, slots := 0, locals := 21 }) (va_Pc [.ref z0, .int t] (zR D (zKT cI cJ cZ cP cS) po [(z0, .inr (6, [.ref zl, .ref zs, .int sz, .int at_, .int gp])), (zl, .inl (cZ, 40, .inl fl))])) (vp_Si (fun r => 0 ≤ r.toInt ∧ r.toInt ≤ 1)) 0 0 (fun _ => False) := by
  refine Met.ofW (cc := cX6_lacksAt) (maxL := 2) (ret := (some .boolean)) (by decide) rfl ?_
  intro p e s m args below meth c s₁ B hml hv
  obtain ⟨rfl, hP, hK, hN, hZ⟩ := hv
  have hx := B.exec
  have hb := B.bytes
  have hr := B.returns
  have hts := atoms_spec (ws := wsX6_lacksAt) B.pre
  have hown : s.vm.findClass RX6 = some m.cls := findClass_of_methodNamed B.named
  have hlocks := B.notSynchronized
  have hl := lv_entry ([.ref z0, .int t]) (n := 2) (Nat.le_of_ble_eq_true rfl)
  rw [lg_entry_eq]
  generalize (lg_sl ([.ref z0, .int t]) ++ List.replicate (2 - (lg_sl ([.ref z0, .int t])).length) Slot.unset).toArray = ls at hl ⊢
  replace hl : lv_has ls 2 [(0, .ref z0), (1, .int t)] := hl
  refine lv_aload_n hx hb dX6_lacksAt_0 rfl (lv_at hl 0 rfl) ?_
  refine lv_iload_n hx hb dX6_lacksAt_1 rfl (lv_at hl 1 rfl) ?_
  refine zc_V (As := [.int t]) (rest := []) ⟨hx, hb, hml, hown, hts⟩ (c_Zip_has l D cI cJ cZ cP cS po z0 zl zs (sz) (at_) (gp) (t) ) (cwV 1 hts gX6_lacksAt_X6_has rfl rfl rfl ⟨rfl, dh_X6_has⟩ ⟨Nat.le_of_ble_eq_true rfl, Nat.le_of_ble_eq_true rfl⟩) hK hN hZ hP (hP.sub [0] rfl) (va_recv (q := (RX6, TX6, 5)) hK hP (ci := 6) (q0 := 0) rfl rfl) rfl hl.1 rfl (Nat.le_of_ble_eq_true rfl) dX6_lacksAt_2 ⟨Nat.le_of_ble_eq_true rfl, Nat.le_of_ble_eq_true rfl⟩ (fun r_1 hr_1 => ?_)
  rcases hr_1 with ⟨rfl, g_2⟩ | ⟨rfl, g_3, g_4⟩ | ⟨rfl, g_5, g_6⟩
  · refine lv_if_eq (tgt := 21) hx hb dX6_lacksAt_5 (by decide) (fun c_7 => ?_) (fun c_7 => ?_)
    · refine lv_iconst (v := 0) hx hb dX6_lacksAt_21 (by decide) ?_
      exact W.zret (v := 0) hx hb hr (by decide) (fun t ht hW => ⟨0, rfl, ⟨by decide, by decide⟩, ht⟩) (fun q hq => by cases hq) dX6_lacksAt_22
    · exact absurd c_7 (by decide)
  · refine lv_if_eq (tgt := 21) hx hb dX6_lacksAt_5 (by decide) (fun c_8 => ?_) (fun c_8 => ?_)
    · refine lv_iconst (v := 0) hx hb dX6_lacksAt_21 (by decide) ?_
      exact W.zret (v := 0) hx hb hr (by decide) (fun t ht hW => ⟨0, rfl, ⟨by decide, by decide⟩, ht⟩) (fun q hq => by cases hq) dX6_lacksAt_22
    · exact absurd c_8 (by decide)
  · refine lv_if_eq (tgt := 21) hx hb dX6_lacksAt_5 (by decide) (fun c_9 => ?_) (fun c_9 => ?_)
    · exact absurd c_9 (by decide)
    · refine lv_aload_n hx hb dX6_lacksAt_8 rfl (lv_at hl 0 rfl) ?_
      refine va_get (D := D) (ci := 6) (v := .ref zl) (C := RX6) (T := TX6) (N := 5) hx hb hts hi_X6_lacksAt_6 hown hK hP 0 rfl rfl 0 (by decide) (hts (.fieldLink RX6 9 "TheLiningsInIt$Zip" "lacking" "[Z") (List.mem_of_getElem? (i := 1) rfl)) (fun _ h9 => h9) rfl dX6_lacksAt_9 ?_
      refine lv_iload_n hx hb dX6_lacksAt_12 rfl (lv_at hl 1 rfl) ?_
      refine va_zald hx hb hK hP 1 2 rfl rfl (zf_in (by omega) (by omega)) dX6_lacksAt_13 ?_
      refine lv_topi (fun x_10 ex_10 => ?_)
      have bx_10 : 0 ≤ x_10.toInt ∧ x_10.toInt ≤ 1 := by rw [ex_10]; exact hp_fl _
      refine lv_if_eq (tgt := 21) hx hb dX6_lacksAt_14 (by decide) (fun c_11 => ?_) (fun c_11 => ?_)
      · have fc_11 : x_10.toInt = 0 := zf_eq c_11 rfl (by decide)
        refine lv_iconst (v := 0) hx hb dX6_lacksAt_21 (by decide) ?_
        exact W.zret (v := 0) hx hb hr (by decide) (fun t ht hW => ⟨0, rfl, ⟨by decide, by decide⟩, ht⟩) (fun q hq => by cases hq) dX6_lacksAt_22
      · have fc_11 : x_10.toInt ≠ 0 := zf_ne c_11 rfl (by decide)
        refine lv_iconst (v := 1) hx hb dX6_lacksAt_17 (by decide) ?_
        refine lv_goto (tgt := 22) hx hb dX6_lacksAt_18 (by decide) ?_
        exact W.zret (v := 1) hx hb hr (by decide) (fun t ht hW => ⟨1, rfl, ⟨by decide, by decide⟩, ht⟩) (fun q hq => by cases hq) dX6_lacksAt_22
theorem hi_X6_catchesAt_6 : ∀ w ∈ u_ws RX6 TX6 5, w ∈ wsX6_catchesAt := fun w h => (gl_X6_catchesAt_X60 w h).1
set_option maxHeartbeats 4000000 in
set_option maxRecDepth 100000 in
theorem c_Zip_catchesAt (l : Launch) (D : va_G) (cI cJ cZ cP cS : ClassId) (po : zPool) (z0 zl zs : Nat) (sz at_ gp : Int32) (fl fs : Nat → Int32) (t : Int32) (hy0 : 4 ≤ sz.toInt) (hy1 : sz.toInt ≤ 40) (hy2 : 0 ≤ at_.toInt) (hy3 : at_.toInt ≤ 40) (hy4 : 1 ≤ gp.toInt) (hy5 : gp.toInt ≤ 9) (hp_fl : zRg fl (0) 1) (hp_fs : zRg fs (0) 9) : Met l yX6_catchesAt wsX6_catchesAt ({ frames := 1, cells := 0, slots := 0, locals := 21 }) (va_Pc [.ref z0, .int t] (zR D (zKT cI cJ cZ cP cS) po [(z0, .inr (6, [.ref zl, .ref zs, .int sz, .int at_, .int gp])), (zl, .inl (cZ, 40, .inl fl)), (zs, .inl (cI, 40, .inl fs))])) (vp_Si (fun r => 0 ≤ r.toInt ∧ r.toInt ≤ 1)) 0 0 (fun _ => False) := by
  refine Met.ofW (cc := cX6_catchesAt) (maxL := 2) (ret := (some .boolean)) (by decide) rfl ?_
  intro p e s m args below meth c s₁ B hml hv
  obtain ⟨rfl, hP, hK, hN, hZ⟩ := hv
  have hx := B.exec
  have hb := B.bytes
  have hr := B.returns
  have hts := atoms_spec (ws := wsX6_catchesAt) B.pre
  have hown : s.vm.findClass RX6 = some m.cls := findClass_of_methodNamed B.named
  have hlocks := B.notSynchronized
  have hl := lv_entry ([.ref z0, .int t]) (n := 2) (Nat.le_of_ble_eq_true rfl)
  rw [lg_entry_eq]
  generalize (lg_sl ([.ref z0, .int t]) ++ List.replicate (2 - (lg_sl ([.ref z0, .int t])).length) Slot.unset).toArray = ls at hl ⊢
  replace hl : lv_has ls 2 [(0, .ref z0), (1, .int t)] := hl
  refine lv_aload_n hx hb dX6_catchesAt_0 rfl (lv_at hl 0 rfl) ?_
  refine lv_iload_n hx hb dX6_catchesAt_1 rfl (lv_at hl 1 rfl) ?_
  refine zc_V (As := [.int t]) (rest := []) ⟨hx, hb, hml, hown, hts⟩ (c_Zip_has l D cI cJ cZ cP cS po z0 zl zs (sz) (at_) (gp) (t) ) (cwV 1 hts gX6_catchesAt_X6_has rfl rfl rfl ⟨rfl, dh_X6_has⟩ ⟨Nat.le_of_ble_eq_true rfl, Nat.le_of_ble_eq_true rfl⟩) hK hN hZ hP (hP.sub [0] rfl) (va_recv (q := (RX6, TX6, 5)) hK hP (ci := 6) (q0 := 0) rfl rfl) rfl hl.1 rfl (Nat.le_of_ble_eq_true rfl) dX6_catchesAt_2 ⟨Nat.le_of_ble_eq_true rfl, Nat.le_of_ble_eq_true rfl⟩ (fun r_1 hr_1 => ?_)
  rcases hr_1 with ⟨rfl, g_2⟩ | ⟨rfl, g_3, g_4⟩ | ⟨rfl, g_5, g_6⟩
  · refine lv_if_eq (tgt := 34) hx hb dX6_catchesAt_5 (by decide) (fun c_7 => ?_) (fun c_7 => ?_)
    · refine lv_iconst (v := 0) hx hb dX6_catchesAt_34 (by decide) ?_
      exact W.zret (v := 0) hx hb hr (by decide) (fun t ht hW => ⟨0, rfl, ⟨by decide, by decide⟩, ht⟩) (fun q hq => by cases hq) dX6_catchesAt_35
    · exact absurd c_7 (by decide)
  · refine lv_if_eq (tgt := 34) hx hb dX6_catchesAt_5 (by decide) (fun c_8 => ?_) (fun c_8 => ?_)
    · refine lv_iconst (v := 0) hx hb dX6_catchesAt_34 (by decide) ?_
      exact W.zret (v := 0) hx hb hr (by decide) (fun t ht hW => ⟨0, rfl, ⟨by decide, by decide⟩, ht⟩) (fun q hq => by cases hq) dX6_catchesAt_35
    · exact absurd c_8 (by decide)
  · refine lv_if_eq (tgt := 34) hx hb dX6_catchesAt_5 (by decide) (fun c_9 => ?_) (fun c_9 => ?_)
    · exact absurd c_9 (by decide)
    · refine lv_aload_n hx hb dX6_catchesAt_8 rfl (lv_at hl 0 rfl) ?_
      refine va_get (D := D) (ci := 6) (v := .ref zl) (C := RX6) (T := TX6) (N := 5) hx hb hts hi_X6_catchesAt_6 hown hK hP 0 rfl rfl 0 (by decide) (hts (.fieldLink RX6 9 "TheLiningsInIt$Zip" "lacking" "[Z") (List.mem_of_getElem? (i := 1) rfl)) (fun _ h9 => h9) rfl dX6_catchesAt_9 ?_
      refine lv_iload_n hx hb dX6_catchesAt_12 rfl (lv_at hl 1 rfl) ?_
      refine va_zald hx hb hK hP 1 2 rfl rfl (zf_in (by omega) (by omega)) dX6_catchesAt_13 ?_
      refine lv_topi (fun x_10 ex_10 => ?_)
      have bx_10 : 0 ≤ x_10.toInt ∧ x_10.toInt ≤ 1 := by rw [ex_10]; exact hp_fl _
      refine lv_if_ne (tgt := 34) hx hb dX6_catchesAt_14 (by decide) (fun c_11 => ?_) (fun c_11 => ?_)
      · have fc_11 : x_10.toInt ≠ 0 := zf_ne c_11 rfl (by decide)
        refine lv_iconst (v := 0) hx hb dX6_catchesAt_34 (by decide) ?_
        exact W.zret (v := 0) hx hb hr (by decide) (fun t ht hW => ⟨0, rfl, ⟨by decide, by decide⟩, ht⟩) (fun q hq => by cases hq) dX6_catchesAt_35
      · have fc_11 : x_10.toInt = 0 := zf_eq c_11 rfl (by decide)
        refine lv_aload_n hx hb dX6_catchesAt_17 rfl (lv_at hl 0 rfl) ?_
        refine va_get (D := D) (ci := 6) (v := .ref zs) (C := RX6) (T := TX6) (N := 5) hx hb hts hi_X6_catchesAt_6 hown hK hP 0 rfl rfl 1 (by decide) (hts (.fieldLink RX6 15 "TheLiningsInIt$Zip" "slacks" "[I") (List.mem_of_getElem? (i := 2) rfl)) (fun _ h9 => h9) rfl dX6_catchesAt_18 ?_
        refine lv_iload_n hx hb dX6_catchesAt_21 rfl (lv_at hl 1 rfl) ?_
        refine va_iald hx hb hK hP 2 0 rfl rfl (zf_in (by omega) (by omega)) dX6_catchesAt_22 ?_
        refine lv_topi (fun x_12 ex_12 => ?_)
        have bx_12 : 0 ≤ x_12.toInt ∧ x_12.toInt ≤ 9 := by rw [ex_12]; exact hp_fs _
        refine lv_aload_n hx hb dX6_catchesAt_23 rfl (lv_at hl 0 rfl) ?_
        refine va_get (D := D) (ci := 6) (v := .int gp) (C := RX6) (T := TX6) (N := 5) hx hb hts hi_X6_catchesAt_6 hown hK hP 0 rfl rfl 4 (by decide) (hts (.fieldLink RX6 26 "TheLiningsInIt$Zip" "gap" "I") (List.mem_of_getElem? (i := 3) rfl)) (fun _ h9 => h9) rfl dX6_catchesAt_24 ?_
        refine lv_icmp_lt (tgt := 34) hx hb dX6_catchesAt_27 (by decide) (fun c_13 => ?_) (fun c_13 => ?_)
        · have fc_13 : x_12.toInt < gp.toInt := zf_lt c_13 rfl rfl
          refine lv_iconst (v := 0) hx hb dX6_catchesAt_34 (by decide) ?_
          exact W.zret (v := 0) hx hb hr (by decide) (fun t ht hW => ⟨0, rfl, ⟨by decide, by decide⟩, ht⟩) (fun q hq => by cases hq) dX6_catchesAt_35
        · have fc_13 : gp.toInt ≤ x_12.toInt := zf_nlt c_13 rfl rfl
          refine lv_iconst (v := 1) hx hb dX6_catchesAt_30 (by decide) ?_
          refine lv_goto (tgt := 35) hx hb dX6_catchesAt_31 (by decide) ?_
          exact W.zret (v := 1) hx hb hr (by decide) (fun t ht hW => ⟨1, rfl, ⟨by decide, by decide⟩, ht⟩) (fun q hq => by cases hq) dX6_catchesAt_35
set_option maxHeartbeats 4000000 in
set_option maxRecDepth 100000 in
theorem c_Zip_lacks3 (l : Launch) (D : va_G) (cI cJ cZ cP cS : ClassId) (po : zPool) (z0 zl zs : Nat) (sz at_ gp : Int32) (fl fs : Nat → Int32) (t : Int32) (hy0 : 4 ≤ sz.toInt) (hy1 : sz.toInt ≤ 40) (hy2 : 0 ≤ at_.toInt) (hy3 : at_.toInt ≤ 40) (hy4 : 1 ≤ gp.toInt) (hy5 : gp.toInt ≤ 9) (hp_fl : zRg fl (0) 1) : Met l yX6_lacksThreeFrom wsX6_lacksThreeFrom ({ frames := 2, cells := 0, slots := 0, locals := 42 }) (va_Pc [.ref z0, .int t] (zR D (zKT cI cJ cZ cP cS) po [(z0, .inr (6, [.ref zl, .ref zs, .int sz, .int at_, .int gp])), (zl, .inl (cZ, 40, .inl fl))])) (vp_Si (fun r => 0 ≤ r.toInt ∧ r.toInt ≤ 1)) 0 0 (fun _ => False) := by
  refine Met.ofW (cc := cX6_lacksThreeFrom) (maxL := 2) (ret := (some .boolean)) (by decide) rfl ?_
  intro p e s m args below meth c s₁ B hml hv
  obtain ⟨rfl, hP, hK, hN, hZ⟩ := hv
  have hx := B.exec
  have hb := B.bytes
  have hr := B.returns
  have hts := atoms_spec (ws := wsX6_lacksThreeFrom) B.pre
  have hown : s.vm.findClass RX6 = some m.cls := findClass_of_methodNamed B.named
  have hlocks := B.notSynchronized
  have hl := lv_entry ([.ref z0, .int t]) (n := 2) (Nat.le_of_ble_eq_true rfl)
  rw [lg_entry_eq]
  generalize (lg_sl ([.ref z0, .int t]) ++ List.replicate (2 - (lg_sl ([.ref z0, .int t])).length) Slot.unset).toArray = ls at hl ⊢
  replace hl : lv_has ls 2 [(0, .ref z0), (1, .int t)] := hl
  refine lv_aload_n hx hb dX6_lacksThreeFrom_0 rfl (lv_at hl 0 rfl) ?_
  refine lv_iload_n hx hb dX6_lacksThreeFrom_1 rfl (lv_at hl 1 rfl) ?_
  refine zc_V (As := [.int t]) (rest := []) ⟨hx, hb, hml, hown, hts⟩ (c_Zip_lacksAt l D cI cJ cZ cP cS po z0 zl zs (sz) (at_) (gp) fl ((fun _ => 0)) (t) hy0 hy1 hy2 hy3 hy4 hy5 hp_fl) (cwV 1 hts gX6_lacksThreeFrom_X6_lacksAt rfl rfl rfl ⟨rfl, dh_X6_lacksAt⟩ ⟨Nat.le_of_ble_eq_true rfl, Nat.le_of_ble_eq_true rfl⟩) hK hN hZ hP (hP.sub [0, 1] rfl) (va_recv (q := (RX6, TX6, 5)) hK hP (ci := 6) (q0 := 0) rfl rfl) rfl hl.1 rfl (Nat.le_of_ble_eq_true rfl) dX6_lacksThreeFrom_2 ⟨Nat.le_of_ble_eq_true rfl, Nat.le_of_ble_eq_true rfl⟩ (fun r_1 hr_1 => ?_)
  obtain ⟨g_2, g_3⟩ := hr_1
  refine lv_if_eq (tgt := 32) hx hb dX6_lacksThreeFrom_5 (by decide) (fun c_4 => ?_) (fun c_4 => ?_)
  · have fc_4 : r_1.toInt = 0 := zf_eq c_4 rfl (by decide)
    refine lv_iconst (v := 0) hx hb dX6_lacksThreeFrom_32 (by decide) ?_
    exact W.zret (v := 0) hx hb hr (by decide) (fun t ht hW => ⟨0, rfl, ⟨by decide, by decide⟩, ht⟩) (fun q hq => by cases hq) dX6_lacksThreeFrom_33
  · have fc_4 : r_1.toInt ≠ 0 := zf_ne c_4 rfl (by decide)
    refine lv_aload_n hx hb dX6_lacksThreeFrom_8 rfl (lv_at hl 0 rfl) ?_
    refine lv_iload_n hx hb dX6_lacksThreeFrom_9 rfl (lv_at hl 1 rfl) ?_
    refine lv_iconst (v := 1) hx hb dX6_lacksThreeFrom_10 (by decide) ?_
    refine lv_iadd hx hb dX6_lacksThreeFrom_11 ?_
    refine lv_topi (fun x_5 ex_5 => ?_)
    refine zc_V (As := [.int x_5]) (rest := []) ⟨hx, hb, hml, hown, hts⟩ (c_Zip_lacksAt l D cI cJ cZ cP cS po z0 zl zs (sz) (at_) (gp) fl ((fun _ => 0)) (x_5) hy0 hy1 hy2 hy3 hy4 hy5 hp_fl) (cwV 1 hts gX6_lacksThreeFrom_X6_lacksAt rfl rfl rfl ⟨rfl, dh_X6_lacksAt⟩ ⟨Nat.le_of_ble_eq_true rfl, Nat.le_of_ble_eq_true rfl⟩) hK hN hZ hP (hP.sub [0, 1] rfl) (va_recv (q := (RX6, TX6, 5)) hK hP (ci := 6) (q0 := 0) rfl rfl) rfl hl.1 rfl (Nat.le_of_ble_eq_true rfl) dX6_lacksThreeFrom_12 ⟨Nat.le_of_ble_eq_true rfl, Nat.le_of_ble_eq_true rfl⟩ (fun r_6 hr_6 => ?_)
    obtain ⟨g_7, g_8⟩ := hr_6
    refine lv_if_eq (tgt := 32) hx hb dX6_lacksThreeFrom_15 (by decide) (fun c_9 => ?_) (fun c_9 => ?_)
    · have fc_9 : r_6.toInt = 0 := zf_eq c_9 rfl (by decide)
      refine lv_iconst (v := 0) hx hb dX6_lacksThreeFrom_32 (by decide) ?_
      exact W.zret (v := 0) hx hb hr (by decide) (fun t ht hW => ⟨0, rfl, ⟨by decide, by decide⟩, ht⟩) (fun q hq => by cases hq) dX6_lacksThreeFrom_33
    · have fc_9 : r_6.toInt ≠ 0 := zf_ne c_9 rfl (by decide)
      refine lv_aload_n hx hb dX6_lacksThreeFrom_18 rfl (lv_at hl 0 rfl) ?_
      refine lv_iload_n hx hb dX6_lacksThreeFrom_19 rfl (lv_at hl 1 rfl) ?_
      refine lv_iconst (v := 2) hx hb dX6_lacksThreeFrom_20 (by decide) ?_
      refine lv_iadd hx hb dX6_lacksThreeFrom_21 ?_
      refine lv_topi (fun x_10 ex_10 => ?_)
      refine zc_V (As := [.int x_10]) (rest := []) ⟨hx, hb, hml, hown, hts⟩ (c_Zip_lacksAt l D cI cJ cZ cP cS po z0 zl zs (sz) (at_) (gp) fl ((fun _ => 0)) (x_10) hy0 hy1 hy2 hy3 hy4 hy5 hp_fl) (cwV 1 hts gX6_lacksThreeFrom_X6_lacksAt rfl rfl rfl ⟨rfl, dh_X6_lacksAt⟩ ⟨Nat.le_of_ble_eq_true rfl, Nat.le_of_ble_eq_true rfl⟩) hK hN hZ hP (hP.sub [0, 1] rfl) (va_recv (q := (RX6, TX6, 5)) hK hP (ci := 6) (q0 := 0) rfl rfl) rfl hl.1 rfl (Nat.le_of_ble_eq_true rfl) dX6_lacksThreeFrom_22 ⟨Nat.le_of_ble_eq_true rfl, Nat.le_of_ble_eq_true rfl⟩ (fun r_11 hr_11 => ?_)
      obtain ⟨g_12, g_13⟩ := hr_11
      refine lv_if_eq (tgt := 32) hx hb dX6_lacksThreeFrom_25 (by decide) (fun c_14 => ?_) (fun c_14 => ?_)
      · have fc_14 : r_11.toInt = 0 := zf_eq c_14 rfl (by decide)
        refine lv_iconst (v := 0) hx hb dX6_lacksThreeFrom_32 (by decide) ?_
        exact W.zret (v := 0) hx hb hr (by decide) (fun t ht hW => ⟨0, rfl, ⟨by decide, by decide⟩, ht⟩) (fun q hq => by cases hq) dX6_lacksThreeFrom_33
      · have fc_14 : r_11.toInt ≠ 0 := zf_ne c_14 rfl (by decide)
        refine lv_iconst (v := 1) hx hb dX6_lacksThreeFrom_28 (by decide) ?_
        refine lv_goto (tgt := 33) hx hb dX6_lacksThreeFrom_29 (by decide) ?_
        exact W.zret (v := 1) hx hb hr (by decide) (fun t ht hW => ⟨1, rfl, ⟨by decide, by decide⟩, ht⟩) (fun q hq => by cases hq) dX6_lacksThreeFrom_33
theorem hi_X6_isStrong_6 : ∀ w ∈ u_ws RX6 TX6 5, w ∈ wsX6_isStrong := fun w h => (gl_X6_isStrong_X60 w h).1
theorem hi_X6_frailTeeth_6 : ∀ w ∈ u_ws RX6 TX6 5, w ∈ wsX6_frailTeeth := fun w h => (gl_X6_frailTeeth_X60 w h).1
theorem hi_X6_spareTeeth_6 : ∀ w ∈ u_ws RX6 TX6 5, w ∈ wsX6_spareTeeth := fun w h => (gl_X6_spareTeeth_X60 w h).1
theorem gl_X6_lackingTeeth_X60 : GoodIn wsX6_lackingTeeth wsX60 := (dg_t (dg_t (dg_t gw_wsX60)))
theorem hi_X6_lackingTeeth_6 : ∀ w ∈ u_ws RX6 TX6 5, w ∈ wsX6_lackingTeeth := fun w h => (gl_X6_lackingTeeth_X60 w h).1
theorem hi_X6_catchingTeeth_6 : ∀ w ∈ u_ws RX6 TX6 5, w ∈ wsX6_catchingTeeth := fun w h => (gl_X6_catchingTeeth_X60 w h).1
theorem hi_X6_stitchesNeeded_6 : ∀ w ∈ u_ws RX6 TX6 5, w ∈ wsX6_stitchesNeeded := fun w h => (gl_X6_stitchesNeeded_X60 w h).1
theorem hi_X6_runsTo_6 : ∀ w ∈ u_ws RX6 TX6 5, w ∈ wsX6_runsTo := fun w h => (gl_X6_runsTo_X60 w h).1
set_option maxHeartbeats 4000000 in
set_option maxRecDepth 100000 in
theorem c_Zip_runsTo (l : Launch) (D : va_G) (cI cJ cZ cP cS : ClassId) (po : zPool) (z0 zl zs : Nat) (sz at_ gp : Int32) (fl fs : Nat → Int32)  (hy0 : 4 ≤ sz.toInt) (hy1 : sz.toInt ≤ 40) (hy2 : 0 ≤ at_.toInt) (hy3 : at_.toInt ≤ 40) (hy4 : 1 ≤ gp.toInt) (hy5 : gp.toInt ≤ 9) (hp_fl : zRg fl (0) 1) (hp_fs : zRg fs (0) 9) : Met l yX6_runsTo wsX6_runsTo ({ frames := 3, cells := 0, slots := 0, locals := 63 }) (va_Pc [.ref z0] (zR D (zKT cI cJ cZ cP cS) po [(z0, .inr (6, [.ref zl, .ref zs, .int sz, .int at_, .int gp])), (zl, .inl (cZ, 40, .inl fl)), (zs, .inl (cI, 40, .inl fs))])) (vp_Si (fun r => True)) 0 0 (fun _ => False) := by
  refine Met.ofW (cc := cX6_runsTo) (maxL := 2) (ret := (some .int)) (by decide) rfl ?_
  intro p e s m args below meth c s₁ B hml hv
  obtain ⟨rfl, hP, hK, hN, hZ⟩ := hv
  have hx := B.exec
  have hb := B.bytes
  have hr := B.returns
  have hts := atoms_spec (ws := wsX6_runsTo) B.pre
  have hown : s.vm.findClass RX6 = some m.cls := findClass_of_methodNamed B.named
  have hlocks := B.notSynchronized
  have hl := lv_entry ([.ref z0]) (n := 2) (Nat.le_of_ble_eq_true rfl)
  rw [lg_entry_eq]
  generalize (lg_sl ([.ref z0]) ++ List.replicate (2 - (lg_sl ([.ref z0])).length) Slot.unset).toArray = ls at hl ⊢
  replace hl : lv_has ls 2 [(0, .ref z0)] := hl
  refine lv_aload_n hx hb dX6_runsTo_0 rfl (lv_at hl 0 rfl) ?_
  refine va_get (D := D) (ci := 6) (v := .int at_) (C := RX6) (T := TX6) (N := 5) hx hb hts hi_X6_runsTo_6 hown hK hP 0 rfl rfl 3 (by decide) (hts (.fieldLink RX6 23 "TheLiningsInIt$Zip" "at" "I") (List.mem_of_getElem? (i := 1) rfl)) (fun _ h9 => h9) rfl dX6_runsTo_1 ?_
  refine lv_istore_n (lv' := [(1, .int at_), (0, .ref z0)]) hx hb dX6_runsTo_4 rfl hl (by decide) rfl (fun ls hl => ?_)
  obtain ⟨i_5, hi_5⟩ : ∃ i : Int32, i = at_ := ⟨_, rfl⟩
  replace hl : lv_has ls 2 [(1, .int i_5), (0, .ref z0)] := by rw [hi_5]; exact lv_sub hl [0, 1] rfl
  have h1i_5 : i_5.toInt = at_.toInt := by rw [hi_5]
  obtain ⟨nfu, hni_5⟩ : ∃ nq9 : Nat, sz.toInt ≤ i_5.toInt + (nq9 : Int) := ⟨((sz.toInt : Int) - at_.toInt).toNat, by omega⟩
  have hloi_5 : 0 ≤ i_5.toInt := by omega
  clear h1i_5 hi_5
  revert hni_5
  revert hloi_5
  revert hl
  revert ls
  revert i_5
  induction nfu with
  | zero =>
    intro i_5 ls hl hloi_5 hni_5
    have hzi_5 : sz.toInt ≤ i_5.toInt := by omega
    refine lv_iload_n hx hb dX6_runsTo_5 rfl (lv_at hl 0 rfl) ?_
    refine lv_aload_n hx hb dX6_runsTo_6 rfl (lv_at hl 1 rfl) ?_
    refine va_get (D := D) (ci := 6) (v := .int sz) (C := RX6) (T := TX6) (N := 5) hx hb hts hi_X6_runsTo_6 hown hK hP 0 rfl rfl 2 (by decide) (hts (.fieldLink RX6 19 "TheLiningsInIt$Zip" "size" "I") (List.mem_of_getElem? (i := 2) rfl)) (fun _ h9 => h9) rfl dX6_runsTo_7 ?_
    refine lv_icmp_ge (tgt := 37) hx hb dX6_runsTo_10 (by decide) (fun c_1 => ?_) (fun c_1 => ?_)
    · have fc_1 : sz.toInt ≤ i_5.toInt := zf_le c_1 rfl rfl
      refine lv_aload_n hx hb dX6_runsTo_37 rfl (lv_at hl 1 rfl) ?_
      refine va_get (D := D) (ci := 6) (v := .int sz) (C := RX6) (T := TX6) (N := 5) hx hb hts hi_X6_runsTo_6 hown hK hP 0 rfl rfl 2 (by decide) (hts (.fieldLink RX6 19 "TheLiningsInIt$Zip" "size" "I") (List.mem_of_getElem? (i := 2) rfl)) (fun _ h9 => h9) rfl dX6_runsTo_38 ?_
      exact W.iret (v := sz) hx hb hr (fun t ht hW => ⟨sz, rfl, trivial, ht⟩) (fun q hq => by cases hq) dX6_runsTo_41
    · exfalso; have fc_1 : i_5.toInt < sz.toInt := zf_nle c_1 rfl rfl; omega
  | succ nfu ih =>
    intro i_5 ls hl hloi_5 hni_5
    refine lv_iload_n hx hb dX6_runsTo_5 rfl (lv_at hl 0 rfl) ?_
    refine lv_aload_n hx hb dX6_runsTo_6 rfl (lv_at hl 1 rfl) ?_
    refine va_get (D := D) (ci := 6) (v := .int sz) (C := RX6) (T := TX6) (N := 5) hx hb hts hi_X6_runsTo_6 hown hK hP 0 rfl rfl 2 (by decide) (hts (.fieldLink RX6 19 "TheLiningsInIt$Zip" "size" "I") (List.mem_of_getElem? (i := 2) rfl)) (fun _ h9 => h9) rfl dX6_runsTo_7 ?_
    refine lv_icmp_ge (tgt := 37) hx hb dX6_runsTo_10 (by decide) (fun c_2 => ?_) (fun c_2 => ?_)
    · have fc_2 : sz.toInt ≤ i_5.toInt := zf_le c_2 rfl rfl
      refine lv_aload_n hx hb dX6_runsTo_37 rfl (lv_at hl 1 rfl) ?_
      refine va_get (D := D) (ci := 6) (v := .int sz) (C := RX6) (T := TX6) (N := 5) hx hb hts hi_X6_runsTo_6 hown hK hP 0 rfl rfl 2 (by decide) (hts (.fieldLink RX6 19 "TheLiningsInIt$Zip" "size" "I") (List.mem_of_getElem? (i := 2) rfl)) (fun _ h9 => h9) rfl dX6_runsTo_38 ?_
      exact W.iret (v := sz) hx hb hr (fun t ht hW => ⟨sz, rfl, trivial, ht⟩) (fun q hq => by cases hq) dX6_runsTo_41
    · have fc_2 : i_5.toInt < sz.toInt := zf_nle c_2 rfl rfl
      refine lv_aload_n hx hb dX6_runsTo_13 rfl (lv_at hl 1 rfl) ?_
      refine lv_iload_n hx hb dX6_runsTo_14 rfl (lv_at hl 0 rfl) ?_
      refine zc_V (As := [.int i_5]) (rest := []) ⟨hx, hb, hml, hown, hts⟩ (c_Zip_catchesAt l D cI cJ cZ cP cS po z0 zl zs (sz) (at_) (gp) fl fs (i_5) hy0 hy1 hy2 hy3 hy4 hy5 hp_fl hp_fs) (cwV 1 hts gX6_runsTo_X6_catchesAt rfl rfl rfl ⟨rfl, dh_X6_catchesAt⟩ ⟨Nat.le_of_ble_eq_true rfl, Nat.le_of_ble_eq_true rfl⟩) hK hN hZ hP (hP.sub [0, 1, 2] rfl) (va_recv (q := (RX6, TX6, 5)) hK hP (ci := 6) (q0 := 0) rfl rfl) rfl hl.1 rfl (Nat.le_of_ble_eq_true rfl) dX6_runsTo_15 ⟨Nat.le_of_ble_eq_true rfl, Nat.le_of_ble_eq_true rfl⟩ (fun r_3 hr_3 => ?_)
      obtain ⟨g_4, g_5⟩ := hr_3
      refine lv_if_ne (tgt := 29) hx hb dX6_runsTo_18 (by decide) (fun c_6 => ?_) (fun c_6 => ?_)
      · have fc_6 : r_3.toInt ≠ 0 := zf_ne c_6 rfl (by decide)
        refine lv_iload_n hx hb dX6_runsTo_29 rfl (lv_at hl 0 rfl) ?_
        exact W.iret (v := i_5) hx hb hr (fun t ht hW => ⟨i_5, rfl, trivial, ht⟩) (fun q hq => by cases hq) dX6_runsTo_30
      · have fc_6 : r_3.toInt = 0 := zf_eq c_6 rfl (by decide)
        refine lv_aload_n hx hb dX6_runsTo_21 rfl (lv_at hl 1 rfl) ?_
        refine lv_iload_n hx hb dX6_runsTo_22 rfl (lv_at hl 0 rfl) ?_
        refine zc_V (As := [.int i_5]) (rest := []) ⟨hx, hb, hml, hown, hts⟩ (c_Zip_lacks3 l D cI cJ cZ cP cS po z0 zl zs (sz) (at_) (gp) fl ((fun _ => 0)) (i_5) hy0 hy1 hy2 hy3 hy4 hy5 hp_fl) (cwV 1 hts gX6_runsTo_X6_lacksThreeFrom rfl rfl rfl ⟨rfl, dh_X6_lacksThreeFrom⟩ ⟨Nat.le_of_ble_eq_true rfl, Nat.le_of_ble_eq_true rfl⟩) hK hN hZ hP (hP.sub [0, 1] rfl) (va_recv (q := (RX6, TX6, 5)) hK hP (ci := 6) (q0 := 0) rfl rfl) rfl hl.1 rfl (Nat.le_of_ble_eq_true rfl) dX6_runsTo_23 ⟨Nat.le_of_ble_eq_true rfl, Nat.le_of_ble_eq_true rfl⟩ (fun r_7 hr_7 => ?_)
        obtain ⟨g_8, g_9⟩ := hr_7
        refine lv_if_eq (tgt := 31) hx hb dX6_runsTo_26 (by decide) (fun c_10 => ?_) (fun c_10 => ?_)
        · have fc_10 : r_7.toInt = 0 := zf_eq c_10 rfl (by decide)
          obtain ⟨x_11, ex_11⟩ : ∃ y : Int32, y = i_5 + 1 := ⟨_, rfl⟩
          have qx_11 : x_11.toInt = i_5.toInt + 1 := dw_inc ex_11 fc_2
          refine lv_iinc (v := x_11) (lv' := [(1, .int x_11), (0, .ref z0)]) hx hb dX6_runsTo_31 hl (k := 0) rfl ex_11.symm (by decide) rfl (fun ls hl => ?_)
          refine lv_goto (tgt := 5) hx hb dX6_runsTo_34 (by decide) ?_
          exact ih x_11 _ (lv_sub hl [0, 1] rfl) (dw_lo hloi_5 qx_11) (dw_hn hni_5 qx_11)
        · have fc_10 : r_7.toInt ≠ 0 := zf_ne c_10 rfl (by decide)
          refine lv_iload_n hx hb dX6_runsTo_29 rfl (lv_at hl 0 rfl) ?_
          exact W.iret (v := i_5) hx hb hr (fun t ht hW => ⟨i_5, rfl, trivial, ht⟩) (fun q hq => by cases hq) dX6_runsTo_30
end
section
theorem hi_X6_takeSlack_6 : ∀ w ∈ u_ws RX6 TX6 5, w ∈ wsX6_takeSlack := fun w h => (gl_X6_takeSlack_X60 w h).1
theorem gl_X6_renew_X60 : GoodIn wsX6_renew wsX60 := (dg_t (dg_t (dg_t (dg_t (dg_t gw_wsX60)))))
theorem hi_X6_renew_6 : ∀ w ∈ u_ws RX6 TX6 5, w ∈ wsX6_renew := fun w h => (gl_X6_renew_X60 w h).1
theorem gl_X6_become_X60 : GoodIn wsX6_become wsX60 := (dg_t (dg_t (dg_t (dg_t (dg_t (dg_t gw_wsX60))))))
theorem hi_X6_become_6 : ∀ w ∈ u_ws RX6 TX6 5, w ∈ wsX6_become := fun w h => (gl_X6_become_X60 w h).1
end
section
def wsX4_hasSpan : List Cond := (.code yX4_hasSpan cX4_hasSpan 3 (some .boolean)) :: (.fieldLink RX4 19 "TheLiningsInIt$Shelf" "size" "I") :: wsX40
def wsX4_tells : List Cond := (.code yX4_tells cX4_tells 2 (some .int)) :: (.fieldLink RX4 9 "TheLiningsInIt$Shelf" "elements" "[J") :: (.methodLink RX4 36 yX4_hasSpan) :: (.instanceMethod yX4_hasSpan) :: (.selects RX4 yX4_hasSpan yX4_hasSpan) :: (.initialized RX4) :: (.code yX4_hasSpan cX4_hasSpan 3 (some .boolean)) :: (.fieldLink RX4 19 "TheLiningsInIt$Shelf" "size" "I") :: wsX40
def wsX4_noRow : List Cond := (.code yX4_noRow cX4_noRow 1 (some .int)) :: (.fieldLink RX4 15 "TheLiningsInIt$Shelf" "held" "I") :: wsX40
def wsX4_tellsWithin : List Cond := (.code yX4_tellsWithin cX4_tellsWithin 5 (some .boolean)) :: (.methodLink RX4 40 yX4_tells) :: (.instanceMethod yX4_tells) :: (.selects RX4 yX4_tells yX4_tells) :: (.initialized RX4) :: (.code yX4_tells cX4_tells 2 (some .int)) :: (.fieldLink RX4 9 "TheLiningsInIt$Shelf" "elements" "[J") :: (.methodLink RX4 36 yX4_hasSpan) :: (.instanceMethod yX4_hasSpan) :: (.selects RX4 yX4_hasSpan yX4_hasSpan) :: (.code yX4_hasSpan cX4_hasSpan 3 (some .boolean)) :: (.fieldLink RX4 19 "TheLiningsInIt$Shelf" "size" "I") :: (.static yX7_within) :: (.initialized RX7) :: (.code yX7_within cX7_within 3 (some .boolean)) :: wsX40
def wsX4_noBelief : List Cond := (.code yX4_noBelief cX4_noBelief 2 (some .int)) :: (.fieldLink RX4 19 "TheLiningsInIt$Shelf" "size" "I") :: (.methodLink RX4 28 yX4_noRow) :: (.instanceMethod yX4_noRow) :: (.selects RX4 yX4_noRow yX4_noRow) :: (.initialized RX4) :: (.code yX4_noRow cX4_noRow 1 (some .int)) :: (.fieldLink RX4 15 "TheLiningsInIt$Shelf" "held" "I") :: (.methodLink RX4 32 yX4_tellsWithin) :: (.instanceMethod yX4_tellsWithin) :: (.selects RX4 yX4_tellsWithin yX4_tellsWithin) :: (.code yX4_tellsWithin cX4_tellsWithin 5 (some .boolean)) :: (.methodLink RX4 40 yX4_tells) :: (.instanceMethod yX4_tells) :: (.selects RX4 yX4_tells yX4_tells) :: (.code yX4_tells cX4_tells 2 (some .int)) :: (.fieldLink RX4 9 "TheLiningsInIt$Shelf" "elements" "[J") :: (.methodLink RX4 36 yX4_hasSpan) :: (.instanceMethod yX4_hasSpan) :: (.selects RX4 yX4_hasSpan yX4_hasSpan) :: (.code yX4_hasSpan cX4_hasSpan 3 (some .boolean)) :: (.static yX7_within) :: (.initialized RX7) :: (.code yX7_within cX7_within 3 (some .boolean)) :: wsX40
def wsX4_noTelling : List Cond := (.code yX4_noTelling cX4_noTelling 3 (some .int)) :: (.fieldLink RX4 19 "TheLiningsInIt$Shelf" "size" "I") :: (.methodLink RX4 28 yX4_noRow) :: (.instanceMethod yX4_noRow) :: (.selects RX4 yX4_noRow yX4_noRow) :: (.initialized RX4) :: (.code yX4_noRow cX4_noRow 1 (some .int)) :: (.fieldLink RX4 15 "TheLiningsInIt$Shelf" "held" "I") :: wsX40
theorem dX4_noRow_0 : decode cX4_noRow 0 = .ok (.aload_n 0, 1) := dq_42 dp_cX4_noRow rfl
theorem dX4_noRow_1 : decode cX4_noRow 1 = .ok (.getfield 15, 3) := dq_180 dp_cX4_noRow rfl
theorem dX4_noRow_4 : decode cX4_noRow 4 = .ok (.bipush 100, 2) := dq_16 (v := 100) dp_cX4_noRow rfl rfl
theorem dX4_noRow_6 : decode cX4_noRow 6 = .ok (.if_icmp .lt 5, 3) := dq_161 (v := 5) dp_cX4_noRow rfl rfl
theorem dX4_noRow_9 : decode cX4_noRow 9 = .ok (.iconst 0, 1) := dq_3 dp_cX4_noRow rfl
theorem dX4_noRow_10 : decode cX4_noRow 10 = .ok (.ireturn, 1) := dq_172 dp_cX4_noRow rfl
theorem dX4_noRow_11 : decode cX4_noRow 11 = .ok (.aload_n 0, 1) := dq_42 dp_cX4_noRow rfl
theorem dX4_noRow_12 : decode cX4_noRow 12 = .ok (.getfield 15, 3) := dq_180 dp_cX4_noRow rfl
theorem dX4_noRow_15 : decode cX4_noRow 15 = .ok (.iconst (-1), 1) := dq_2 dp_cX4_noRow rfl
theorem dX4_noRow_16 : decode cX4_noRow 16 = .ok (.if_icmp .ne 7, 3) := dq_160 (v := 7) dp_cX4_noRow rfl rfl
theorem dX4_noRow_19 : decode cX4_noRow 19 = .ok (.iconst 3, 1) := dq_6 dp_cX4_noRow rfl
theorem dX4_noRow_20 : decode cX4_noRow 20 = .ok (.goto 4, 3) := dq_167 (v := 4) dp_cX4_noRow rfl rfl
theorem dX4_noRow_23 : decode cX4_noRow 23 = .ok (.iconst 2, 1) := dq_5 dp_cX4_noRow rfl
theorem dX4_noRow_24 : decode cX4_noRow 24 = .ok (.ireturn, 1) := dq_172 dp_cX4_noRow rfl
set_option maxRecDepth 20000 in
theorem gl_X4_noBelief_X40 : GoodIn wsX4_noBelief wsX40 := (dg_t (dg_t (dg_t (dg_t (dg_t (dg_t (dg_t (dg_t (dg_t (dg_t (dg_t (dg_t (dg_t (dg_t (dg_t (dg_t (dg_t (dg_t (dg_t (dg_t (dg_t (dg_t (dg_t (dg_t gw_wsX40))))))))))))))))))))))))
theorem ggX4_noBelief_X4_noRow : GoodIn wsX4_noBelief wsX4_noRow := (dg_c 6 rfl rfl (dg_c 7 rfl rfl gl_X4_noBelief_X40))
set_option maxRecDepth 20000 in
theorem gX4_noBelief_X4_noRow : GoodIn wsX4_noBelief (wsV RX4 28 RX4 yX4_noRow wsX4_noRow) := goodIn_app (dg_c 2 rfl rfl (dg_c 3 rfl rfl (dg_c 4 rfl rfl (dg_c 5 rfl rfl dg_0)))) ggX4_noBelief_X4_noRow
set_option maxRecDepth 20000 in
theorem ggX4_noBelief_X4_tellsWithin : GoodIn wsX4_noBelief wsX4_tellsWithin := (dg_c 11 rfl rfl (dg_c 12 rfl rfl (dg_c 13 rfl rfl (dg_c 14 rfl rfl (dg_c 5 rfl rfl (dg_c 15 rfl rfl (dg_c 16 rfl rfl (dg_c 17 rfl rfl (dg_c 18 rfl rfl (dg_c 19 rfl rfl (dg_c 20 rfl rfl (dg_c 1 rfl rfl (dg_c 21 rfl rfl (dg_c 22 rfl rfl (dg_c 23 rfl rfl gl_X4_noBelief_X40)))))))))))))))
set_option maxRecDepth 20000 in
theorem gX4_noBelief_X4_tellsWithin : GoodIn wsX4_noBelief (wsV RX4 32 RX4 yX4_tellsWithin wsX4_tellsWithin) := goodIn_app (dg_c 8 rfl rfl (dg_c 9 rfl rfl (dg_c 10 rfl rfl (dg_c 5 rfl rfl dg_0)))) ggX4_noBelief_X4_tellsWithin
theorem dX4_noBelief_0 : decode cX4_noBelief 0 = .ok (.aload_n 0, 1) := dq_42 dp_cX4_noBelief rfl
theorem dX4_noBelief_1 : decode cX4_noBelief 1 = .ok (.invokevirtual 28, 3) := dq_182 dp_cX4_noBelief rfl
theorem dX4_noBelief_4 : decode cX4_noBelief 4 = .ok (.istore_n 1, 1) := dq_60 dp_cX4_noBelief rfl
theorem dX4_noBelief_5 : decode cX4_noBelief 5 = .ok (.iload_n 1, 1) := dq_27 dp_cX4_noBelief rfl
theorem dX4_noBelief_6 : decode cX4_noBelief 6 = .ok (.ifCond .eq 5, 3) := dq_153 (v := 5) dp_cX4_noBelief rfl rfl
theorem dX4_noBelief_9 : decode cX4_noBelief 9 = .ok (.iload_n 1, 1) := dq_27 dp_cX4_noBelief rfl
theorem dX4_noBelief_10 : decode cX4_noBelief 10 = .ok (.ireturn, 1) := dq_172 dp_cX4_noBelief rfl
theorem dX4_noBelief_11 : decode cX4_noBelief 11 = .ok (.aload_n 0, 1) := dq_42 dp_cX4_noBelief rfl
theorem dX4_noBelief_12 : decode cX4_noBelief 12 = .ok (.getfield 19, 3) := dq_180 dp_cX4_noBelief rfl
theorem dX4_noBelief_15 : decode cX4_noBelief 15 = .ok (.bipush 25, 2) := dq_16 (v := 25) dp_cX4_noBelief rfl rfl
theorem dX4_noBelief_17 : decode cX4_noBelief 17 = .ok (.if_icmp .ge 5, 3) := dq_162 (v := 5) dp_cX4_noBelief rfl rfl
theorem dX4_noBelief_20 : decode cX4_noBelief 20 = .ok (.iconst 5, 1) := dq_8 dp_cX4_noBelief rfl
theorem dX4_noBelief_21 : decode cX4_noBelief 21 = .ok (.ireturn, 1) := dq_172 dp_cX4_noBelief rfl
theorem dX4_noBelief_22 : decode cX4_noBelief 22 = .ok (.aload_n 0, 1) := dq_42 dp_cX4_noBelief rfl
theorem dX4_noBelief_23 : decode cX4_noBelief 23 = .ok (.bipush 25, 2) := dq_16 (v := 25) dp_cX4_noBelief rfl rfl
theorem dX4_noBelief_25 : decode cX4_noBelief 25 = .ok (.iconst 0, 1) := dq_3 dp_cX4_noBelief rfl
theorem dX4_noBelief_26 : decode cX4_noBelief 26 = .ok (.bipush 99, 2) := dq_16 (v := 99) dp_cX4_noBelief rfl rfl
theorem dX4_noBelief_28 : decode cX4_noBelief 28 = .ok (.invokevirtual 32, 3) := dq_182 dp_cX4_noBelief rfl
theorem dX4_noBelief_31 : decode cX4_noBelief 31 = .ok (.ifCond .eq 7, 3) := dq_153 (v := 7) dp_cX4_noBelief rfl rfl
theorem dX4_noBelief_34 : decode cX4_noBelief 34 = .ok (.iconst 0, 1) := dq_3 dp_cX4_noBelief rfl
theorem dX4_noBelief_35 : decode cX4_noBelief 35 = .ok (.goto 5, 3) := dq_167 (v := 5) dp_cX4_noBelief rfl rfl
theorem dX4_noBelief_38 : decode cX4_noBelief 38 = .ok (.bipush 6, 2) := dq_16 (v := 6) dp_cX4_noBelief rfl rfl
theorem dX4_noBelief_40 : decode cX4_noBelief 40 = .ok (.ireturn, 1) := dq_172 dp_cX4_noBelief rfl
set_option maxRecDepth 20000 in
theorem gl_X4_noTelling_X40 : GoodIn wsX4_noTelling wsX40 := (dg_t (dg_t (dg_t (dg_t (dg_t (dg_t (dg_t (dg_t gw_wsX40))))))))
theorem ggX4_noTelling_X4_noRow : GoodIn wsX4_noTelling wsX4_noRow := (dg_c 6 rfl rfl (dg_c 7 rfl rfl gl_X4_noTelling_X40))
set_option maxRecDepth 20000 in
theorem gX4_noTelling_X4_noRow : GoodIn wsX4_noTelling (wsV RX4 28 RX4 yX4_noRow wsX4_noRow) := goodIn_app (dg_c 2 rfl rfl (dg_c 3 rfl rfl (dg_c 4 rfl rfl (dg_c 5 rfl rfl dg_0)))) ggX4_noTelling_X4_noRow
theorem dX4_noTelling_0 : decode cX4_noTelling 0 = .ok (.aload_n 0, 1) := dq_42 dp_cX4_noTelling rfl
theorem dX4_noTelling_1 : decode cX4_noTelling 1 = .ok (.invokevirtual 28, 3) := dq_182 dp_cX4_noTelling rfl
theorem dX4_noTelling_4 : decode cX4_noTelling 4 = .ok (.istore_n 2, 1) := dq_61 dp_cX4_noTelling rfl
theorem dX4_noTelling_5 : decode cX4_noTelling 5 = .ok (.iload_n 2, 1) := dq_28 dp_cX4_noTelling rfl
theorem dX4_noTelling_6 : decode cX4_noTelling 6 = .ok (.ifCond .eq 5, 3) := dq_153 (v := 5) dp_cX4_noTelling rfl rfl
theorem dX4_noTelling_9 : decode cX4_noTelling 9 = .ok (.iload_n 2, 1) := dq_28 dp_cX4_noTelling rfl
theorem dX4_noTelling_10 : decode cX4_noTelling 10 = .ok (.ireturn, 1) := dq_172 dp_cX4_noTelling rfl
theorem dX4_noTelling_11 : decode cX4_noTelling 11 = .ok (.iload_n 1, 1) := dq_27 dp_cX4_noTelling rfl
theorem dX4_noTelling_12 : decode cX4_noTelling 12 = .ok (.ifCond .ge 5, 3) := dq_156 (v := 5) dp_cX4_noTelling rfl rfl
theorem dX4_noTelling_15 : decode cX4_noTelling 15 = .ok (.iconst 4, 1) := dq_7 dp_cX4_noTelling rfl
theorem dX4_noTelling_16 : decode cX4_noTelling 16 = .ok (.ireturn, 1) := dq_172 dp_cX4_noTelling rfl
theorem dX4_noTelling_17 : decode cX4_noTelling 17 = .ok (.iload_n 1, 1) := dq_27 dp_cX4_noTelling rfl
theorem dX4_noTelling_18 : decode cX4_noTelling 18 = .ok (.aload_n 0, 1) := dq_42 dp_cX4_noTelling rfl
theorem dX4_noTelling_19 : decode cX4_noTelling 19 = .ok (.getfield 19, 3) := dq_180 dp_cX4_noTelling rfl
theorem dX4_noTelling_22 : decode cX4_noTelling 22 = .ok (.if_icmp .le 7, 3) := dq_164 (v := 7) dp_cX4_noTelling rfl rfl
theorem dX4_noTelling_25 : decode cX4_noTelling 25 = .ok (.iconst 5, 1) := dq_8 dp_cX4_noTelling rfl
theorem dX4_noTelling_26 : decode cX4_noTelling 26 = .ok (.goto 4, 3) := dq_167 (v := 4) dp_cX4_noTelling rfl rfl
theorem dX4_noTelling_29 : decode cX4_noTelling 29 = .ok (.iconst 0, 1) := dq_3 dp_cX4_noTelling rfl
theorem dX4_noTelling_30 : decode cX4_noTelling 30 = .ok (.ireturn, 1) := dq_172 dp_cX4_noTelling rfl
theorem dX4_hasSpan_0 : decode cX4_hasSpan 0 = .ok (.iload_n 1, 1) := dq_27 dp_cX4_hasSpan rfl
theorem dX4_hasSpan_1 : decode cX4_hasSpan 1 = .ok (.ifCond .lt 29, 3) := dq_155 (v := 29) dp_cX4_hasSpan rfl rfl
theorem dX4_hasSpan_4 : decode cX4_hasSpan 4 = .ok (.iload_n 2, 1) := dq_28 dp_cX4_hasSpan rfl
theorem dX4_hasSpan_5 : decode cX4_hasSpan 5 = .ok (.ifCond .lt 25, 3) := dq_155 (v := 25) dp_cX4_hasSpan rfl rfl
theorem dX4_hasSpan_8 : decode cX4_hasSpan 8 = .ok (.iload_n 2, 1) := dq_28 dp_cX4_hasSpan rfl
theorem dX4_hasSpan_9 : decode cX4_hasSpan 9 = .ok (.aload_n 0, 1) := dq_42 dp_cX4_hasSpan rfl
theorem dX4_hasSpan_10 : decode cX4_hasSpan 10 = .ok (.getfield 19, 3) := dq_180 dp_cX4_hasSpan rfl
theorem dX4_hasSpan_13 : decode cX4_hasSpan 13 = .ok (.if_icmp .gt 17, 3) := dq_163 (v := 17) dp_cX4_hasSpan rfl rfl
theorem dX4_hasSpan_16 : decode cX4_hasSpan 16 = .ok (.iload_n 1, 1) := dq_27 dp_cX4_hasSpan rfl
theorem dX4_hasSpan_17 : decode cX4_hasSpan 17 = .ok (.aload_n 0, 1) := dq_42 dp_cX4_hasSpan rfl
theorem dX4_hasSpan_18 : decode cX4_hasSpan 18 = .ok (.getfield 19, 3) := dq_180 dp_cX4_hasSpan rfl
theorem dX4_hasSpan_21 : decode cX4_hasSpan 21 = .ok (.iload_n 2, 1) := dq_28 dp_cX4_hasSpan rfl
theorem dX4_hasSpan_22 : decode cX4_hasSpan 22 = .ok (.isub, 1) := dq_100 dp_cX4_hasSpan rfl
theorem dX4_hasSpan_23 : decode cX4_hasSpan 23 = .ok (.if_icmp .gt 7, 3) := dq_163 (v := 7) dp_cX4_hasSpan rfl rfl
theorem dX4_hasSpan_26 : decode cX4_hasSpan 26 = .ok (.iconst 1, 1) := dq_4 dp_cX4_hasSpan rfl
theorem dX4_hasSpan_27 : decode cX4_hasSpan 27 = .ok (.goto 4, 3) := dq_167 (v := 4) dp_cX4_hasSpan rfl rfl
theorem dX4_hasSpan_30 : decode cX4_hasSpan 30 = .ok (.iconst 0, 1) := dq_3 dp_cX4_hasSpan rfl
theorem dX4_hasSpan_31 : decode cX4_hasSpan 31 = .ok (.ireturn, 1) := dq_172 dp_cX4_hasSpan rfl
set_option maxRecDepth 20000 in
theorem gl_X4_tells_X40 : GoodIn wsX4_tells wsX40 := (dg_t (dg_t (dg_t (dg_t (dg_t (dg_t (dg_t (dg_t gw_wsX40))))))))
theorem ggX4_tells_X4_hasSpan : GoodIn wsX4_tells wsX4_hasSpan := (dg_c 6 rfl rfl (dg_c 7 rfl rfl gl_X4_tells_X40))
set_option maxRecDepth 20000 in
theorem gX4_tells_X4_hasSpan : GoodIn wsX4_tells (wsV RX4 36 RX4 yX4_hasSpan wsX4_hasSpan) := goodIn_app (dg_c 2 rfl rfl (dg_c 3 rfl rfl (dg_c 4 rfl rfl (dg_c 5 rfl rfl dg_0)))) ggX4_tells_X4_hasSpan
theorem dX4_tells_0 : decode cX4_tells 0 = .ok (.aload_n 0, 1) := dq_42 dp_cX4_tells rfl
theorem dX4_tells_1 : decode cX4_tells 1 = .ok (.iload_n 1, 1) := dq_27 dp_cX4_tells rfl
theorem dX4_tells_2 : decode cX4_tells 2 = .ok (.iconst 1, 1) := dq_4 dp_cX4_tells rfl
theorem dX4_tells_3 : decode cX4_tells 3 = .ok (.invokevirtual 36, 3) := dq_182 dp_cX4_tells rfl
theorem dX4_tells_6 : decode cX4_tells 6 = .ok (.ifCond .eq 13, 3) := dq_153 (v := 13) dp_cX4_tells rfl rfl
theorem dX4_tells_9 : decode cX4_tells 9 = .ok (.aload_n 0, 1) := dq_42 dp_cX4_tells rfl
theorem dX4_tells_10 : decode cX4_tells 10 = .ok (.getfield 9, 3) := dq_180 dp_cX4_tells rfl
theorem dX4_tells_13 : decode cX4_tells 13 = .ok (.iload_n 1, 1) := dq_27 dp_cX4_tells rfl
theorem dX4_tells_14 : decode cX4_tells 14 = .ok (.laload, 1) := dq_47 dp_cX4_tells rfl
theorem dX4_tells_15 : decode cX4_tells 15 = .ok (.l2i, 1) := dq_136 dp_cX4_tells rfl
theorem dX4_tells_16 : decode cX4_tells 16 = .ok (.goto 4, 3) := dq_167 (v := 4) dp_cX4_tells rfl rfl
theorem dX4_tells_19 : decode cX4_tells 19 = .ok (.iconst 0, 1) := dq_3 dp_cX4_tells rfl
theorem dX4_tells_20 : decode cX4_tells 20 = .ok (.ireturn, 1) := dq_172 dp_cX4_tells rfl
set_option maxRecDepth 20000 in
theorem gl_X4_tellsWithin_X40 : GoodIn wsX4_tellsWithin wsX40 := (dg_t (dg_t (dg_t (dg_t (dg_t (dg_t (dg_t (dg_t (dg_t (dg_t (dg_t (dg_t (dg_t (dg_t (dg_t gw_wsX40)))))))))))))))
theorem ggX4_tellsWithin_X4_tells : GoodIn wsX4_tellsWithin wsX4_tells := (dg_c 5 rfl rfl (dg_c 6 rfl rfl (dg_c 7 rfl rfl (dg_c 8 rfl rfl (dg_c 9 rfl rfl (dg_c 4 rfl rfl (dg_c 10 rfl rfl (dg_c 11 rfl rfl gl_X4_tellsWithin_X40))))))))
set_option maxRecDepth 20000 in
theorem gX4_tellsWithin_X4_tells : GoodIn wsX4_tellsWithin (wsV RX4 40 RX4 yX4_tells wsX4_tells) := goodIn_app (dg_c 1 rfl rfl (dg_c 2 rfl rfl (dg_c 3 rfl rfl (dg_c 4 rfl rfl dg_0)))) ggX4_tellsWithin_X4_tells
set_option maxRecDepth 20000 in
theorem ggX4_tellsWithin_X7_within : GoodIn wsX4_tellsWithin wsX7_within := (dg_c 14 rfl rfl dg_0)
set_option maxRecDepth 20000 in
theorem gX4_tellsWithin_X7_within_n44 : GoodIn wsX4_tellsWithin (wsX7_within) := ggX4_tellsWithin_X7_within
theorem dX4_tellsWithin_0 : decode cX4_tellsWithin 0 = .ok (.iconst 0, 1) := dq_3 dp_cX4_tellsWithin rfl
theorem dX4_tellsWithin_1 : decode cX4_tellsWithin 1 = .ok (.istore 4, 2) := dq_54 dp_cX4_tellsWithin rfl
theorem dX4_tellsWithin_3 : decode cX4_tellsWithin 3 = .ok (.iload 4, 2) := dq_21 dp_cX4_tellsWithin rfl
theorem dX4_tellsWithin_5 : decode cX4_tellsWithin 5 = .ok (.iload_n 1, 1) := dq_27 dp_cX4_tellsWithin rfl
theorem dX4_tellsWithin_6 : decode cX4_tellsWithin 6 = .ok (.if_icmp .ge 25, 3) := dq_162 (v := 25) dp_cX4_tellsWithin rfl rfl
theorem dX4_tellsWithin_9 : decode cX4_tellsWithin 9 = .ok (.aload_n 0, 1) := dq_42 dp_cX4_tellsWithin rfl
theorem dX4_tellsWithin_10 : decode cX4_tellsWithin 10 = .ok (.iload 4, 2) := dq_21 dp_cX4_tellsWithin rfl
theorem dX4_tellsWithin_12 : decode cX4_tellsWithin 12 = .ok (.invokevirtual 40, 3) := dq_182 dp_cX4_tellsWithin rfl
theorem dX4_tellsWithin_15 : decode cX4_tellsWithin 15 = .ok (.iload_n 2, 1) := dq_28 dp_cX4_tellsWithin rfl
theorem dX4_tellsWithin_16 : decode cX4_tellsWithin 16 = .ok (.iload_n 3, 1) := dq_29 dp_cX4_tellsWithin rfl
theorem dX4_tellsWithin_17 : decode cX4_tellsWithin 17 = .ok (.invokestatic 44, 3) := dq_184 dp_cX4_tellsWithin rfl
theorem dX4_tellsWithin_20 : decode cX4_tellsWithin 20 = .ok (.ifCond .ne 5, 3) := dq_154 (v := 5) dp_cX4_tellsWithin rfl rfl
theorem dX4_tellsWithin_23 : decode cX4_tellsWithin 23 = .ok (.iconst 0, 1) := dq_3 dp_cX4_tellsWithin rfl
theorem dX4_tellsWithin_24 : decode cX4_tellsWithin 24 = .ok (.ireturn, 1) := dq_172 dp_cX4_tellsWithin rfl
theorem dX4_tellsWithin_25 : decode cX4_tellsWithin 25 = .ok (.iinc 4 1, 3) := dq_132 (v := 1) dp_cX4_tellsWithin rfl (by decide) rfl
theorem dX4_tellsWithin_28 : decode cX4_tellsWithin 28 = .ok (.goto (-25), 3) := dq_167 (v := 65511) dp_cX4_tellsWithin rfl rfl
theorem dX4_tellsWithin_31 : decode cX4_tellsWithin 31 = .ok (.iconst 1, 1) := dq_4 dp_cX4_tellsWithin rfl
theorem dX4_tellsWithin_32 : decode cX4_tellsWithin 32 = .ok (.ireturn, 1) := dq_172 dp_cX4_tellsWithin rfl
end
section
theorem gl_X4_noRow_X40 : GoodIn wsX4_noRow wsX40 := (dg_t (dg_t gw_wsX40))
theorem hi_X4_noRow_4 : ∀ w ∈ u_ws RX4 TX4 3, w ∈ wsX4_noRow := fun w h => (gl_X4_noRow_X40 w h).1
set_option maxHeartbeats 4000000 in
set_option maxRecDepth 100000 in
theorem c_Sh_noRow (l : Launch) (D : va_G) (cI cJ cZ cP cS : ClassId) (po : zPool) (h0 e0 : Nat) (he si : Int32) (hy0 : (-1) ≤ he.toInt) (hy1 : he.toInt ≤ 103) (hy2 : 0 ≤ si.toInt) (hy3 : si.toInt ≤ 160) : Met l yX4_noRow wsX4_noRow ({ frames := 0, cells := 0, slots := 0, locals := 0 }) (va_Pc [.ref h0] (zR D (zKT cI cJ cZ cP cS) po [(h0, .inr (4, [.ref e0, .int he, .int si]))])) (vp_Si (fun r => (r = 2 ∧ he.toInt < 100 ∧ he.toInt ≠ (-1)) ∨ (r = 3 ∧ he.toInt < 100 ∧ he.toInt = (-1)) ∨ (r = 0 ∧ 100 ≤ he.toInt))) 0 0 (fun _ => False) := by
  refine Met.ofW (cc := cX4_noRow) (maxL := 1) (ret := (some .int)) (by decide) rfl ?_
  intro p e s m args below meth c s₁ B hml hv
  obtain ⟨rfl, hP, hK, hN, hZ⟩ := hv
  have hx := B.exec
  have hb := B.bytes
  have hr := B.returns
  have hts := atoms_spec (ws := wsX4_noRow) B.pre
  have hown : s.vm.findClass RX4 = some m.cls := findClass_of_methodNamed B.named
  have hlocks := B.notSynchronized
  have hl := lv_entry ([.ref h0]) (n := 1) (Nat.le_of_ble_eq_true rfl)
  rw [lg_entry_eq]
  generalize (lg_sl ([.ref h0]) ++ List.replicate (1 - (lg_sl ([.ref h0])).length) Slot.unset).toArray = ls at hl ⊢
  replace hl : lv_has ls 1 [(0, .ref h0)] := hl
  refine lv_aload_n hx hb dX4_noRow_0 rfl (lv_at hl 0 rfl) ?_
  refine va_get (D := D) (ci := 4) (v := .int he) (C := RX4) (T := TX4) (N := 3) hx hb hts hi_X4_noRow_4 hown hK hP 0 rfl rfl 1 (by decide) (hts (.fieldLink RX4 15 "TheLiningsInIt$Shelf" "held" "I") (List.mem_of_getElem? (i := 1) rfl)) (fun _ h9 => h9) rfl dX4_noRow_1 ?_
  refine lv_bipush (v := 100) hx hb dX4_noRow_4 (by decide) ?_
  refine lv_icmp_lt (tgt := 11) hx hb dX4_noRow_6 (by decide) (fun c_1 => ?_) (fun c_1 => ?_)
  · have fc_1 : he.toInt < 100 := zf_lt c_1 rfl (by decide)
    refine lv_aload_n hx hb dX4_noRow_11 rfl (lv_at hl 0 rfl) ?_
    refine va_get (D := D) (ci := 4) (v := .int he) (C := RX4) (T := TX4) (N := 3) hx hb hts hi_X4_noRow_4 hown hK hP 0 rfl rfl 1 (by decide) (hts (.fieldLink RX4 15 "TheLiningsInIt$Shelf" "held" "I") (List.mem_of_getElem? (i := 1) rfl)) (fun _ h9 => h9) rfl dX4_noRow_12 ?_
    refine lv_iconst (v := (-1)) hx hb dX4_noRow_15 (by decide) ?_
    refine lv_icmp_ne (tgt := 23) hx hb dX4_noRow_16 (by decide) (fun c_2 => ?_) (fun c_2 => ?_)
    · have fc_2 : he.toInt ≠ (-1) := zf_ne c_2 rfl (by decide)
      refine lv_iconst (v := 2) hx hb dX4_noRow_23 (by decide) ?_
      exact W.iret (v := 2) hx hb hr (fun t ht hW => ⟨2, rfl, Or.inl (⟨rfl, (by first | omega | decide), (by first | omega | decide)⟩), ht⟩) (fun q hq => by cases hq) dX4_noRow_24
    · have fc_2 : he.toInt = (-1) := zf_eq c_2 rfl (by decide)
      refine lv_iconst (v := 3) hx hb dX4_noRow_19 (by decide) ?_
      refine lv_goto (tgt := 24) hx hb dX4_noRow_20 (by decide) ?_
      exact W.iret (v := 3) hx hb hr (fun t ht hW => ⟨3, rfl, Or.inr (Or.inl (⟨rfl, (by first | omega | decide), (by first | omega | decide)⟩)), ht⟩) (fun q hq => by cases hq) dX4_noRow_24
  · have fc_1 : 100 ≤ he.toInt := zf_nlt c_1 rfl (by decide)
    refine lv_iconst (v := 0) hx hb dX4_noRow_9 (by decide) ?_
    exact W.iret (v := 0) hx hb hr (fun t ht hW => ⟨0, rfl, Or.inr (Or.inr (⟨rfl, (by first | omega | decide)⟩)), ht⟩) (fun q hq => by cases hq) dX4_noRow_10
theorem gl_X4_hasSpan_X40 : GoodIn wsX4_hasSpan wsX40 := (dg_t (dg_t gw_wsX40))
theorem hi_X4_hasSpan_4 : ∀ w ∈ u_ws RX4 TX4 3, w ∈ wsX4_hasSpan := fun w h => (gl_X4_hasSpan_X40 w h).1
set_option maxHeartbeats 4000000 in
set_option maxRecDepth 100000 in
theorem c_Sh_hasSpan (l : Launch) (D : va_G) (cI cJ cZ cP cS : ClassId) (po : zPool) (h0 e0 : Nat) (he si : Int32) (i n : Int32) (hy0 : (-1) ≤ he.toInt) (hy1 : he.toInt ≤ 103) (hy2 : 0 ≤ si.toInt) (hy3 : si.toInt ≤ 160) : Met l yX4_hasSpan wsX4_hasSpan ({ frames := 0, cells := 0, slots := 0, locals := 0 }) (va_Pc [.ref h0, .int i, .int n] (zR D (zKT cI cJ cZ cP cS) po [(h0, .inr (4, [.ref e0, .int he, .int si]))])) (vp_Si (fun r => (r = 0 ∧ i.toInt < 0) ∨ (r = 0 ∧ 0 ≤ i.toInt ∧ n.toInt < 0) ∨ (r = 0 ∧ 0 ≤ i.toInt ∧ 0 ≤ n.toInt ∧ si.toInt < n.toInt) ∨ (r = 0 ∧ 0 ≤ i.toInt ∧ 0 ≤ n.toInt ∧ n.toInt ≤ si.toInt ∧ (si.toInt - n.toInt) < i.toInt) ∨ (r = 1 ∧ 0 ≤ i.toInt ∧ 0 ≤ n.toInt ∧ n.toInt ≤ si.toInt ∧ i.toInt ≤ (si.toInt - n.toInt)))) 0 0 (fun _ => False) := by
  refine Met.ofW (cc := cX4_hasSpan) (maxL := 3) (ret := (some .boolean)) (by decide) rfl ?_
  intro p e s m args below meth c s₁ B hml hv
  obtain ⟨rfl, hP, hK, hN, hZ⟩ := hv
  have hx := B.exec
  have hb := B.bytes
  have hr := B.returns
  have hts := atoms_spec (ws := wsX4_hasSpan) B.pre
  have hown : s.vm.findClass RX4 = some m.cls := findClass_of_methodNamed B.named
  have hlocks := B.notSynchronized
  have hl := lv_entry ([.ref h0, .int i, .int n]) (n := 3) (Nat.le_of_ble_eq_true rfl)
  rw [lg_entry_eq]
  generalize (lg_sl ([.ref h0, .int i, .int n]) ++ List.replicate (3 - (lg_sl ([.ref h0, .int i, .int n])).length) Slot.unset).toArray = ls at hl ⊢
  replace hl : lv_has ls 3 [(0, .ref h0), (1, .int i), (2, .int n)] := hl
  refine lv_iload_n hx hb dX4_hasSpan_0 rfl (lv_at hl 1 rfl) ?_
  refine lv_if_lt (tgt := 30) hx hb dX4_hasSpan_1 (by decide) (fun c_1 => ?_) (fun c_1 => ?_)
  · have fc_1 : i.toInt < 0 := zf_lt c_1 rfl (by decide)
    refine lv_iconst (v := 0) hx hb dX4_hasSpan_30 (by decide) ?_
    exact W.zret (v := 0) hx hb hr (by decide) (fun t ht hW => ⟨0, rfl, Or.inl (⟨rfl, (by first | omega | decide)⟩), ht⟩) (fun q hq => by cases hq) dX4_hasSpan_31
  · have fc_1 : 0 ≤ i.toInt := zf_nlt c_1 rfl (by decide)
    refine lv_iload_n hx hb dX4_hasSpan_4 rfl (lv_at hl 2 rfl) ?_
    refine lv_if_lt (tgt := 30) hx hb dX4_hasSpan_5 (by decide) (fun c_2 => ?_) (fun c_2 => ?_)
    · have fc_2 : n.toInt < 0 := zf_lt c_2 rfl (by decide)
      refine lv_iconst (v := 0) hx hb dX4_hasSpan_30 (by decide) ?_
      exact W.zret (v := 0) hx hb hr (by decide) (fun t ht hW => ⟨0, rfl, Or.inr (Or.inl (⟨rfl, (by first | omega | decide), (by first | omega | decide)⟩)), ht⟩) (fun q hq => by cases hq) dX4_hasSpan_31
    · have fc_2 : 0 ≤ n.toInt := zf_nlt c_2 rfl (by decide)
      refine lv_iload_n hx hb dX4_hasSpan_8 rfl (lv_at hl 2 rfl) ?_
      refine lv_aload_n hx hb dX4_hasSpan_9 rfl (lv_at hl 0 rfl) ?_
      refine va_get (D := D) (ci := 4) (v := .int si) (C := RX4) (T := TX4) (N := 3) hx hb hts hi_X4_hasSpan_4 hown hK hP 0 rfl rfl 2 (by decide) (hts (.fieldLink RX4 19 "TheLiningsInIt$Shelf" "size" "I") (List.mem_of_getElem? (i := 1) rfl)) (fun _ h9 => h9) rfl dX4_hasSpan_10 ?_
      refine lv_icmp_gt (tgt := 30) hx hb dX4_hasSpan_13 (by decide) (fun c_3 => ?_) (fun c_3 => ?_)
      · have fc_3 : si.toInt < n.toInt := zf_lt c_3 rfl rfl
        refine lv_iconst (v := 0) hx hb dX4_hasSpan_30 (by decide) ?_
        exact W.zret (v := 0) hx hb hr (by decide) (fun t ht hW => ⟨0, rfl, Or.inr (Or.inr (Or.inl (⟨rfl, (by first | omega | decide), (by first | omega | decide), (by first | omega | decide)⟩))), ht⟩) (fun q hq => by cases hq) dX4_hasSpan_31
      · have fc_3 : n.toInt ≤ si.toInt := zf_nlt c_3 rfl rfl
        refine lv_iload_n hx hb dX4_hasSpan_16 rfl (lv_at hl 1 rfl) ?_
        refine lv_aload_n hx hb dX4_hasSpan_17 rfl (lv_at hl 0 rfl) ?_
        refine va_get (D := D) (ci := 4) (v := .int si) (C := RX4) (T := TX4) (N := 3) hx hb hts hi_X4_hasSpan_4 hown hK hP 0 rfl rfl 2 (by decide) (hts (.fieldLink RX4 19 "TheLiningsInIt$Shelf" "size" "I") (List.mem_of_getElem? (i := 1) rfl)) (fun _ h9 => h9) rfl dX4_hasSpan_18 ?_
        refine lv_iload_n hx hb dX4_hasSpan_21 rfl (lv_at hl 2 rfl) ?_
        refine lv_isub hx hb dX4_hasSpan_22 ?_
        refine lv_topi (fun x_4 ex_4 => ?_)
        have qx_4 : x_4.toInt = si.toInt - n.toInt := by rw [ex_4]; exact zf_sub rfl rfl (by omega) (by omega)
        refine lv_icmp_gt (tgt := 30) hx hb dX4_hasSpan_23 (by decide) (fun c_5 => ?_) (fun c_5 => ?_)
        · have fc_5 : x_4.toInt < i.toInt := zf_lt c_5 rfl rfl
          refine lv_iconst (v := 0) hx hb dX4_hasSpan_30 (by decide) ?_
          exact W.zret (v := 0) hx hb hr (by decide) (fun t ht hW => ⟨0, rfl, Or.inr (Or.inr (Or.inr (Or.inl (⟨rfl, (by first | omega | decide), (by first | omega | decide), (by first | omega | decide), (by first | omega | decide)⟩)))), ht⟩) (fun q hq => by cases hq) dX4_hasSpan_31
        · have fc_5 : i.toInt ≤ x_4.toInt := zf_nlt c_5 rfl rfl
          refine lv_iconst (v := 1) hx hb dX4_hasSpan_26 (by decide) ?_
          refine lv_goto (tgt := 31) hx hb dX4_hasSpan_27 (by decide) ?_
          exact W.zret (v := 1) hx hb hr (by decide) (fun t ht hW => ⟨1, rfl, Or.inr (Or.inr (Or.inr (Or.inr (⟨rfl, (by first | omega | decide), (by first | omega | decide), (by first | omega | decide), (by first | omega | decide)⟩)))), ht⟩) (fun q hq => by cases hq) dX4_hasSpan_31
theorem hi_X4_tells_4 : ∀ w ∈ u_ws RX4 TX4 3, w ∈ wsX4_tells := fun w h => (gl_X4_tells_X40 w h).1
set_option maxHeartbeats 4000000 in
set_option maxRecDepth 100000 in
theorem c_Sh_tells (l : Launch) (D : va_G) (cI cJ cZ cP cS : ClassId) (po : zPool) (h0 e0 : Nat) (he si : Int32) (fe : Nat → Int64) (i : Int32) (hy0 : (-1) ≤ he.toInt) (hy1 : he.toInt ≤ 103) (hy2 : 0 ≤ si.toInt) (hy3 : si.toInt ≤ 160) : Met l yX4_tells wsX4_tells ({ frames := 1, cells := 0, slots := 0, locals := 22 }) (va_Pc [.ref h0, .int i] (zR D (zKT cI cJ cZ cP cS) po [(h0, .inr (4, [.ref e0, .int he, .int si])), (e0, .inl (cJ, 160, .inr (.inl fe)))])) (vp_Si (fun r => True)) 0 0 (fun _ => False) := by
  refine Met.ofW (cc := cX4_tells) (maxL := 2) (ret := (some .int)) (by decide) rfl ?_
  intro p e s m args below meth c s₁ B hml hv
  obtain ⟨rfl, hP, hK, hN, hZ⟩ := hv
  have hx := B.exec
  have hb := B.bytes
  have hr := B.returns
  have hts := atoms_spec (ws := wsX4_tells) B.pre
  have hown : s.vm.findClass RX4 = some m.cls := findClass_of_methodNamed B.named
  have hlocks := B.notSynchronized
  have hl := lv_entry ([.ref h0, .int i]) (n := 2) (Nat.le_of_ble_eq_true rfl)
  rw [lg_entry_eq]
  generalize (lg_sl ([.ref h0, .int i]) ++ List.replicate (2 - (lg_sl ([.ref h0, .int i])).length) Slot.unset).toArray = ls at hl ⊢
  replace hl : lv_has ls 2 [(0, .ref h0), (1, .int i)] := hl
  refine lv_aload_n hx hb dX4_tells_0 rfl (lv_at hl 0 rfl) ?_
  refine lv_iload_n hx hb dX4_tells_1 rfl (lv_at hl 1 rfl) ?_
  refine lv_iconst (v := 1) hx hb dX4_tells_2 (by decide) ?_
  have kc1 : (1 : Int32).toInt = 1 := by decide
  refine zc_V (As := [.int i, .int 1]) (rest := []) ⟨hx, hb, hml, hown, hts⟩ (c_Sh_hasSpan l D cI cJ cZ cP cS po h0 e0 (he) (si) (i) (1) hy0 hy1 hy2 hy3) (cwV 2 hts gX4_tells_X4_hasSpan rfl rfl rfl ⟨rfl, dh_X4_hasSpan⟩ ⟨Nat.le_of_ble_eq_true rfl, Nat.le_of_ble_eq_true rfl⟩) hK hN hZ hP (hP.sub [0] rfl) (va_recv (q := (RX4, TX4, 3)) hK hP (ci := 4) (q0 := 0) rfl rfl) rfl hl.1 rfl (Nat.le_of_ble_eq_true rfl) dX4_tells_3 ⟨Nat.le_of_ble_eq_true rfl, Nat.le_of_ble_eq_true rfl⟩ (fun r_1 hr_1 => ?_)
  rcases hr_1 with ⟨rfl, g_2⟩ | ⟨rfl, g_3, g_4⟩ | ⟨rfl, g_5, g_6, g_7⟩ | ⟨rfl, g_8, g_9, g_10, g_11⟩ | ⟨rfl, g_12, g_13, g_14, g_15⟩
  · refine lv_if_eq (tgt := 19) hx hb dX4_tells_6 (by decide) (fun c_16 => ?_) (fun c_16 => ?_)
    · refine lv_iconst (v := 0) hx hb dX4_tells_19 (by decide) ?_
      exact W.iret (v := 0) hx hb hr (fun t ht hW => ⟨0, rfl, trivial, ht⟩) (fun q hq => by cases hq) dX4_tells_20
    · exact absurd c_16 (by decide)
  · exfalso; omega
  · refine lv_if_eq (tgt := 19) hx hb dX4_tells_6 (by decide) (fun c_17 => ?_) (fun c_17 => ?_)
    · refine lv_iconst (v := 0) hx hb dX4_tells_19 (by decide) ?_
      exact W.iret (v := 0) hx hb hr (fun t ht hW => ⟨0, rfl, trivial, ht⟩) (fun q hq => by cases hq) dX4_tells_20
    · exact absurd c_17 (by decide)
  · refine lv_if_eq (tgt := 19) hx hb dX4_tells_6 (by decide) (fun c_18 => ?_) (fun c_18 => ?_)
    · refine lv_iconst (v := 0) hx hb dX4_tells_19 (by decide) ?_
      exact W.iret (v := 0) hx hb hr (fun t ht hW => ⟨0, rfl, trivial, ht⟩) (fun q hq => by cases hq) dX4_tells_20
    · exact absurd c_18 (by decide)
  · refine lv_if_eq (tgt := 19) hx hb dX4_tells_6 (by decide) (fun c_19 => ?_) (fun c_19 => ?_)
    · exact absurd c_19 (by decide)
    · refine lv_aload_n hx hb dX4_tells_9 rfl (lv_at hl 0 rfl) ?_
      refine va_get (D := D) (ci := 4) (v := .ref e0) (C := RX4) (T := TX4) (N := 3) hx hb hts hi_X4_tells_4 hown hK hP 0 rfl rfl 0 (by decide) (hts (.fieldLink RX4 9 "TheLiningsInIt$Shelf" "elements" "[J") (List.mem_of_getElem? (i := 1) rfl)) (fun _ h9 => h9) rfl dX4_tells_10 ?_
      refine lv_iload_n hx hb dX4_tells_13 rfl (lv_at hl 1 rfl) ?_
      refine va_lald hx hb hK hP 1 1 rfl rfl (zf_in (by omega) (by omega)) dX4_tells_14 ?_
      refine lv_topl (fun x_20 ex_20 => ?_)
      refine lv_l2i hx hb dX4_tells_15 rfl ?_
      refine lv_topi (fun x_21 ex_21 => ?_)
      refine lv_goto (tgt := 20) hx hb dX4_tells_16 (by decide) ?_
      exact W.iret (v := x_21) hx hb hr (fun t ht hW => ⟨x_21, rfl, trivial, ht⟩) (fun q hq => by cases hq) dX4_tells_20
set_option maxHeartbeats 4000000 in
set_option maxRecDepth 100000 in
theorem c_Sh_tellsWithin (l : Launch) (D : va_G) (cI cJ cZ cP cS : ClassId) (po : zPool) (h0 e0 : Nat) (he si : Int32) (fe : Nat → Int64) (n lo hi : Int32) (hy0 : (-1) ≤ he.toInt) (hy1 : he.toInt ≤ 103) (hy2 : 0 ≤ si.toInt) (hy3 : si.toInt ≤ 160) (hy4 : 0 ≤ n.toInt) (hy5 : n.toInt ≤ 160) : Met l yX4_tellsWithin wsX4_tellsWithin ({ frames := 2, cells := 0, slots := 0, locals := 43 }) (va_Pc [.ref h0, .int n, .int lo, .int hi] (zR D (zKT cI cJ cZ cP cS) po [(h0, .inr (4, [.ref e0, .int he, .int si])), (e0, .inl (cJ, 160, .inr (.inl fe)))])) (vp_Si (fun r => 0 ≤ r.toInt ∧ r.toInt ≤ 1)) 0 0 (fun _ => False) := by
  refine Met.ofW (cc := cX4_tellsWithin) (maxL := 5) (ret := (some .boolean)) (by decide) rfl ?_
  intro p e s m args below meth c s₁ B hml hv
  obtain ⟨rfl, hP, hK, hN, hZ⟩ := hv
  have hx := B.exec
  have hb := B.bytes
  have hr := B.returns
  have hts := atoms_spec (ws := wsX4_tellsWithin) B.pre
  have hown : s.vm.findClass RX4 = some m.cls := findClass_of_methodNamed B.named
  have hlocks := B.notSynchronized
  have hl := lv_entry ([.ref h0, .int n, .int lo, .int hi]) (n := 5) (Nat.le_of_ble_eq_true rfl)
  rw [lg_entry_eq]
  generalize (lg_sl ([.ref h0, .int n, .int lo, .int hi]) ++ List.replicate (5 - (lg_sl ([.ref h0, .int n, .int lo, .int hi])).length) Slot.unset).toArray = ls at hl ⊢
  replace hl : lv_has ls 5 [(0, .ref h0), (1, .int n), (2, .int lo), (3, .int hi)] := hl
  refine lv_iconst (v := 0) hx hb dX4_tellsWithin_0 (by decide) ?_
  refine lv_istore (lv' := [(4, .int 0), (0, .ref h0), (1, .int n), (2, .int lo), (3, .int hi)]) hx hb dX4_tellsWithin_1 hl (by decide) rfl (fun ls hl => ?_)
  obtain ⟨i_3, hi_3⟩ : ∃ i : Int32, i = 0 := ⟨_, rfl⟩
  replace hl : lv_has ls 5 [(4, .int i_3), (0, .ref h0), (1, .int n), (2, .int lo), (3, .int hi)] := by rw [hi_3]; exact lv_sub hl [0, 1, 2, 3, 4] rfl
  have h1i_3 : i_3.toInt = 0 := by rw [hi_3]; decide
  obtain ⟨nfu, hni_3⟩ : ∃ nq9 : Nat, n.toInt ≤ i_3.toInt + (nq9 : Int) := ⟨((n.toInt : Int) - 0).toNat, by omega⟩
  have hloi_3 : 0 ≤ i_3.toInt := by omega
  clear h1i_3 hi_3
  revert hni_3
  revert hloi_3
  revert hl
  revert ls
  revert i_3
  induction nfu with
  | zero =>
    intro i_3 ls hl hloi_3 hni_3
    have hzi_3 : n.toInt ≤ i_3.toInt := by omega
    refine lv_iload hx hb dX4_tellsWithin_3 (lv_at hl 0 rfl) ?_
    refine lv_iload_n hx hb dX4_tellsWithin_5 rfl (lv_at hl 2 rfl) ?_
    refine lv_icmp_ge (tgt := 31) hx hb dX4_tellsWithin_6 (by decide) (fun c_1 => ?_) (fun c_1 => ?_)
    · have fc_1 : n.toInt ≤ i_3.toInt := zf_le c_1 rfl rfl
      refine lv_iconst (v := 1) hx hb dX4_tellsWithin_31 (by decide) ?_
      exact W.zret (v := 1) hx hb hr (by decide) (fun t ht hW => ⟨1, rfl, ⟨by decide, by decide⟩, ht⟩) (fun q hq => by cases hq) dX4_tellsWithin_32
    · exfalso; have fc_1 : i_3.toInt < n.toInt := zf_nle c_1 rfl rfl; omega
  | succ nfu ih =>
    intro i_3 ls hl hloi_3 hni_3
    refine lv_iload hx hb dX4_tellsWithin_3 (lv_at hl 0 rfl) ?_
    refine lv_iload_n hx hb dX4_tellsWithin_5 rfl (lv_at hl 2 rfl) ?_
    refine lv_icmp_ge (tgt := 31) hx hb dX4_tellsWithin_6 (by decide) (fun c_2 => ?_) (fun c_2 => ?_)
    · have fc_2 : n.toInt ≤ i_3.toInt := zf_le c_2 rfl rfl
      refine lv_iconst (v := 1) hx hb dX4_tellsWithin_31 (by decide) ?_
      exact W.zret (v := 1) hx hb hr (by decide) (fun t ht hW => ⟨1, rfl, ⟨by decide, by decide⟩, ht⟩) (fun q hq => by cases hq) dX4_tellsWithin_32
    · have fc_2 : i_3.toInt < n.toInt := zf_nle c_2 rfl rfl
      refine lv_aload_n hx hb dX4_tellsWithin_9 rfl (lv_at hl 1 rfl) ?_
      refine lv_iload hx hb dX4_tellsWithin_10 (lv_at hl 0 rfl) ?_
      refine zc_V (As := [.int i_3]) (rest := []) ⟨hx, hb, hml, hown, hts⟩ (c_Sh_tells l D cI cJ cZ cP cS po h0 e0 (he) (si) fe (i_3) hy0 hy1 hy2 hy3) (cwV 1 hts gX4_tellsWithin_X4_tells rfl rfl rfl ⟨rfl, dh_X4_tells⟩ ⟨Nat.le_of_ble_eq_true rfl, Nat.le_of_ble_eq_true rfl⟩) hK hN hZ hP (hP.sub [0, 1] rfl) (va_recv (q := (RX4, TX4, 3)) hK hP (ci := 4) (q0 := 0) rfl rfl) rfl hl.1 rfl (Nat.le_of_ble_eq_true rfl) dX4_tellsWithin_12 ⟨Nat.le_of_ble_eq_true rfl, Nat.le_of_ble_eq_true rfl⟩ (fun r_3 hr_3 => ?_)
      refine lv_iload_n hx hb dX4_tellsWithin_15 rfl (lv_at hl 3 rfl) ?_
      refine lv_iload_n hx hb dX4_tellsWithin_16 rfl (lv_at hl 4 rfl) ?_
      refine zc_SN (As := [.int r_3, .int lo, .int hi]) (rest := []) ⟨hx, hb, hml, hown, hts⟩ (c_within l D cI cJ cZ cP cS po (r_3) (lo) (hi) ) ⟨(va_cnB 3 hts gX4_tellsWithin_X7_within_n44 rfl rfl rfl (hN.1 (RX4, 44, yX7_within) (List.mem_of_getElem? (i := 12) rfl)) (hts _ (List.mem_of_getElem? (i := 13) rfl)) dh_X7_within ⟨Nat.le_of_ble_eq_true rfl, Nat.le_of_ble_eq_true rfl⟩), (hts _ (List.mem_of_getElem? (i := 12) rfl)), trivial⟩ hK hN hZ rfl hl.1 rfl (Nat.le_of_ble_eq_true rfl) dX4_tellsWithin_17 ⟨Nat.le_of_ble_eq_true rfl, Nat.le_of_ble_eq_true rfl⟩ (fun r_4 hr_4 => ?_)
      rcases hr_4 with ⟨rfl, g_5⟩ | ⟨rfl, g_6, g_7⟩ | ⟨rfl, g_8, g_9⟩
      · refine lv_if_ne (tgt := 25) hx hb dX4_tellsWithin_20 (by decide) (fun c_10 => ?_) (fun c_10 => ?_)
        · exact absurd c_10 (by decide)
        · refine lv_iconst (v := 0) hx hb dX4_tellsWithin_23 (by decide) ?_
          exact W.zret (v := 0) hx hb hr (by decide) (fun t ht hW => ⟨0, rfl, ⟨by decide, by decide⟩, ht⟩) (fun q hq => by cases hq) dX4_tellsWithin_24
      · refine lv_if_ne (tgt := 25) hx hb dX4_tellsWithin_20 (by decide) (fun c_11 => ?_) (fun c_11 => ?_)
        · exact absurd c_11 (by decide)
        · refine lv_iconst (v := 0) hx hb dX4_tellsWithin_23 (by decide) ?_
          exact W.zret (v := 0) hx hb hr (by decide) (fun t ht hW => ⟨0, rfl, ⟨by decide, by decide⟩, ht⟩) (fun q hq => by cases hq) dX4_tellsWithin_24
      · refine lv_if_ne (tgt := 25) hx hb dX4_tellsWithin_20 (by decide) (fun c_12 => ?_) (fun c_12 => ?_)
        · obtain ⟨x_13, ex_13⟩ : ∃ y : Int32, y = i_3 + 1 := ⟨_, rfl⟩
          have qx_13 : x_13.toInt = i_3.toInt + 1 := dw_inc ex_13 fc_2
          refine lv_iinc (v := x_13) (lv' := [(4, .int x_13), (0, .ref h0), (1, .int n), (2, .int lo), (3, .int hi)]) hx hb dX4_tellsWithin_25 hl (k := 0) rfl ex_13.symm (by decide) rfl (fun ls hl => ?_)
          refine lv_goto (tgt := 3) hx hb dX4_tellsWithin_28 (by decide) ?_
          exact ih x_13 _ (lv_sub hl [0, 1, 2, 3, 4] rfl) (dw_lo hloi_3 qx_13) (dw_hn hni_3 qx_13)
        · exact absurd c_12 (by decide)
theorem hi_X4_noBelief_4 : ∀ w ∈ u_ws RX4 TX4 3, w ∈ wsX4_noBelief := fun w h => (gl_X4_noBelief_X40 w h).1
theorem hi_X4_noTelling_4 : ∀ w ∈ u_ws RX4 TX4 3, w ∈ wsX4_noTelling := fun w h => (gl_X4_noTelling_X40 w h).1
set_option maxHeartbeats 4000000 in
set_option maxRecDepth 100000 in
theorem c_Sh_noTelling (l : Launch) (D : va_G) (cI cJ cZ cP cS : ClassId) (po : zPool) (h0 e0 : Nat) (he si : Int32) (n : Int32) (hy0 : (-1) ≤ he.toInt) (hy1 : he.toInt ≤ 103) (hy2 : 0 ≤ si.toInt) (hy3 : si.toInt ≤ 160) : Met l yX4_noTelling wsX4_noTelling ({ frames := 1, cells := 0, slots := 0, locals := 20 }) (va_Pc [.ref h0, .int n] (zR D (zKT cI cJ cZ cP cS) po [(h0, .inr (4, [.ref e0, .int he, .int si]))])) (vp_Si (fun r => (r = 2 ∧ he.toInt < 100 ∧ he.toInt ≠ (-1)) ∨ (r = 3 ∧ he.toInt < 100 ∧ he.toInt = (-1)) ∨ (r = 0 ∧ 100 ≤ he.toInt ∧ 0 ≤ n.toInt ∧ n.toInt ≤ si.toInt) ∨ (r = 5 ∧ 100 ≤ he.toInt ∧ 0 ≤ n.toInt ∧ si.toInt < n.toInt) ∨ (r = 4 ∧ 100 ≤ he.toInt ∧ n.toInt < 0))) 0 0 (fun _ => False) := by
  refine Met.ofW (cc := cX4_noTelling) (maxL := 3) (ret := (some .int)) (by decide) rfl ?_
  intro p e s m args below meth c s₁ B hml hv
  obtain ⟨rfl, hP, hK, hN, hZ⟩ := hv
  have hx := B.exec
  have hb := B.bytes
  have hr := B.returns
  have hts := atoms_spec (ws := wsX4_noTelling) B.pre
  have hown : s.vm.findClass RX4 = some m.cls := findClass_of_methodNamed B.named
  have hlocks := B.notSynchronized
  have hl := lv_entry ([.ref h0, .int n]) (n := 3) (Nat.le_of_ble_eq_true rfl)
  rw [lg_entry_eq]
  generalize (lg_sl ([.ref h0, .int n]) ++ List.replicate (3 - (lg_sl ([.ref h0, .int n])).length) Slot.unset).toArray = ls at hl ⊢
  replace hl : lv_has ls 3 [(0, .ref h0), (1, .int n)] := hl
  refine lv_aload_n hx hb dX4_noTelling_0 rfl (lv_at hl 0 rfl) ?_
  refine zc_V (As := []) (rest := []) ⟨hx, hb, hml, hown, hts⟩ (c_Sh_noRow l D cI cJ cZ cP cS po h0 e0 (he) (si) hy0 hy1 hy2 hy3) (cwV 0 hts gX4_noTelling_X4_noRow rfl rfl rfl ⟨rfl, dh_X4_noRow⟩ ⟨Nat.le_of_ble_eq_true rfl, Nat.le_of_ble_eq_true rfl⟩) hK hN hZ hP (hP.sub [0] rfl) (va_recv (q := (RX4, TX4, 3)) hK hP (ci := 4) (q0 := 0) rfl rfl) rfl hl.1 rfl (Nat.le_of_ble_eq_true rfl) dX4_noTelling_1 ⟨Nat.le_of_ble_eq_true rfl, Nat.le_of_ble_eq_true rfl⟩ (fun r_1 hr_1 => ?_)
  rcases hr_1 with ⟨rfl, g_2, g_3⟩ | ⟨rfl, g_4, g_5⟩ | ⟨rfl, g_6⟩
  · refine lv_istore_n (lv' := [(2, .int 2), (0, .ref h0), (1, .int n)]) hx hb dX4_noTelling_4 rfl hl (by decide) rfl (fun ls hl => ?_)
    refine lv_iload_n hx hb dX4_noTelling_5 rfl (lv_at hl 0 rfl) ?_
    refine lv_if_eq (tgt := 11) hx hb dX4_noTelling_6 (by decide) (fun c_7 => ?_) (fun c_7 => ?_)
    · exact absurd c_7 (by decide)
    · refine lv_iload_n hx hb dX4_noTelling_9 rfl (lv_at hl 0 rfl) ?_
      exact W.iret (v := 2) hx hb hr (fun t ht hW => ⟨2, rfl, Or.inl (⟨rfl, (by first | omega | decide), (by first | omega | decide)⟩), ht⟩) (fun q hq => by cases hq) dX4_noTelling_10
  · refine lv_istore_n (lv' := [(2, .int 3), (0, .ref h0), (1, .int n)]) hx hb dX4_noTelling_4 rfl hl (by decide) rfl (fun ls hl => ?_)
    refine lv_iload_n hx hb dX4_noTelling_5 rfl (lv_at hl 0 rfl) ?_
    refine lv_if_eq (tgt := 11) hx hb dX4_noTelling_6 (by decide) (fun c_8 => ?_) (fun c_8 => ?_)
    · exact absurd c_8 (by decide)
    · refine lv_iload_n hx hb dX4_noTelling_9 rfl (lv_at hl 0 rfl) ?_
      exact W.iret (v := 3) hx hb hr (fun t ht hW => ⟨3, rfl, Or.inr (Or.inl (⟨rfl, (by first | omega | decide), (by first | omega | decide)⟩)), ht⟩) (fun q hq => by cases hq) dX4_noTelling_10
  · refine lv_istore_n (lv' := [(2, .int 0), (0, .ref h0), (1, .int n)]) hx hb dX4_noTelling_4 rfl hl (by decide) rfl (fun ls hl => ?_)
    refine lv_iload_n hx hb dX4_noTelling_5 rfl (lv_at hl 0 rfl) ?_
    refine lv_if_eq (tgt := 11) hx hb dX4_noTelling_6 (by decide) (fun c_9 => ?_) (fun c_9 => ?_)
    · refine lv_iload_n hx hb dX4_noTelling_11 rfl (lv_at hl 2 rfl) ?_
      refine lv_if_ge (tgt := 17) hx hb dX4_noTelling_12 (by decide) (fun c_10 => ?_) (fun c_10 => ?_)
      · have fc_10 : 0 ≤ n.toInt := zf_le c_10 (by decide) rfl
        refine lv_iload_n hx hb dX4_noTelling_17 rfl (lv_at hl 2 rfl) ?_
        refine lv_aload_n hx hb dX4_noTelling_18 rfl (lv_at hl 1 rfl) ?_
        refine va_get (D := D) (ci := 4) (v := .int si) (C := RX4) (T := TX4) (N := 3) hx hb hts hi_X4_noTelling_4 hown hK hP 0 rfl rfl 2 (by decide) (hts (.fieldLink RX4 19 "TheLiningsInIt$Shelf" "size" "I") (List.mem_of_getElem? (i := 1) rfl)) (fun _ h9 => h9) rfl dX4_noTelling_19 ?_
        refine lv_icmp_le (tgt := 29) hx hb dX4_noTelling_22 (by decide) (fun c_11 => ?_) (fun c_11 => ?_)
        · have fc_11 : n.toInt ≤ si.toInt := zf_le c_11 rfl rfl
          refine lv_iconst (v := 0) hx hb dX4_noTelling_29 (by decide) ?_
          exact W.iret (v := 0) hx hb hr (fun t ht hW => ⟨0, rfl, Or.inr (Or.inr (Or.inl (⟨rfl, (by first | omega | decide), (by first | omega | decide), (by first | omega | decide)⟩))), ht⟩) (fun q hq => by cases hq) dX4_noTelling_30
        · have fc_11 : si.toInt < n.toInt := zf_nle c_11 rfl rfl
          refine lv_iconst (v := 5) hx hb dX4_noTelling_25 (by decide) ?_
          refine lv_goto (tgt := 30) hx hb dX4_noTelling_26 (by decide) ?_
          exact W.iret (v := 5) hx hb hr (fun t ht hW => ⟨5, rfl, Or.inr (Or.inr (Or.inr (Or.inl (⟨rfl, (by first | omega | decide), (by first | omega | decide), (by first | omega | decide)⟩)))), ht⟩) (fun q hq => by cases hq) dX4_noTelling_30
      · have fc_10 : n.toInt < 0 := zf_nle c_10 (by decide) rfl
        refine lv_iconst (v := 4) hx hb dX4_noTelling_15 (by decide) ?_
        exact W.iret (v := 4) hx hb hr (fun t ht hW => ⟨4, rfl, Or.inr (Or.inr (Or.inr (Or.inr (⟨rfl, (by first | omega | decide), (by first | omega | decide)⟩)))), ht⟩) (fun q hq => by cases hq) dX4_noTelling_16
    · exact absurd c_9 (by decide)
end
section
def wsX0_leastOf : List Cond := (.code yX0_leastOf cX0_leastOf 1 (some .int)) :: []
def wsX0_mostOf : List Cond := (.code yX0_mostOf cX0_mostOf 2 (some .int)) :: (.fieldLink RX0 12 "TheLiningsInIt$Jacket" "zip" "LTheLiningsInIt$Zip;") :: (.fieldLink RX0 57 "TheLiningsInIt$Zip" "size" "I") :: (wsX00 ++ wsX60)
def wsX0_number : List Cond := (.code yX0_number cX0_number 2 (some .int)) :: (.fieldLink RX0 32 "TheLiningsInIt$Jacket" "depth" "I") :: (.fieldLink RX0 38 "TheLiningsInIt$Jacket" "seconds" "I") :: (.fieldLink RX0 41 "TheLiningsInIt$Jacket" "hurry" "I") :: (.fieldLink RX0 12 "TheLiningsInIt$Jacket" "zip" "LTheLiningsInIt$Zip;") :: (.fieldLink RX0 60 "TheLiningsInIt$Zip" "gap" "I") :: (.fieldLink RX0 63 "TheLiningsInIt$Zip" "at" "I") :: (.fieldLink RX0 24 "TheLiningsInIt$Jacket" "costs" "[I") :: (.static yX7_within) :: (.initialized RX7) :: (.code yX7_within cX7_within 3 (some .boolean)) :: (wsX00 ++ wsX60)
def wsX0_pullAt : List Cond := (.code yX0_pullAt cX0_pullAt 2 (some (.object "TheLiningsInIt$Pull"))) :: (.fieldLink RX0 28 "TheLiningsInIt$Jacket" "pullCount" "I") :: (.fieldLink RX0 20 "TheLiningsInIt$Jacket" "pulls" "[LTheLiningsInIt$Pull;") :: (.static yX7_within) :: (.initialized RX7) :: (.code yX7_within cX7_within 3 (some .boolean)) :: wsX00
def wsX0_mayBe : List Cond := (.code yX0_mayBe cX0_mayBe 2 (some .boolean)) :: (.fieldLink RX0 32 "TheLiningsInIt$Jacket" "depth" "I") :: (.fieldLink RX0 38 "TheLiningsInIt$Jacket" "seconds" "I") :: (.methodLink RX0 73 yX2_mayBe) :: (.instanceMethod yX2_mayBe) :: (.selects RX2 yX2_mayBe yX2_mayBe) :: (.initialized RX2) :: (.code yX2_mayBe cX2_mayBe 3 (some .boolean)) :: (.fieldLink RX2 18 "TheLiningsInIt$Pull" "takes" "I") :: (wsX00 ++ wsX20)
def wsX0_pullsMaking_r1 : List Cond := (Cond.fieldLink RX0 28 "TheLiningsInIt$Jacket" "pullCount" "I") :: (Cond.fieldLink RX0 41 "TheLiningsInIt$Jacket" "hurry" "I") :: (Cond.methodLink RX0 77 yX0_pullAt) :: (Cond.instanceMethod yX0_pullAt) :: (Cond.selects RX0 yX0_pullAt yX0_pullAt) :: (Cond.initialized RX0) :: (Cond.code yX0_pullAt cX0_pullAt 2 (some (.object "TheLiningsInIt$Pull"))) :: (Cond.fieldLink RX0 20 "TheLiningsInIt$Jacket" "pulls" "[LTheLiningsInIt$Pull;") :: (Cond.static yX7_within) :: (Cond.initialized RX7) :: (Cond.code yX7_within cX7_within 3 (some .boolean)) :: (Cond.methodLink RX0 81 yX2_makes) :: (Cond.instanceMethod yX2_makes) :: (Cond.selects RX2 yX2_makes yX2_makes) :: (Cond.initialized RX2) :: (Cond.code yX2_makes cX2_makes 5 (some .boolean)) :: (Cond.methodLink RX2 46 yX2_waysAt) :: (Cond.instanceMethod yX2_waysAt) :: (Cond.selects RX2 yX2_waysAt yX2_waysAt) :: (Cond.code yX2_waysAt cX2_waysAt 3 (some .int)) :: (Cond.fieldLink RX2 9 "TheLiningsInIt$Pull" "kind" "I") :: (Cond.methodLink RX2 33 Lib.Math.min.name) :: (Cond.static Lib.Math.min.name) :: (Cond.initialized "java/lang/Math") :: []
def wsX0_pullsMaking_r2 : List Cond := (Cond.code Lib.Math.min.name Lib.Math.min.code 2 (some .int)) :: (Cond.methodLink RX2 39 Lib.Math.max.name) :: (Cond.static Lib.Math.max.name) :: (Cond.code Lib.Math.max.name Lib.Math.max.code 2 (some .int)) :: (Cond.methodLink RX2 29 yX2_calmWaysAt) :: (Cond.instanceMethod yX2_calmWaysAt) :: (Cond.selects RX2 yX2_calmWaysAt yX2_calmWaysAt) :: (Cond.code yX2_calmWaysAt cX2_calmWaysAt 2 (some .int)) :: (Cond.fieldLink RX2 15 "TheLiningsInIt$Pull" "a" "I") :: (Cond.methodLink RX2 49 yX2_shallower) :: (Cond.instanceMethod yX2_shallower) :: (Cond.selects RX2 yX2_shallower yX2_shallower) :: (Cond.code yX2_shallower cX2_shallower 2 (some .int)) :: (Cond.methodLink RX2 42 yX2_step) :: (Cond.instanceMethod yX2_step) :: (Cond.selects RX2 yX2_step yX2_step) :: (Cond.code yX2_step cX2_step 1 (some .int)) :: (Cond.methodLink RX2 52 yX2_deeper) :: (Cond.instanceMethod yX2_deeper) :: (Cond.selects RX2 yX2_deeper yX2_deeper) :: (Cond.code yX2_deeper cX2_deeper 4 (some .int)) :: []
def wsX0_pullsMaking : List Cond := (.code yX0_pullsMaking cX0_pullsMaking 6 (some .int)) :: ((wsX0_pullsMaking_r1 ++ wsX0_pullsMaking_r2) ++ wsX00 ++ wsX20)
def wsX0_firstMaking_r1 : List Cond := (Cond.fieldLink RX0 28 "TheLiningsInIt$Jacket" "pullCount" "I") :: (Cond.fieldLink RX0 41 "TheLiningsInIt$Jacket" "hurry" "I") :: (Cond.methodLink RX0 77 yX0_pullAt) :: (Cond.instanceMethod yX0_pullAt) :: (Cond.selects RX0 yX0_pullAt yX0_pullAt) :: (Cond.initialized RX0) :: (Cond.code yX0_pullAt cX0_pullAt 2 (some (.object "TheLiningsInIt$Pull"))) :: (Cond.fieldLink RX0 20 "TheLiningsInIt$Jacket" "pulls" "[LTheLiningsInIt$Pull;") :: (Cond.static yX7_within) :: (Cond.initialized RX7) :: (Cond.code yX7_within cX7_within 3 (some .boolean)) :: (Cond.methodLink RX0 81 yX2_makes) :: (Cond.instanceMethod yX2_makes) :: (Cond.selects RX2 yX2_makes yX2_makes) :: (Cond.initialized RX2) :: (Cond.code yX2_makes cX2_makes 5 (some .boolean)) :: (Cond.methodLink RX2 46 yX2_waysAt) :: (Cond.instanceMethod yX2_waysAt) :: (Cond.selects RX2 yX2_waysAt yX2_waysAt) :: (Cond.code yX2_waysAt cX2_waysAt 3 (some .int)) :: (Cond.fieldLink RX2 9 "TheLiningsInIt$Pull" "kind" "I") :: (Cond.methodLink RX2 33 Lib.Math.min.name) :: (Cond.static Lib.Math.min.name) :: (Cond.initialized "java/lang/Math") :: []
def wsX0_firstMaking_r2 : List Cond := (Cond.code Lib.Math.min.name Lib.Math.min.code 2 (some .int)) :: (Cond.methodLink RX2 39 Lib.Math.max.name) :: (Cond.static Lib.Math.max.name) :: (Cond.code Lib.Math.max.name Lib.Math.max.code 2 (some .int)) :: (Cond.methodLink RX2 29 yX2_calmWaysAt) :: (Cond.instanceMethod yX2_calmWaysAt) :: (Cond.selects RX2 yX2_calmWaysAt yX2_calmWaysAt) :: (Cond.code yX2_calmWaysAt cX2_calmWaysAt 2 (some .int)) :: (Cond.fieldLink RX2 15 "TheLiningsInIt$Pull" "a" "I") :: (Cond.methodLink RX2 49 yX2_shallower) :: (Cond.instanceMethod yX2_shallower) :: (Cond.selects RX2 yX2_shallower yX2_shallower) :: (Cond.code yX2_shallower cX2_shallower 2 (some .int)) :: (Cond.methodLink RX2 42 yX2_step) :: (Cond.instanceMethod yX2_step) :: (Cond.selects RX2 yX2_step yX2_step) :: (Cond.code yX2_step cX2_step 1 (some .int)) :: (Cond.methodLink RX2 52 yX2_deeper) :: (Cond.instanceMethod yX2_deeper) :: (Cond.selects RX2 yX2_deeper yX2_deeper) :: (Cond.code yX2_deeper cX2_deeper 4 (some .int)) :: []
def wsX0_firstMaking : List Cond := (.code yX0_firstMaking cX0_firstMaking 5 (some .int)) :: ((wsX0_firstMaking_r1 ++ wsX0_firstMaking_r2) ++ wsX00 ++ wsX20)
def wsJ7_fill_d0a16 : List Cond := (.code yJ7_fill_d0a16 cJ7_fill_d0a16 5 none) :: []
def wsX4_holdRow : List Cond := (.code yX4_holdRow cX4_holdRow 3 none) :: (.fieldLink RX4 15 "TheLiningsInIt$Shelf" "held" "I") :: (.fieldLink RX4 19 "TheLiningsInIt$Shelf" "size" "I") :: (.fieldLink RX4 9 "TheLiningsInIt$Shelf" "elements" "[J") :: (.methodLink RX4 22 yJ7_fill_d0a16) :: (.static yJ7_fill_d0a16) :: (.initialized RJ7) :: (.code yJ7_fill_d0a16 cJ7_fill_d0a16 5 none) :: wsX40
def wsX4_forgetFrom : List Cond := (.code yX4_forgetFrom cX4_forgetFrom 2 none) :: (.fieldLink RX4 15 "TheLiningsInIt$Shelf" "held" "I") :: wsX40
def wsX4_put : List Cond := (.code yX4_put cX4_put 4 none) :: (.fieldLink RX4 15 "TheLiningsInIt$Shelf" "held" "I") :: (.fieldLink RX4 9 "TheLiningsInIt$Shelf" "elements" "[J") :: wsX40
theorem dX0_leastOf_0 : decode cX0_leastOf 0 = .ok (.iload_n 0, 1) := dq_26 dp_cX0_leastOf rfl
theorem dX0_leastOf_1 : decode cX0_leastOf 1 = .ok (.iconst 3, 1) := dq_6 dp_cX0_leastOf rfl
theorem dX0_leastOf_2 : decode cX0_leastOf 2 = .ok (.if_icmp .ne 7, 3) := dq_160 (v := 7) dp_cX0_leastOf rfl rfl
theorem dX0_leastOf_5 : decode cX0_leastOf 5 = .ok (.iconst 1, 1) := dq_4 dp_cX0_leastOf rfl
theorem dX0_leastOf_6 : decode cX0_leastOf 6 = .ok (.goto 4, 3) := dq_167 (v := 4) dp_cX0_leastOf rfl rfl
theorem dX0_leastOf_9 : decode cX0_leastOf 9 = .ok (.iconst 0, 1) := dq_3 dp_cX0_leastOf rfl
theorem dX0_leastOf_10 : decode cX0_leastOf 10 = .ok (.ireturn, 1) := dq_172 dp_cX0_leastOf rfl
theorem dX0_mostOf_0 : decode cX0_mostOf 0 = .ok (.iload_n 1, 1) := dq_27 dp_cX0_mostOf rfl
theorem dX0_mostOf_1 : decode cX0_mostOf 1 = .ok (.tableswitch 68 0 7 #[47, 50, 54, 57, 68, 68, 68, 60], 47) := by decide +kernel
theorem dX0_mostOf_48 : decode cX0_mostOf 48 = .ok (.bipush 24, 2) := dq_16 (v := 24) dp_cX0_mostOf rfl rfl
theorem dX0_mostOf_50 : decode cX0_mostOf 50 = .ok (.ireturn, 1) := dq_172 dp_cX0_mostOf rfl
theorem dX0_mostOf_51 : decode cX0_mostOf 51 = .ok (.sipush 300, 3) := dq_17 (v := 300) dp_cX0_mostOf rfl rfl
theorem dX0_mostOf_54 : decode cX0_mostOf 54 = .ok (.ireturn, 1) := dq_172 dp_cX0_mostOf rfl
theorem dX0_mostOf_55 : decode cX0_mostOf 55 = .ok (.bipush 9, 2) := dq_16 (v := 9) dp_cX0_mostOf rfl rfl
theorem dX0_mostOf_57 : decode cX0_mostOf 57 = .ok (.ireturn, 1) := dq_172 dp_cX0_mostOf rfl
theorem dX0_mostOf_58 : decode cX0_mostOf 58 = .ok (.bipush 9, 2) := dq_16 (v := 9) dp_cX0_mostOf rfl rfl
theorem dX0_mostOf_60 : decode cX0_mostOf 60 = .ok (.ireturn, 1) := dq_172 dp_cX0_mostOf rfl
theorem dX0_mostOf_61 : decode cX0_mostOf 61 = .ok (.aload_n 0, 1) := dq_42 dp_cX0_mostOf rfl
theorem dX0_mostOf_62 : decode cX0_mostOf 62 = .ok (.getfield 12, 3) := dq_180 dp_cX0_mostOf rfl
theorem dX0_mostOf_65 : decode cX0_mostOf 65 = .ok (.getfield 57, 3) := dq_180 dp_cX0_mostOf rfl
theorem dX0_mostOf_68 : decode cX0_mostOf 68 = .ok (.ireturn, 1) := dq_172 dp_cX0_mostOf rfl
theorem dX0_mostOf_69 : decode cX0_mostOf 69 = .ok (.bipush 99, 2) := dq_16 (v := 99) dp_cX0_mostOf rfl rfl
theorem dX0_mostOf_71 : decode cX0_mostOf 71 = .ok (.ireturn, 1) := dq_172 dp_cX0_mostOf rfl
set_option maxRecDepth 20000 in
theorem ggX0_number_X7_within : GoodIn wsX0_number wsX7_within := (dg_c 10 rfl rfl dg_0)
set_option maxRecDepth 20000 in
theorem gX0_number_X7_within_n66 : GoodIn wsX0_number (wsX7_within) := ggX0_number_X7_within
theorem dX0_number_0 : decode cX0_number 0 = .ok (.iload_n 1, 1) := dq_27 dp_cX0_number rfl
theorem dX0_number_1 : decode cX0_number 1 = .ok (.tableswitch 78 0 7 #[47, 52, 57, 62, 78, 78, 78, 70], 47) := by decide +kernel
theorem dX0_number_48 : decode cX0_number 48 = .ok (.aload_n 0, 1) := dq_42 dp_cX0_number rfl
theorem dX0_number_49 : decode cX0_number 49 = .ok (.getfield 32, 3) := dq_180 dp_cX0_number rfl
theorem dX0_number_52 : decode cX0_number 52 = .ok (.ireturn, 1) := dq_172 dp_cX0_number rfl
theorem dX0_number_53 : decode cX0_number 53 = .ok (.aload_n 0, 1) := dq_42 dp_cX0_number rfl
theorem dX0_number_54 : decode cX0_number 54 = .ok (.getfield 38, 3) := dq_180 dp_cX0_number rfl
theorem dX0_number_57 : decode cX0_number 57 = .ok (.ireturn, 1) := dq_172 dp_cX0_number rfl
theorem dX0_number_58 : decode cX0_number 58 = .ok (.aload_n 0, 1) := dq_42 dp_cX0_number rfl
theorem dX0_number_59 : decode cX0_number 59 = .ok (.getfield 41, 3) := dq_180 dp_cX0_number rfl
theorem dX0_number_62 : decode cX0_number 62 = .ok (.ireturn, 1) := dq_172 dp_cX0_number rfl
theorem dX0_number_63 : decode cX0_number 63 = .ok (.aload_n 0, 1) := dq_42 dp_cX0_number rfl
theorem dX0_number_64 : decode cX0_number 64 = .ok (.getfield 12, 3) := dq_180 dp_cX0_number rfl
theorem dX0_number_67 : decode cX0_number 67 = .ok (.getfield 60, 3) := dq_180 dp_cX0_number rfl
theorem dX0_number_70 : decode cX0_number 70 = .ok (.ireturn, 1) := dq_172 dp_cX0_number rfl
theorem dX0_number_71 : decode cX0_number 71 = .ok (.aload_n 0, 1) := dq_42 dp_cX0_number rfl
theorem dX0_number_72 : decode cX0_number 72 = .ok (.getfield 12, 3) := dq_180 dp_cX0_number rfl
theorem dX0_number_75 : decode cX0_number 75 = .ok (.getfield 63, 3) := dq_180 dp_cX0_number rfl
theorem dX0_number_78 : decode cX0_number 78 = .ok (.ireturn, 1) := dq_172 dp_cX0_number rfl
theorem dX0_number_79 : decode cX0_number 79 = .ok (.iload_n 1, 1) := dq_27 dp_cX0_number rfl
theorem dX0_number_80 : decode cX0_number 80 = .ok (.iconst 4, 1) := dq_7 dp_cX0_number rfl
theorem dX0_number_81 : decode cX0_number 81 = .ok (.isub, 1) := dq_100 dp_cX0_number rfl
theorem dX0_number_82 : decode cX0_number 82 = .ok (.iconst 0, 1) := dq_3 dp_cX0_number rfl
theorem dX0_number_83 : decode cX0_number 83 = .ok (.iconst 2, 1) := dq_5 dp_cX0_number rfl
theorem dX0_number_84 : decode cX0_number 84 = .ok (.invokestatic 66, 3) := dq_184 dp_cX0_number rfl
theorem dX0_number_87 : decode cX0_number 87 = .ok (.ifCond .eq 14, 3) := dq_153 (v := 14) dp_cX0_number rfl rfl
theorem dX0_number_90 : decode cX0_number 90 = .ok (.aload_n 0, 1) := dq_42 dp_cX0_number rfl
theorem dX0_number_91 : decode cX0_number 91 = .ok (.getfield 24, 3) := dq_180 dp_cX0_number rfl
theorem dX0_number_94 : decode cX0_number 94 = .ok (.iload_n 1, 1) := dq_27 dp_cX0_number rfl
theorem dX0_number_95 : decode cX0_number 95 = .ok (.iconst 4, 1) := dq_7 dp_cX0_number rfl
theorem dX0_number_96 : decode cX0_number 96 = .ok (.isub, 1) := dq_100 dp_cX0_number rfl
theorem dX0_number_97 : decode cX0_number 97 = .ok (.iaload, 1) := dq_46 dp_cX0_number rfl
theorem dX0_number_98 : decode cX0_number 98 = .ok (.goto 4, 3) := dq_167 (v := 4) dp_cX0_number rfl rfl
theorem dX0_number_102 : decode cX0_number 102 = .ok (.ireturn, 1) := dq_172 dp_cX0_number rfl
set_option maxRecDepth 20000 in
theorem ggX0_pullAt_X7_within : GoodIn wsX0_pullAt wsX7_within := (dg_c 5 rfl rfl dg_0)
set_option maxRecDepth 20000 in
theorem gX0_pullAt_X7_within_n66 : GoodIn wsX0_pullAt (wsX7_within) := ggX0_pullAt_X7_within
theorem dX0_pullAt_0 : decode cX0_pullAt 0 = .ok (.iload_n 1, 1) := dq_27 dp_cX0_pullAt rfl
theorem dX0_pullAt_1 : decode cX0_pullAt 1 = .ok (.iconst 0, 1) := dq_3 dp_cX0_pullAt rfl
theorem dX0_pullAt_2 : decode cX0_pullAt 2 = .ok (.aload_n 0, 1) := dq_42 dp_cX0_pullAt rfl
theorem dX0_pullAt_3 : decode cX0_pullAt 3 = .ok (.getfield 28, 3) := dq_180 dp_cX0_pullAt rfl
theorem dX0_pullAt_6 : decode cX0_pullAt 6 = .ok (.iconst 1, 1) := dq_4 dp_cX0_pullAt rfl
theorem dX0_pullAt_7 : decode cX0_pullAt 7 = .ok (.isub, 1) := dq_100 dp_cX0_pullAt rfl
theorem dX0_pullAt_8 : decode cX0_pullAt 8 = .ok (.invokestatic 66, 3) := dq_184 dp_cX0_pullAt rfl
theorem dX0_pullAt_11 : decode cX0_pullAt 11 = .ok (.ifCond .eq 18, 3) := dq_153 (v := 18) dp_cX0_pullAt rfl rfl
theorem dX0_pullAt_14 : decode cX0_pullAt 14 = .ok (.iload_n 1, 1) := dq_27 dp_cX0_pullAt rfl
theorem dX0_pullAt_15 : decode cX0_pullAt 15 = .ok (.bipush 8, 2) := dq_16 (v := 8) dp_cX0_pullAt rfl rfl
theorem dX0_pullAt_17 : decode cX0_pullAt 17 = .ok (.if_icmp .ge 12, 3) := dq_162 (v := 12) dp_cX0_pullAt rfl rfl
theorem dX0_pullAt_20 : decode cX0_pullAt 20 = .ok (.aload_n 0, 1) := dq_42 dp_cX0_pullAt rfl
theorem dX0_pullAt_21 : decode cX0_pullAt 21 = .ok (.getfield 20, 3) := dq_180 dp_cX0_pullAt rfl
theorem dX0_pullAt_24 : decode cX0_pullAt 24 = .ok (.iload_n 1, 1) := dq_27 dp_cX0_pullAt rfl
theorem dX0_pullAt_25 : decode cX0_pullAt 25 = .ok (.aaload, 1) := dq_50 dp_cX0_pullAt rfl
theorem dX0_pullAt_26 : decode cX0_pullAt 26 = .ok (.goto 4, 3) := dq_167 (v := 4) dp_cX0_pullAt rfl rfl
theorem dX0_pullAt_29 : decode cX0_pullAt 29 = .ok (.aconst_null, 1) := dq_1 dp_cX0_pullAt rfl
theorem dX0_pullAt_30 : decode cX0_pullAt 30 = .ok (.areturn, 1) := dq_176 dp_cX0_pullAt rfl
set_option maxRecDepth 20000 in
theorem gl_X0_mayBe_X20 : GoodIn wsX0_mayBe wsX20 := (dg_t (dg_t (dg_t (dg_t (dg_t (dg_t (dg_t (dg_t (dg_t (dg_r gw_wsX20))))))))))
theorem ggX0_mayBe_X2_mayBe : GoodIn wsX0_mayBe wsX2_mayBe := (dg_c 7 rfl rfl (dg_c 8 rfl rfl gl_X0_mayBe_X20))
set_option maxRecDepth 20000 in
theorem gX0_mayBe_X2_mayBe : GoodIn wsX0_mayBe (wsV RX0 73 RX2 yX2_mayBe wsX2_mayBe) := goodIn_app (dg_c 3 rfl rfl (dg_c 4 rfl rfl (dg_c 5 rfl rfl (dg_c 6 rfl rfl dg_0)))) ggX0_mayBe_X2_mayBe
theorem dX0_mayBe_0 : decode cX0_mayBe 0 = .ok (.aload_n 1, 1) := dq_43 dp_cX0_mayBe rfl
theorem dX0_mayBe_1 : decode cX0_mayBe 1 = .ok (.aload_n 0, 1) := dq_42 dp_cX0_mayBe rfl
theorem dX0_mayBe_2 : decode cX0_mayBe 2 = .ok (.getfield 32, 3) := dq_180 dp_cX0_mayBe rfl
theorem dX0_mayBe_5 : decode cX0_mayBe 5 = .ok (.aload_n 0, 1) := dq_42 dp_cX0_mayBe rfl
theorem dX0_mayBe_6 : decode cX0_mayBe 6 = .ok (.getfield 38, 3) := dq_180 dp_cX0_mayBe rfl
theorem dX0_mayBe_9 : decode cX0_mayBe 9 = .ok (.invokevirtual 73, 3) := dq_182 dp_cX0_mayBe rfl
theorem dX0_mayBe_12 : decode cX0_mayBe 12 = .ok (.ireturn, 1) := dq_172 dp_cX0_mayBe rfl
set_option maxRecDepth 20000 in
theorem gl_X0_pullsMaking_X00 : GoodIn wsX0_pullsMaking wsX00 := (dg_t (dg_l (dg_r gw_wsX00)))
theorem ggX0_pullsMaking_X0_pullAt : GoodIn wsX0_pullsMaking wsX0_pullAt := (dg_c 7 rfl rfl (dg_c 1 rfl rfl (dg_c 8 rfl rfl (dg_c 9 rfl rfl (dg_c 10 rfl rfl (dg_c 11 rfl rfl gl_X0_pullsMaking_X00))))))
set_option maxRecDepth 20000 in
theorem gX0_pullsMaking_X0_pullAt : GoodIn wsX0_pullsMaking (wsV RX0 77 RX0 yX0_pullAt wsX0_pullAt) := goodIn_app (dg_c 3 rfl rfl (dg_c 4 rfl rfl (dg_c 5 rfl rfl (dg_c 6 rfl rfl dg_0)))) ggX0_pullsMaking_X0_pullAt
set_option maxRecDepth 20000 in
theorem gl_X0_pullsMaking_X20 : GoodIn wsX0_pullsMaking wsX20 := (dg_t (dg_r gw_wsX20))
theorem ggX0_pullsMaking_X2_makes : GoodIn wsX0_pullsMaking wsX2_makes := (dg_c 16 rfl rfl (goodIn_app (goodIn_app (dg_c 17 rfl rfl (dg_c 18 rfl rfl (dg_c 19 rfl rfl (dg_c 15 rfl rfl (dg_c 20 rfl rfl (dg_c 21 rfl rfl (dg_c 22 rfl rfl (dg_c 23 rfl rfl (dg_c 24 rfl rfl (dg_c 25 rfl rfl (dg_c 26 rfl rfl (dg_c 27 rfl rfl (dg_c 28 rfl rfl (dg_c 29 rfl rfl (dg_c 30 rfl rfl (dg_c 31 rfl rfl (dg_c 32 rfl rfl (dg_c 33 rfl rfl (dg_c 34 rfl rfl (dg_c 35 rfl rfl (dg_c 36 rfl rfl (dg_c 37 rfl rfl (dg_c 38 rfl rfl (dg_c 39 rfl rfl dg_0)))))))))))))))))))))))) (dg_c 40 rfl rfl (dg_c 41 rfl rfl (dg_c 42 rfl rfl (dg_c 43 rfl rfl (dg_c 44 rfl rfl (dg_c 45 rfl rfl dg_0))))))) gl_X0_pullsMaking_X20))
set_option maxRecDepth 20000 in
theorem gX0_pullsMaking_X2_makes : GoodIn wsX0_pullsMaking (wsV RX0 81 RX2 yX2_makes wsX2_makes) := goodIn_app (dg_c 12 rfl rfl (dg_c 13 rfl rfl (dg_c 14 rfl rfl (dg_c 15 rfl rfl dg_0)))) ggX0_pullsMaking_X2_makes
theorem dX0_pullsMaking_0 : decode cX0_pullsMaking 0 = .ok (.iconst 0, 1) := dq_3 dp_cX0_pullsMaking rfl
theorem dX0_pullsMaking_1 : decode cX0_pullsMaking 1 = .ok (.istore_n 3, 1) := dq_62 dp_cX0_pullsMaking rfl
theorem dX0_pullsMaking_2 : decode cX0_pullsMaking 2 = .ok (.iconst 0, 1) := dq_3 dp_cX0_pullsMaking rfl
theorem dX0_pullsMaking_3 : decode cX0_pullsMaking 3 = .ok (.istore 4, 2) := dq_54 dp_cX0_pullsMaking rfl
theorem dX0_pullsMaking_5 : decode cX0_pullsMaking 5 = .ok (.iload 4, 2) := dq_21 dp_cX0_pullsMaking rfl
theorem dX0_pullsMaking_7 : decode cX0_pullsMaking 7 = .ok (.aload_n 0, 1) := dq_42 dp_cX0_pullsMaking rfl
theorem dX0_pullsMaking_8 : decode cX0_pullsMaking 8 = .ok (.getfield 28, 3) := dq_180 dp_cX0_pullsMaking rfl
theorem dX0_pullsMaking_11 : decode cX0_pullsMaking 11 = .ok (.if_icmp .ge 39, 3) := dq_162 (v := 39) dp_cX0_pullsMaking rfl rfl
theorem dX0_pullsMaking_14 : decode cX0_pullsMaking 14 = .ok (.aload_n 0, 1) := dq_42 dp_cX0_pullsMaking rfl
theorem dX0_pullsMaking_15 : decode cX0_pullsMaking 15 = .ok (.iload 4, 2) := dq_21 dp_cX0_pullsMaking rfl
theorem dX0_pullsMaking_17 : decode cX0_pullsMaking 17 = .ok (.invokevirtual 77, 3) := dq_182 dp_cX0_pullsMaking rfl
theorem dX0_pullsMaking_20 : decode cX0_pullsMaking 20 = .ok (.astore 5, 2) := dq_58 dp_cX0_pullsMaking rfl
theorem dX0_pullsMaking_22 : decode cX0_pullsMaking 22 = .ok (.aload 5, 2) := dq_25 dp_cX0_pullsMaking rfl
theorem dX0_pullsMaking_24 : decode cX0_pullsMaking 24 = .ok (.ifnull 20, 3) := dq_198 (v := 20) dp_cX0_pullsMaking rfl rfl
theorem dX0_pullsMaking_27 : decode cX0_pullsMaking 27 = .ok (.aload 5, 2) := dq_25 dp_cX0_pullsMaking rfl
theorem dX0_pullsMaking_29 : decode cX0_pullsMaking 29 = .ok (.iload_n 1, 1) := dq_27 dp_cX0_pullsMaking rfl
theorem dX0_pullsMaking_30 : decode cX0_pullsMaking 30 = .ok (.iload_n 2, 1) := dq_28 dp_cX0_pullsMaking rfl
theorem dX0_pullsMaking_31 : decode cX0_pullsMaking 31 = .ok (.aload_n 0, 1) := dq_42 dp_cX0_pullsMaking rfl
theorem dX0_pullsMaking_32 : decode cX0_pullsMaking 32 = .ok (.getfield 41, 3) := dq_180 dp_cX0_pullsMaking rfl
theorem dX0_pullsMaking_35 : decode cX0_pullsMaking 35 = .ok (.invokevirtual 81, 3) := dq_182 dp_cX0_pullsMaking rfl
theorem dX0_pullsMaking_38 : decode cX0_pullsMaking 38 = .ok (.ifCond .eq 6, 3) := dq_153 (v := 6) dp_cX0_pullsMaking rfl rfl
theorem dX0_pullsMaking_41 : decode cX0_pullsMaking 41 = .ok (.iinc 3 1, 3) := dq_132 (v := 1) dp_cX0_pullsMaking rfl (by decide) rfl
theorem dX0_pullsMaking_44 : decode cX0_pullsMaking 44 = .ok (.iinc 4 1, 3) := dq_132 (v := 1) dp_cX0_pullsMaking rfl (by decide) rfl
theorem dX0_pullsMaking_47 : decode cX0_pullsMaking 47 = .ok (.goto (-42), 3) := dq_167 (v := 65494) dp_cX0_pullsMaking rfl rfl
theorem dX0_pullsMaking_50 : decode cX0_pullsMaking 50 = .ok (.iload_n 3, 1) := dq_29 dp_cX0_pullsMaking rfl
theorem dX0_pullsMaking_51 : decode cX0_pullsMaking 51 = .ok (.ireturn, 1) := dq_172 dp_cX0_pullsMaking rfl
set_option maxRecDepth 20000 in
theorem gl_X0_firstMaking_X00 : GoodIn wsX0_firstMaking wsX00 := (dg_t (dg_l (dg_r gw_wsX00)))
theorem ggX0_firstMaking_X0_pullAt : GoodIn wsX0_firstMaking wsX0_pullAt := (dg_c 7 rfl rfl (dg_c 1 rfl rfl (dg_c 8 rfl rfl (dg_c 9 rfl rfl (dg_c 10 rfl rfl (dg_c 11 rfl rfl gl_X0_firstMaking_X00))))))
set_option maxRecDepth 20000 in
theorem gX0_firstMaking_X0_pullAt : GoodIn wsX0_firstMaking (wsV RX0 77 RX0 yX0_pullAt wsX0_pullAt) := goodIn_app (dg_c 3 rfl rfl (dg_c 4 rfl rfl (dg_c 5 rfl rfl (dg_c 6 rfl rfl dg_0)))) ggX0_firstMaking_X0_pullAt
set_option maxRecDepth 20000 in
theorem gl_X0_firstMaking_X20 : GoodIn wsX0_firstMaking wsX20 := (dg_t (dg_r gw_wsX20))
theorem ggX0_firstMaking_X2_makes : GoodIn wsX0_firstMaking wsX2_makes := (dg_c 16 rfl rfl (goodIn_app (goodIn_app (dg_c 17 rfl rfl (dg_c 18 rfl rfl (dg_c 19 rfl rfl (dg_c 15 rfl rfl (dg_c 20 rfl rfl (dg_c 21 rfl rfl (dg_c 22 rfl rfl (dg_c 23 rfl rfl (dg_c 24 rfl rfl (dg_c 25 rfl rfl (dg_c 26 rfl rfl (dg_c 27 rfl rfl (dg_c 28 rfl rfl (dg_c 29 rfl rfl (dg_c 30 rfl rfl (dg_c 31 rfl rfl (dg_c 32 rfl rfl (dg_c 33 rfl rfl (dg_c 34 rfl rfl (dg_c 35 rfl rfl (dg_c 36 rfl rfl (dg_c 37 rfl rfl (dg_c 38 rfl rfl (dg_c 39 rfl rfl dg_0)))))))))))))))))))))))) (dg_c 40 rfl rfl (dg_c 41 rfl rfl (dg_c 42 rfl rfl (dg_c 43 rfl rfl (dg_c 44 rfl rfl (dg_c 45 rfl rfl dg_0))))))) gl_X0_firstMaking_X20))
set_option maxRecDepth 20000 in
theorem gX0_firstMaking_X2_makes : GoodIn wsX0_firstMaking (wsV RX0 81 RX2 yX2_makes wsX2_makes) := goodIn_app (dg_c 12 rfl rfl (dg_c 13 rfl rfl (dg_c 14 rfl rfl (dg_c 15 rfl rfl dg_0)))) ggX0_firstMaking_X2_makes
theorem dX0_firstMaking_0 : decode cX0_firstMaking 0 = .ok (.iconst 0, 1) := dq_3 dp_cX0_firstMaking rfl
theorem dX0_firstMaking_1 : decode cX0_firstMaking 1 = .ok (.istore_n 3, 1) := dq_62 dp_cX0_firstMaking rfl
theorem dX0_firstMaking_2 : decode cX0_firstMaking 2 = .ok (.iload_n 3, 1) := dq_29 dp_cX0_firstMaking rfl
theorem dX0_firstMaking_3 : decode cX0_firstMaking 3 = .ok (.aload_n 0, 1) := dq_42 dp_cX0_firstMaking rfl
theorem dX0_firstMaking_4 : decode cX0_firstMaking 4 = .ok (.getfield 28, 3) := dq_180 dp_cX0_firstMaking rfl
theorem dX0_firstMaking_7 : decode cX0_firstMaking 7 = .ok (.if_icmp .ge 37, 3) := dq_162 (v := 37) dp_cX0_firstMaking rfl rfl
theorem dX0_firstMaking_10 : decode cX0_firstMaking 10 = .ok (.aload_n 0, 1) := dq_42 dp_cX0_firstMaking rfl
theorem dX0_firstMaking_11 : decode cX0_firstMaking 11 = .ok (.iload_n 3, 1) := dq_29 dp_cX0_firstMaking rfl
theorem dX0_firstMaking_12 : decode cX0_firstMaking 12 = .ok (.invokevirtual 77, 3) := dq_182 dp_cX0_firstMaking rfl
theorem dX0_firstMaking_15 : decode cX0_firstMaking 15 = .ok (.astore 4, 2) := dq_58 dp_cX0_firstMaking rfl
theorem dX0_firstMaking_17 : decode cX0_firstMaking 17 = .ok (.aload 4, 2) := dq_25 dp_cX0_firstMaking rfl
theorem dX0_firstMaking_19 : decode cX0_firstMaking 19 = .ok (.ifnull 19, 3) := dq_198 (v := 19) dp_cX0_firstMaking rfl rfl
theorem dX0_firstMaking_22 : decode cX0_firstMaking 22 = .ok (.aload 4, 2) := dq_25 dp_cX0_firstMaking rfl
theorem dX0_firstMaking_24 : decode cX0_firstMaking 24 = .ok (.iload_n 1, 1) := dq_27 dp_cX0_firstMaking rfl
theorem dX0_firstMaking_25 : decode cX0_firstMaking 25 = .ok (.iload_n 2, 1) := dq_28 dp_cX0_firstMaking rfl
theorem dX0_firstMaking_26 : decode cX0_firstMaking 26 = .ok (.aload_n 0, 1) := dq_42 dp_cX0_firstMaking rfl
theorem dX0_firstMaking_27 : decode cX0_firstMaking 27 = .ok (.getfield 41, 3) := dq_180 dp_cX0_firstMaking rfl
theorem dX0_firstMaking_30 : decode cX0_firstMaking 30 = .ok (.invokevirtual 81, 3) := dq_182 dp_cX0_firstMaking rfl
theorem dX0_firstMaking_33 : decode cX0_firstMaking 33 = .ok (.ifCond .eq 5, 3) := dq_153 (v := 5) dp_cX0_firstMaking rfl rfl
theorem dX0_firstMaking_36 : decode cX0_firstMaking 36 = .ok (.iload_n 3, 1) := dq_29 dp_cX0_firstMaking rfl
theorem dX0_firstMaking_37 : decode cX0_firstMaking 37 = .ok (.ireturn, 1) := dq_172 dp_cX0_firstMaking rfl
theorem dX0_firstMaking_38 : decode cX0_firstMaking 38 = .ok (.iinc 3 1, 3) := dq_132 (v := 1) dp_cX0_firstMaking rfl (by decide) rfl
theorem dX0_firstMaking_41 : decode cX0_firstMaking 41 = .ok (.goto (-39), 3) := dq_167 (v := 65497) dp_cX0_firstMaking rfl rfl
theorem dX0_firstMaking_44 : decode cX0_firstMaking 44 = .ok (.iconst (-1), 1) := dq_2 dp_cX0_firstMaking rfl
theorem dX0_firstMaking_45 : decode cX0_firstMaking 45 = .ok (.ireturn, 1) := dq_172 dp_cX0_firstMaking rfl
set_option maxRecDepth 20000 in
theorem ggX4_holdRow_J7_fill_d0a16 : GoodIn wsX4_holdRow wsJ7_fill_d0a16 := (dg_c 7 rfl rfl dg_0)
set_option maxRecDepth 20000 in
theorem gX4_holdRow_J7_fill_d0a16 : GoodIn wsX4_holdRow (va_wsS RX4 22 yJ7_fill_d0a16 wsJ7_fill_d0a16) := goodIn_app (dg_c 4 rfl rfl (dg_c 5 rfl rfl (dg_c 6 rfl rfl dg_0))) ggX4_holdRow_J7_fill_d0a16
theorem dX4_holdRow_0 : decode cX4_holdRow 0 = .ok (.aload_n 0, 1) := dq_42 dp_cX4_holdRow rfl
theorem dX4_holdRow_1 : decode cX4_holdRow 1 = .ok (.bipush 100, 2) := dq_16 (v := 100) dp_cX4_holdRow rfl rfl
theorem dX4_holdRow_3 : decode cX4_holdRow 3 = .ok (.iload_n 1, 1) := dq_27 dp_cX4_holdRow rfl
theorem dX4_holdRow_4 : decode cX4_holdRow 4 = .ok (.iadd, 1) := dq_96 dp_cX4_holdRow rfl
theorem dX4_holdRow_5 : decode cX4_holdRow 5 = .ok (.putfield 15, 3) := dq_181 dp_cX4_holdRow rfl
theorem dX4_holdRow_8 : decode cX4_holdRow 8 = .ok (.aload_n 0, 1) := dq_42 dp_cX4_holdRow rfl
theorem dX4_holdRow_9 : decode cX4_holdRow 9 = .ok (.iload_n 2, 1) := dq_28 dp_cX4_holdRow rfl
theorem dX4_holdRow_10 : decode cX4_holdRow 10 = .ok (.putfield 19, 3) := dq_181 dp_cX4_holdRow rfl
theorem dX4_holdRow_13 : decode cX4_holdRow 13 = .ok (.aload_n 0, 1) := dq_42 dp_cX4_holdRow rfl
theorem dX4_holdRow_14 : decode cX4_holdRow 14 = .ok (.getfield 9, 3) := dq_180 dp_cX4_holdRow rfl
theorem dX4_holdRow_17 : decode cX4_holdRow 17 = .ok (.lconst 0, 1) := dq_9 dp_cX4_holdRow rfl
theorem dX4_holdRow_18 : decode cX4_holdRow 18 = .ok (.invokestatic 22, 3) := dq_184 dp_cX4_holdRow rfl
theorem dX4_holdRow_21 : decode cX4_holdRow 21 = .ok (.return_, 1) := dq_177 dp_cX4_holdRow rfl
theorem dX4_forgetFrom_0 : decode cX4_forgetFrom 0 = .ok (.aload_n 0, 1) := dq_42 dp_cX4_forgetFrom rfl
theorem dX4_forgetFrom_1 : decode cX4_forgetFrom 1 = .ok (.getfield 15, 3) := dq_180 dp_cX4_forgetFrom rfl
theorem dX4_forgetFrom_4 : decode cX4_forgetFrom 4 = .ok (.iload_n 1, 1) := dq_27 dp_cX4_forgetFrom rfl
theorem dX4_forgetFrom_5 : decode cX4_forgetFrom 5 = .ok (.if_icmp .lt 17, 3) := dq_161 (v := 17) dp_cX4_forgetFrom rfl rfl
theorem dX4_forgetFrom_8 : decode cX4_forgetFrom 8 = .ok (.aload_n 0, 1) := dq_42 dp_cX4_forgetFrom rfl
theorem dX4_forgetFrom_9 : decode cX4_forgetFrom 9 = .ok (.getfield 15, 3) := dq_180 dp_cX4_forgetFrom rfl
theorem dX4_forgetFrom_12 : decode cX4_forgetFrom 12 = .ok (.bipush 100, 2) := dq_16 (v := 100) dp_cX4_forgetFrom rfl rfl
theorem dX4_forgetFrom_14 : decode cX4_forgetFrom 14 = .ok (.if_icmp .ge 8, 3) := dq_162 (v := 8) dp_cX4_forgetFrom rfl rfl
theorem dX4_forgetFrom_17 : decode cX4_forgetFrom 17 = .ok (.aload_n 0, 1) := dq_42 dp_cX4_forgetFrom rfl
theorem dX4_forgetFrom_18 : decode cX4_forgetFrom 18 = .ok (.iconst (-1), 1) := dq_2 dp_cX4_forgetFrom rfl
theorem dX4_forgetFrom_19 : decode cX4_forgetFrom 19 = .ok (.putfield 15, 3) := dq_181 dp_cX4_forgetFrom rfl
theorem dX4_forgetFrom_22 : decode cX4_forgetFrom 22 = .ok (.return_, 1) := dq_177 dp_cX4_forgetFrom rfl
theorem dX4_put_0 : decode cX4_put 0 = .ok (.aload_n 0, 1) := dq_42 dp_cX4_put rfl
theorem dX4_put_1 : decode cX4_put 1 = .ok (.getfield 15, 3) := dq_180 dp_cX4_put rfl
theorem dX4_put_4 : decode cX4_put 4 = .ok (.bipush 100, 2) := dq_16 (v := 100) dp_cX4_put rfl rfl
theorem dX4_put_6 : decode cX4_put 6 = .ok (.isub, 1) := dq_100 dp_cX4_put rfl
theorem dX4_put_7 : decode cX4_put 7 = .ok (.tableswitch 63 0 2 #[25, 38, 51], 25) := by decide +kernel
theorem dX4_put_32 : decode cX4_put 32 = .ok (.aload_n 0, 1) := dq_42 dp_cX4_put rfl
theorem dX4_put_33 : decode cX4_put 33 = .ok (.getfield 9, 3) := dq_180 dp_cX4_put rfl
theorem dX4_put_36 : decode cX4_put 36 = .ok (.iload_n 1, 1) := dq_27 dp_cX4_put rfl
theorem dX4_put_37 : decode cX4_put 37 = .ok (.lload_n 2, 1) := dq_32 dp_cX4_put rfl
theorem dX4_put_38 : decode cX4_put 38 = .ok (.l2i, 1) := dq_136 dp_cX4_put rfl
theorem dX4_put_39 : decode cX4_put 39 = .ok (.i2b, 1) := dq_145 dp_cX4_put rfl
theorem dX4_put_40 : decode cX4_put 40 = .ok (.i2l, 1) := dq_133 dp_cX4_put rfl
theorem dX4_put_41 : decode cX4_put 41 = .ok (.lastore, 1) := dq_80 dp_cX4_put rfl
theorem dX4_put_42 : decode cX4_put 42 = .ok (.goto 35, 3) := dq_167 (v := 35) dp_cX4_put rfl rfl
theorem dX4_put_45 : decode cX4_put 45 = .ok (.aload_n 0, 1) := dq_42 dp_cX4_put rfl
theorem dX4_put_46 : decode cX4_put 46 = .ok (.getfield 9, 3) := dq_180 dp_cX4_put rfl
theorem dX4_put_49 : decode cX4_put 49 = .ok (.iload_n 1, 1) := dq_27 dp_cX4_put rfl
theorem dX4_put_50 : decode cX4_put 50 = .ok (.lload_n 2, 1) := dq_32 dp_cX4_put rfl
theorem dX4_put_51 : decode cX4_put 51 = .ok (.l2i, 1) := dq_136 dp_cX4_put rfl
theorem dX4_put_52 : decode cX4_put 52 = .ok (.i2s, 1) := dq_147 dp_cX4_put rfl
theorem dX4_put_53 : decode cX4_put 53 = .ok (.i2l, 1) := dq_133 dp_cX4_put rfl
theorem dX4_put_54 : decode cX4_put 54 = .ok (.lastore, 1) := dq_80 dp_cX4_put rfl
theorem dX4_put_55 : decode cX4_put 55 = .ok (.goto 22, 3) := dq_167 (v := 22) dp_cX4_put rfl rfl
theorem dX4_put_58 : decode cX4_put 58 = .ok (.aload_n 0, 1) := dq_42 dp_cX4_put rfl
theorem dX4_put_59 : decode cX4_put 59 = .ok (.getfield 9, 3) := dq_180 dp_cX4_put rfl
theorem dX4_put_62 : decode cX4_put 62 = .ok (.iload_n 1, 1) := dq_27 dp_cX4_put rfl
theorem dX4_put_63 : decode cX4_put 63 = .ok (.lload_n 2, 1) := dq_32 dp_cX4_put rfl
theorem dX4_put_64 : decode cX4_put 64 = .ok (.l2i, 1) := dq_136 dp_cX4_put rfl
theorem dX4_put_65 : decode cX4_put 65 = .ok (.i2l, 1) := dq_133 dp_cX4_put rfl
theorem dX4_put_66 : decode cX4_put 66 = .ok (.lastore, 1) := dq_80 dp_cX4_put rfl
theorem dX4_put_67 : decode cX4_put 67 = .ok (.goto 10, 3) := dq_167 (v := 10) dp_cX4_put rfl rfl
theorem dX4_put_70 : decode cX4_put 70 = .ok (.aload_n 0, 1) := dq_42 dp_cX4_put rfl
theorem dX4_put_71 : decode cX4_put 71 = .ok (.getfield 9, 3) := dq_180 dp_cX4_put rfl
theorem dX4_put_74 : decode cX4_put 74 = .ok (.iload_n 1, 1) := dq_27 dp_cX4_put rfl
theorem dX4_put_75 : decode cX4_put 75 = .ok (.lload_n 2, 1) := dq_32 dp_cX4_put rfl
theorem dX4_put_76 : decode cX4_put 76 = .ok (.lastore, 1) := dq_80 dp_cX4_put rfl
theorem dX4_put_77 : decode cX4_put 77 = .ok (.return_, 1) := dq_177 dp_cX4_put rfl
theorem dJ7_fill_d0a16_0 : decode cJ7_fill_d0a16 0 = .ok (.iconst 0, 1) := dq_3 dp_cJ7_fill_d0a16 rfl
theorem dJ7_fill_d0a16_1 : decode cJ7_fill_d0a16 1 = .ok (.istore_n 3, 1) := dq_62 dp_cJ7_fill_d0a16 rfl
theorem dJ7_fill_d0a16_2 : decode cJ7_fill_d0a16 2 = .ok (.aload_n 0, 1) := dq_42 dp_cJ7_fill_d0a16 rfl
theorem dJ7_fill_d0a16_3 : decode cJ7_fill_d0a16 3 = .ok (.arraylength, 1) := dq_190 dp_cJ7_fill_d0a16 rfl
theorem dJ7_fill_d0a16_4 : decode cJ7_fill_d0a16 4 = .ok (.istore 4, 2) := dq_54 dp_cJ7_fill_d0a16 rfl
theorem dJ7_fill_d0a16_6 : decode cJ7_fill_d0a16 6 = .ok (.iload_n 3, 1) := dq_29 dp_cJ7_fill_d0a16 rfl
theorem dJ7_fill_d0a16_7 : decode cJ7_fill_d0a16 7 = .ok (.iload 4, 2) := dq_21 dp_cJ7_fill_d0a16 rfl
theorem dJ7_fill_d0a16_9 : decode cJ7_fill_d0a16 9 = .ok (.if_icmp .ge 13, 3) := dq_162 (v := 13) dp_cJ7_fill_d0a16 rfl rfl
theorem dJ7_fill_d0a16_12 : decode cJ7_fill_d0a16 12 = .ok (.aload_n 0, 1) := dq_42 dp_cJ7_fill_d0a16 rfl
theorem dJ7_fill_d0a16_13 : decode cJ7_fill_d0a16 13 = .ok (.iload_n 3, 1) := dq_29 dp_cJ7_fill_d0a16 rfl
theorem dJ7_fill_d0a16_14 : decode cJ7_fill_d0a16 14 = .ok (.lload_n 1, 1) := dq_31 dp_cJ7_fill_d0a16 rfl
theorem dJ7_fill_d0a16_15 : decode cJ7_fill_d0a16 15 = .ok (.lastore, 1) := dq_80 dp_cJ7_fill_d0a16 rfl
theorem dJ7_fill_d0a16_16 : decode cJ7_fill_d0a16 16 = .ok (.iinc 3 1, 3) := dq_132 (v := 1) dp_cJ7_fill_d0a16 rfl (by decide) rfl
theorem dJ7_fill_d0a16_19 : decode cJ7_fill_d0a16 19 = .ok (.goto (-13), 3) := dq_167 (v := 65523) dp_cJ7_fill_d0a16 rfl rfl
theorem dJ7_fill_d0a16_22 : decode cJ7_fill_d0a16 22 = .ok (.return_, 1) := dq_177 dp_cJ7_fill_d0a16 rfl
end
section
theorem gl_X4_holdRow_X40 : GoodIn wsX4_holdRow wsX40 := (dg_t (dg_t (dg_t (dg_t (dg_t (dg_t (dg_t (dg_t gw_wsX40))))))))
theorem hi_X4_holdRow_4 : ∀ w ∈ u_ws RX4 TX4 3, w ∈ wsX4_holdRow := fun w h => (gl_X4_holdRow_X40 w h).1
theorem gl_X4_forgetFrom_X40 : GoodIn wsX4_forgetFrom wsX40 := (dg_t (dg_t gw_wsX40))
theorem hi_X4_forgetFrom_4 : ∀ w ∈ u_ws RX4 TX4 3, w ∈ wsX4_forgetFrom := fun w h => (gl_X4_forgetFrom_X40 w h).1
theorem gl_X4_put_X40 : GoodIn wsX4_put wsX40 := (dg_t (dg_t (dg_t gw_wsX40)))
theorem hi_X4_put_4 : ∀ w ∈ u_ws RX4 TX4 3, w ∈ wsX4_put := fun w h => (gl_X4_put_X40 w h).1
end
section
theorem gl_X0_pullAt_X00 : GoodIn wsX0_pullAt wsX00 := (dg_t (dg_t (dg_t (dg_t (dg_t (dg_t gw_wsX00))))))
theorem hi_X0_pullAt_0 : ∀ w ∈ u_ws RX0 TX0 9, w ∈ wsX0_pullAt := fun w h => (gl_X0_pullAt_X00 w h).1
set_option maxHeartbeats 4000000 in
set_option maxRecDepth 100000 in
theorem c_J_pullAt (l : Launch) (D : va_G) (cI cJ cZ cP cS : ClassId) (po : zPool) (j0 jp jc z0 zl zs : Nat) (cn de tr se hu sd : Int32) (fp : Nat → Option Nat) (kf af tf : Nat → Int32) (p_ : Int32) (hy0 : 0 ≤ cn.toInt) (hy1 : cn.toInt ≤ 8) (hy2 : 0 ≤ de.toInt) (hy3 : de.toInt ≤ 24) (hy4 : 0 ≤ hu.toInt) (hy5 : hu.toInt ≤ 9) (hjp : zJP po fp cn kf af tf) : Met l yX0_pullAt wsX0_pullAt ({ frames := 1, cells := 0, slots := 0, locals := 22 }) (va_Pc [.ref j0, .int p_] (zR D (zKT cI cJ cZ cP cS) po [(j0, .inr (0, [.ref z0, .ref jp, .ref jc, .int cn, .int de, .int tr, .int se, .int hu, .int sd])), (jp, .inl (cP, 8, .inr (.inr (.inr (.inr fp)))))])) (va_Sq (fun r => (r = none ∧ p_.toInt < 0) ∨ (r = none ∧ 0 ≤ p_.toInt) ∨ ((∃ (u : Nat) (k a t : Int32), r = some u ∧ zPu po u k a t ∧ (k = kf p_.toNatClampNeg ∧ a = af p_.toNatClampNeg ∧ t = tf p_.toNatClampNeg) ∧ 0 ≤ p_.toInt ∧ p_.toInt < cn.toInt) ∧ 0 ≤ p_.toInt))) 0 0 (fun _ => False) := by
  refine Met.ofW (cc := cX0_pullAt) (maxL := 2) (ret := (some (.object "TheLiningsInIt$Pull"))) (by decide) rfl ?_
  intro p e s m args below meth c s₁ B hml hv
  obtain ⟨rfl, hP, hK, hN, hZ⟩ := hv
  have hx := B.exec
  have hb := B.bytes
  have hr := B.returns
  have hts := atoms_spec (ws := wsX0_pullAt) B.pre
  have hown : s.vm.findClass RX0 = some m.cls := findClass_of_methodNamed B.named
  have hlocks := B.notSynchronized
  have hl := lv_entry ([.ref j0, .int p_]) (n := 2) (Nat.le_of_ble_eq_true rfl)
  rw [lg_entry_eq]
  generalize (lg_sl ([.ref j0, .int p_]) ++ List.replicate (2 - (lg_sl ([.ref j0, .int p_])).length) Slot.unset).toArray = ls at hl ⊢
  replace hl : lv_has ls 2 [(0, .ref j0), (1, .int p_)] := hl
  refine lv_iload_n hx hb dX0_pullAt_0 rfl (lv_at hl 1 rfl) ?_
  refine lv_iconst (v := 0) hx hb dX0_pullAt_1 (by decide) ?_
  refine lv_aload_n hx hb dX0_pullAt_2 rfl (lv_at hl 0 rfl) ?_
  refine va_get (D := D) (ci := 0) (v := .int cn) (C := RX0) (T := TX0) (N := 9) hx hb hts hi_X0_pullAt_0 hown hK hP 0 rfl rfl 3 (by decide) (hts (.fieldLink RX0 28 "TheLiningsInIt$Jacket" "pullCount" "I") (List.mem_of_getElem? (i := 1) rfl)) (fun _ h9 => h9) rfl dX0_pullAt_3 ?_
  refine lv_iconst (v := 1) hx hb dX0_pullAt_6 (by decide) ?_
  refine lv_isub hx hb dX0_pullAt_7 ?_
  refine lv_topi (fun x_1 ex_1 => ?_)
  have qx_1 : x_1.toInt = cn.toInt - 1 := by rw [ex_1]; exact zf_sub rfl (by decide) (by omega) (by omega)
  have kc0 : (0 : Int32).toInt = 0 := by decide
  refine zc_SN (As := [.int p_, .int 0, .int x_1]) (rest := []) ⟨hx, hb, hml, hown, hts⟩ (c_within l D cI cJ cZ cP cS po (p_) (0) (x_1) ) ⟨(va_cnB 3 hts gX0_pullAt_X7_within_n66 rfl rfl rfl (hN.1 (RX0, 66, yX7_within) (List.mem_of_getElem? (i := 6) rfl)) (hts _ (List.mem_of_getElem? (i := 4) rfl)) dh_X7_within ⟨Nat.le_of_ble_eq_true rfl, Nat.le_of_ble_eq_true rfl⟩), (hts _ (List.mem_of_getElem? (i := 3) rfl)), trivial⟩ hK hN hZ rfl hl.1 rfl (Nat.le_of_ble_eq_true rfl) dX0_pullAt_8 ⟨Nat.le_of_ble_eq_true rfl, Nat.le_of_ble_eq_true rfl⟩ (fun r_2 hr_2 => ?_)
  rcases hr_2 with ⟨rfl, g_3⟩ | ⟨rfl, g_4, g_5⟩ | ⟨rfl, g_6, g_7⟩
  · refine lv_if_eq (tgt := 29) hx hb dX0_pullAt_11 (by decide) (fun c_8 => ?_) (fun c_8 => ?_)
    · refine lv_null hx hb dX0_pullAt_29 ?_
      exact W.aret (v := .null) hx hb hr (Or.inl ⟨_, rfl⟩) (Or.inl rfl) (fun t ht hW => ⟨none, rfl, Or.inl (⟨rfl, (by first | omega | decide)⟩), ht⟩) (fun q hq => by cases hq) dX0_pullAt_30
    · exact absurd c_8 (by decide)
  · refine lv_if_eq (tgt := 29) hx hb dX0_pullAt_11 (by decide) (fun c_9 => ?_) (fun c_9 => ?_)
    · refine lv_null hx hb dX0_pullAt_29 ?_
      exact W.aret (v := .null) hx hb hr (Or.inl ⟨_, rfl⟩) (Or.inl rfl) (fun t ht hW => ⟨none, rfl, Or.inr (Or.inl (⟨rfl, (by first | omega | decide)⟩)), ht⟩) (fun q hq => by cases hq) dX0_pullAt_30
    · exact absurd c_9 (by decide)
  · refine lv_if_eq (tgt := 29) hx hb dX0_pullAt_11 (by decide) (fun c_10 => ?_) (fun c_10 => ?_)
    · exact absurd c_10 (by decide)
    · refine lv_iload_n hx hb dX0_pullAt_14 rfl (lv_at hl 1 rfl) ?_
      refine lv_bipush (v := 8) hx hb dX0_pullAt_15 (by decide) ?_
      refine lv_icmp_ge (tgt := 29) hx hb dX0_pullAt_17 (by decide) (fun c_11 => ?_) (fun c_11 => ?_)
      · exfalso; have fc_11 : 8 ≤ p_.toInt := zf_le c_11 (by decide) rfl; omega
      · have fc_11 : p_.toInt < 8 := zf_nle c_11 (by decide) rfl
        refine lv_aload_n hx hb dX0_pullAt_20 rfl (lv_at hl 0 rfl) ?_
        refine va_get (D := D) (ci := 0) (v := .ref jp) (C := RX0) (T := TX0) (N := 9) hx hb hts hi_X0_pullAt_0 hown hK hP 0 rfl rfl 1 (by decide) (hts (.fieldLink RX0 20 "TheLiningsInIt$Jacket" "pulls" "[LTheLiningsInIt$Pull;") (List.mem_of_getElem? (i := 2) rfl)) (fun _ h9 => h9) rfl dX0_pullAt_21 ?_
        refine lv_iload_n hx hb dX0_pullAt_24 rfl (lv_at hl 1 rfl) ?_
        refine va_aldq hx hb hK hP 1 3 rfl rfl (zf_in (by omega) (by omega)) dX0_pullAt_25 ?_
        have hiu_12 : p_.toNatClampNeg = p_.toInt.toNat := rfl
        obtain ⟨u_12, hfu_12, hmu_12⟩ := hjp p_.toNatClampNeg (by omega)
        rw [hfu_12]
        refine W.eq (g2 := F0 m 26 ls (.ref u_12 :: [])) rfl ?_
        obtain ⟨kiu_12, au_12, tu_12, hkku_12, huu_12⟩ : ∃ k a t : Int32, (k = kf p_.toNatClampNeg ∧ a = af p_.toNatClampNeg ∧ t = tf p_.toNatClampNeg) ∧ zPu po u_12 k a t := ⟨_, _, _, ⟨rfl, rfl, rfl⟩, hmu_12⟩
        obtain ⟨hku_12, hau_12, htu_12⟩ := zPu_pr hZ huu_12
        refine lv_goto (tgt := 30) hx hb dX0_pullAt_26 (by decide) ?_
        exact W.aret (v := .ref u_12) hx hb hr (Or.inl ⟨_, rfl⟩) (Or.inr ⟨_, rfl⟩) (fun t ht hW => ⟨some u_12, rfl, Or.inr (Or.inr (⟨⟨u_12, kiu_12, au_12, tu_12, rfl, huu_12, ⟨hkku_12, by omega, by omega⟩⟩, (by first | omega | decide)⟩)), ht⟩) (fun q hq => by cases hq) dX0_pullAt_30
set_option maxHeartbeats 4000000 in
set_option maxRecDepth 100000 in
theorem c_J_leastOf (l : Launch) (D : va_G) (cI cJ cZ cP cS : ClassId) (po : zPool) (w : Int32) (hy0 : 0 ≤ w.toInt) (hy1 : w.toInt ≤ 7) : Met l yX0_leastOf wsX0_leastOf ({ frames := 0, cells := 0, slots := 0, locals := 0 }) (va_Pc [.int w] (zR D (zKT cI cJ cZ cP cS) po [])) (vp_Si (fun r => (r = 0 ∧ w.toInt ≠ 3) ∨ (r = 1 ∧ w.toInt = 3))) 0 0 (fun _ => False) := by
  refine Met.ofW (cc := cX0_leastOf) (maxL := 1) (ret := (some .int)) (by decide) rfl ?_
  intro p e s m args below meth c s₁ B hml hv
  obtain ⟨rfl, hP, hK, hN, hZ⟩ := hv
  have hx := B.exec
  have hb := B.bytes
  have hr := B.returns
  have hts := atoms_spec (ws := wsX0_leastOf) B.pre
  have hown : s.vm.findClass RX0 = some m.cls := findClass_of_methodNamed B.named
  have hlocks := B.notSynchronized
  have hl := lv_entry ([.int w]) (n := 1) (Nat.le_of_ble_eq_true rfl)
  rw [lg_entry_eq]
  generalize (lg_sl ([.int w]) ++ List.replicate (1 - (lg_sl ([.int w])).length) Slot.unset).toArray = ls at hl ⊢
  replace hl : lv_has ls 1 [(0, .int w)] := hl
  refine lv_iload_n hx hb dX0_leastOf_0 rfl (lv_at hl 0 rfl) ?_
  refine lv_iconst (v := 3) hx hb dX0_leastOf_1 (by decide) ?_
  refine lv_icmp_ne (tgt := 9) hx hb dX0_leastOf_2 (by decide) (fun c_1 => ?_) (fun c_1 => ?_)
  · have fc_1 : w.toInt ≠ 3 := zf_ne c_1 rfl (by decide)
    refine lv_iconst (v := 0) hx hb dX0_leastOf_9 (by decide) ?_
    exact W.iret (v := 0) hx hb hr (fun t ht hW => ⟨0, rfl, Or.inl (⟨rfl, (by first | omega | decide)⟩), ht⟩) (fun q hq => by cases hq) dX0_leastOf_10
  · have fc_1 : w.toInt = 3 := zf_eq c_1 rfl (by decide)
    refine lv_iconst (v := 1) hx hb dX0_leastOf_5 (by decide) ?_
    refine lv_goto (tgt := 10) hx hb dX0_leastOf_6 (by decide) ?_
    exact W.iret (v := 1) hx hb hr (fun t ht hW => ⟨1, rfl, Or.inr (⟨rfl, (by first | omega | decide)⟩), ht⟩) (fun q hq => by cases hq) dX0_leastOf_10
theorem gl_X0_mostOf_X00 : GoodIn wsX0_mostOf wsX00 := (dg_t (dg_t (dg_t (dg_l gw_wsX00))))
theorem hi_X0_mostOf_0 : ∀ w ∈ u_ws RX0 TX0 9, w ∈ wsX0_mostOf := fun w h => (gl_X0_mostOf_X00 w h).1
theorem gl_X0_mostOf_X60 : GoodIn wsX0_mostOf wsX60 := (dg_t (dg_t (dg_t (dg_r gw_wsX60))))
theorem hi_X0_mostOf_6 : ∀ w ∈ u_ws RX6 TX6 5, w ∈ wsX0_mostOf := fun w h => (gl_X0_mostOf_X60 w h).1
set_option maxHeartbeats 4000000 in
set_option maxRecDepth 100000 in
theorem c_J_mostOf (l : Launch) (D : va_G) (cI cJ cZ cP cS : ClassId) (po : zPool) (j0 jp jc z0 zl zs : Nat) (cn de tr se hu sd : Int32) (sz at_ gp : Int32) (w : Int32) (hy0 : 0 ≤ cn.toInt) (hy1 : cn.toInt ≤ 8) (hy2 : 0 ≤ de.toInt) (hy3 : de.toInt ≤ 24) (hy4 : 0 ≤ hu.toInt) (hy5 : hu.toInt ≤ 9) (hy6 : 4 ≤ sz.toInt) (hy7 : sz.toInt ≤ 40) (hy8 : 0 ≤ at_.toInt) (hy9 : at_.toInt ≤ 40) (hy10 : 1 ≤ gp.toInt) (hy11 : gp.toInt ≤ 9) (hy12 : 0 ≤ w.toInt) (hy13 : w.toInt ≤ 7) : Met l yX0_mostOf wsX0_mostOf ({ frames := 0, cells := 0, slots := 0, locals := 0 }) (va_Pc [.ref j0, .int w] (zR D (zKT cI cJ cZ cP cS) po [(j0, .inr (0, [.ref z0, .ref jp, .ref jc, .int cn, .int de, .int tr, .int se, .int hu, .int sd])), (z0, .inr (6, [.ref zl, .ref zs, .int sz, .int at_, .int gp]))])) (vp_Si (fun r => (r = 24 ∧ w.toInt = 0) ∨ (r = 300 ∧ w.toInt = 1) ∨ (r = 9 ∧ w.toInt = 2) ∨ (r = 9 ∧ w.toInt = 3) ∨ (r = 99 ∧ w.toInt = 4) ∨ (r = 99 ∧ w.toInt = 5) ∨ (r = 99 ∧ w.toInt = 6) ∨ (r = sz ∧ w.toInt = 7))) 0 0 (fun _ => False) := by
  refine Met.ofW (cc := cX0_mostOf) (maxL := 2) (ret := (some .int)) (by decide) rfl ?_
  intro p e s m args below meth c s₁ B hml hv
  obtain ⟨rfl, hP, hK, hN, hZ⟩ := hv
  have hx := B.exec
  have hb := B.bytes
  have hr := B.returns
  have hts := atoms_spec (ws := wsX0_mostOf) B.pre
  have hown : s.vm.findClass RX0 = some m.cls := findClass_of_methodNamed B.named
  have hlocks := B.notSynchronized
  have hl := lv_entry ([.ref j0, .int w]) (n := 2) (Nat.le_of_ble_eq_true rfl)
  rw [lg_entry_eq]
  generalize (lg_sl ([.ref j0, .int w]) ++ List.replicate (2 - (lg_sl ([.ref j0, .int w])).length) Slot.unset).toArray = ls at hl ⊢
  replace hl : lv_has ls 2 [(0, .ref j0), (1, .int w)] := hl
  refine lv_iload_n hx hb dX0_mostOf_0 rfl (lv_at hl 1 rfl) ?_
  have hsp : w = 0 ∨ w = 1 ∨ w = 2 ∨ w = 3 ∨ w = 4 ∨ w = 5 ∨ w = 6 ∨ w = 7 := by
    rcases (show w.toInt = 0 ∨ w.toInt = 1 ∨ w.toInt = 2 ∨ w.toInt = 3 ∨ w.toInt = 4 ∨ w.toInt = 5 ∨ w.toInt = 6 ∨ w.toInt = 7 by omega) with h9 | h9 | h9 | h9 | h9 | h9 | h9 | h9
    · refine Or.inl ?_; exact zf_val h9 (by decide)
    · refine Or.inr (Or.inl ?_); exact zf_val h9 (by decide)
    · refine Or.inr (Or.inr (Or.inl ?_)); exact zf_val h9 (by decide)
    · refine Or.inr (Or.inr (Or.inr (Or.inl ?_))); exact zf_val h9 (by decide)
    · refine Or.inr (Or.inr (Or.inr (Or.inr (Or.inl ?_)))); exact zf_val h9 (by decide)
    · refine Or.inr (Or.inr (Or.inr (Or.inr (Or.inr (Or.inl ?_))))); exact zf_val h9 (by decide)
    · refine Or.inr (Or.inr (Or.inr (Or.inr (Or.inr (Or.inr (Or.inl ?_)))))); exact zf_val h9 (by decide)
    · refine Or.inr (Or.inr (Or.inr (Or.inr (Or.inr (Or.inr (Or.inr (?_))))))); exact zf_val h9 (by decide)
  rcases hsp with rfl | rfl | rfl | rfl | rfl | rfl | rfl | rfl
  · have kc0 : (0 : Int32).toInt = 0 := by decide
    refine lv_tableIn (tgt := 48) hx hb dX0_mostOf_1 (by decide) (by decide) rfl (by decide) ?_
    refine lv_bipush (v := 24) hx hb dX0_mostOf_48 (by decide) ?_
    exact W.iret (v := 24) hx hb hr (fun t ht hW => ⟨24, rfl, Or.inl (⟨rfl, (by first | omega | decide)⟩), ht⟩) (fun q hq => by cases hq) dX0_mostOf_50
  · have kc1 : (1 : Int32).toInt = 1 := by decide
    refine lv_tableIn (tgt := 51) hx hb dX0_mostOf_1 (by decide) (by decide) rfl (by decide) ?_
    refine lv_sipush (v := 300) hx hb dX0_mostOf_51 (by decide) ?_
    exact W.iret (v := 300) hx hb hr (fun t ht hW => ⟨300, rfl, Or.inr (Or.inl (⟨rfl, (by first | omega | decide)⟩)), ht⟩) (fun q hq => by cases hq) dX0_mostOf_54
  · have kc2 : (2 : Int32).toInt = 2 := by decide
    refine lv_tableIn (tgt := 55) hx hb dX0_mostOf_1 (by decide) (by decide) rfl (by decide) ?_
    refine lv_bipush (v := 9) hx hb dX0_mostOf_55 (by decide) ?_
    exact W.iret (v := 9) hx hb hr (fun t ht hW => ⟨9, rfl, Or.inr (Or.inr (Or.inl (⟨rfl, (by first | omega | decide)⟩))), ht⟩) (fun q hq => by cases hq) dX0_mostOf_57
  · have kc3 : (3 : Int32).toInt = 3 := by decide
    refine lv_tableIn (tgt := 58) hx hb dX0_mostOf_1 (by decide) (by decide) rfl (by decide) ?_
    refine lv_bipush (v := 9) hx hb dX0_mostOf_58 (by decide) ?_
    exact W.iret (v := 9) hx hb hr (fun t ht hW => ⟨9, rfl, Or.inr (Or.inr (Or.inr (Or.inl (⟨rfl, (by first | omega | decide)⟩)))), ht⟩) (fun q hq => by cases hq) dX0_mostOf_60
  · have kc4 : (4 : Int32).toInt = 4 := by decide
    refine lv_tableIn (tgt := 69) hx hb dX0_mostOf_1 (by decide) (by decide) rfl (by decide) ?_
    refine lv_bipush (v := 99) hx hb dX0_mostOf_69 (by decide) ?_
    exact W.iret (v := 99) hx hb hr (fun t ht hW => ⟨99, rfl, Or.inr (Or.inr (Or.inr (Or.inr (Or.inl (⟨rfl, (by first | omega | decide)⟩))))), ht⟩) (fun q hq => by cases hq) dX0_mostOf_71
  · have kc5 : (5 : Int32).toInt = 5 := by decide
    refine lv_tableIn (tgt := 69) hx hb dX0_mostOf_1 (by decide) (by decide) rfl (by decide) ?_
    refine lv_bipush (v := 99) hx hb dX0_mostOf_69 (by decide) ?_
    exact W.iret (v := 99) hx hb hr (fun t ht hW => ⟨99, rfl, Or.inr (Or.inr (Or.inr (Or.inr (Or.inr (Or.inl (⟨rfl, (by first | omega | decide)⟩)))))), ht⟩) (fun q hq => by cases hq) dX0_mostOf_71
  · have kc6 : (6 : Int32).toInt = 6 := by decide
    refine lv_tableIn (tgt := 69) hx hb dX0_mostOf_1 (by decide) (by decide) rfl (by decide) ?_
    refine lv_bipush (v := 99) hx hb dX0_mostOf_69 (by decide) ?_
    exact W.iret (v := 99) hx hb hr (fun t ht hW => ⟨99, rfl, Or.inr (Or.inr (Or.inr (Or.inr (Or.inr (Or.inr (Or.inl (⟨rfl, (by first | omega | decide)⟩))))))), ht⟩) (fun q hq => by cases hq) dX0_mostOf_71
  · have kc7 : (7 : Int32).toInt = 7 := by decide
    refine lv_tableIn (tgt := 61) hx hb dX0_mostOf_1 (by decide) (by decide) rfl (by decide) ?_
    refine lv_aload_n hx hb dX0_mostOf_61 rfl (lv_at hl 0 rfl) ?_
    refine va_get (D := D) (ci := 0) (v := .ref z0) (C := RX0) (T := TX0) (N := 9) hx hb hts hi_X0_mostOf_0 hown hK hP 0 rfl rfl 0 (by decide) (hts (.fieldLink RX0 12 "TheLiningsInIt$Jacket" "zip" "LTheLiningsInIt$Zip;") (List.mem_of_getElem? (i := 1) rfl)) (fun _ h9 => h9) rfl dX0_mostOf_62 ?_
    refine va_get (D := D) (ci := 6) (v := .int sz) (C := RX6) (T := TX6) (N := 5) hx hb hts hi_X0_mostOf_6 hown hK hP 1 rfl rfl 2 (by decide) (hts (.fieldLink RX0 57 "TheLiningsInIt$Zip" "size" "I") (List.mem_of_getElem? (i := 2) rfl)) (fun _ h9 => h9) rfl dX0_mostOf_65 ?_
    exact W.iret (v := sz) hx hb hr (fun t ht hW => ⟨sz, rfl, Or.inr (Or.inr (Or.inr (Or.inr (Or.inr (Or.inr (Or.inr (⟨rfl, (by first | omega | decide)⟩))))))), ht⟩) (fun q hq => by cases hq) dX0_mostOf_68
theorem gl_X0_number_X00 : GoodIn wsX0_number wsX00 := (dg_t (dg_t (dg_t (dg_t (dg_t (dg_t (dg_t (dg_t (dg_t (dg_t (dg_t (dg_l gw_wsX00))))))))))))
theorem hi_X0_number_0 : ∀ w ∈ u_ws RX0 TX0 9, w ∈ wsX0_number := fun w h => (gl_X0_number_X00 w h).1
theorem gl_X0_number_X60 : GoodIn wsX0_number wsX60 := (dg_t (dg_t (dg_t (dg_t (dg_t (dg_t (dg_t (dg_t (dg_t (dg_t (dg_t (dg_r gw_wsX60))))))))))))
theorem hi_X0_number_6 : ∀ w ∈ u_ws RX6 TX6 5, w ∈ wsX0_number := fun w h => (gl_X0_number_X60 w h).1
theorem gl_X0_mayBe_X00 : GoodIn wsX0_mayBe wsX00 := (dg_t (dg_t (dg_t (dg_t (dg_t (dg_t (dg_t (dg_t (dg_t (dg_l gw_wsX00))))))))))
theorem hi_X0_mayBe_0 : ∀ w ∈ u_ws RX0 TX0 9, w ∈ wsX0_mayBe := fun w h => (gl_X0_mayBe_X00 w h).1
set_option maxHeartbeats 4000000 in
set_option maxRecDepth 100000 in
theorem c_J_mayBe (l : Launch) (D : va_G) (cI cJ cZ cP cS : ClassId) (po : zPool) (j0 jp jc z0 zl zs : Nat) (cn de tr se hu sd : Int32) (u0 : Nat) (ki a_ ta : Int32) (hu_u0 : zPu po u0 ki a_ ta) (hr_u0 : zPr ki a_ ta) (hy2 : 0 ≤ cn.toInt) (hy3 : cn.toInt ≤ 8) (hy4 : 0 ≤ de.toInt) (hy5 : de.toInt ≤ 24) (hy6 : 0 ≤ hu.toInt) (hy7 : hu.toInt ≤ 9) : Met l yX0_mayBe wsX0_mayBe ({ frames := 1, cells := 0, slots := 0, locals := 22 }) (va_Pc [.ref j0, .ref u0] (zR D (zKT cI cJ cZ cP cS) po [(j0, .inr (0, [.ref z0, .ref jp, .ref jc, .int cn, .int de, .int tr, .int se, .int hu, .int sd]))])) (vp_Si (fun r => (r = 0 ∧ de.toInt < 1) ∨ (r = 0 ∧ 1 ≤ de.toInt ∧ se.toInt < ta.toInt) ∨ (r = 1 ∧ 1 ≤ de.toInt ∧ ta.toInt ≤ se.toInt))) 0 0 (fun _ => False) := by
  refine Met.ofW (cc := cX0_mayBe) (maxL := 2) (ret := (some .boolean)) (by decide) rfl ?_
  intro p e s m args below meth c s₁ B hml hv
  obtain ⟨rfl, hP, hK, hN, hZ⟩ := hv
  have hx := B.exec
  have hb := B.bytes
  have hr := B.returns
  have hts := atoms_spec (ws := wsX0_mayBe) B.pre
  have hown : s.vm.findClass RX0 = some m.cls := findClass_of_methodNamed B.named
  have hlocks := B.notSynchronized
  have hl := lv_entry ([.ref j0, .ref u0]) (n := 2) (Nat.le_of_ble_eq_true rfl)
  rw [lg_entry_eq]
  generalize (lg_sl ([.ref j0, .ref u0]) ++ List.replicate (2 - (lg_sl ([.ref j0, .ref u0])).length) Slot.unset).toArray = ls at hl ⊢
  replace hl : lv_has ls 2 [(0, .ref j0), (1, .ref u0)] := hl
  obtain ⟨⟨p1_u0, p2_u0⟩, ⟨p3_u0, p4_u0⟩, p5_u0, p6_u0⟩ := id hr_u0
  refine lv_aload_n hx hb dX0_mayBe_0 rfl (lv_at hl 1 rfl) ?_
  refine lv_aload_n hx hb dX0_mayBe_1 rfl (lv_at hl 0 rfl) ?_
  refine va_get (D := D) (ci := 0) (v := .int de) (C := RX0) (T := TX0) (N := 9) hx hb hts hi_X0_mayBe_0 hown hK hP 0 rfl rfl 4 (by decide) (hts (.fieldLink RX0 32 "TheLiningsInIt$Jacket" "depth" "I") (List.mem_of_getElem? (i := 1) rfl)) (fun _ h9 => h9) rfl dX0_mayBe_2 ?_
  refine lv_aload_n hx hb dX0_mayBe_5 rfl (lv_at hl 0 rfl) ?_
  refine va_get (D := D) (ci := 0) (v := .int se) (C := RX0) (T := TX0) (N := 9) hx hb hts hi_X0_mayBe_0 hown hK hP 0 rfl rfl 6 (by decide) (hts (.fieldLink RX0 38 "TheLiningsInIt$Jacket" "seconds" "I") (List.mem_of_getElem? (i := 2) rfl)) (fun _ h9 => h9) rfl dX0_mayBe_6 ?_
  refine zc_V (As := [.int de, .int se]) (rest := []) ⟨hx, hb, hml, hown, hts⟩ (c_Pull_mayBe l D cI cJ cZ cP cS po (de) (se) u0 (ki) (a_) (ta) hu_u0 ⟨by omega, by omega, by omega, by omega⟩) (cwV 2 hts gX0_mayBe_X2_mayBe rfl rfl rfl ⟨rfl, dh_X2_mayBe⟩ ⟨Nat.le_of_ble_eq_true rfl, Nat.le_of_ble_eq_true rfl⟩) hK hN hZ hP zP_nil (va_recv (q := (RX2, TX2, 3)) hK (zPu_P hZ hu_u0) (ci := 2) (q0 := 0) rfl rfl) rfl hl.1 rfl (Nat.le_of_ble_eq_true rfl) dX0_mayBe_9 ⟨Nat.le_of_ble_eq_true rfl, Nat.le_of_ble_eq_true rfl⟩ (fun r_1 hr_1 => ?_)
  rcases hr_1 with ⟨rfl, g_2⟩ | ⟨rfl, g_3, g_4⟩ | ⟨rfl, g_5, g_6⟩
  · exact W.zret (v := 0) hx hb hr (by decide) (fun t ht hW => ⟨0, rfl, Or.inl (⟨rfl, (by first | omega | decide)⟩), ht⟩) (fun q hq => by cases hq) dX0_mayBe_12
  · exact W.zret (v := 0) hx hb hr (by decide) (fun t ht hW => ⟨0, rfl, Or.inr (Or.inl (⟨rfl, (by first | omega | decide), (by first | omega | decide)⟩)), ht⟩) (fun q hq => by cases hq) dX0_mayBe_12
  · exact W.zret (v := 1) hx hb hr (by decide) (fun t ht hW => ⟨1, rfl, Or.inr (Or.inr (⟨rfl, (by first | omega | decide), (by first | omega | decide)⟩)), ht⟩) (fun q hq => by cases hq) dX0_mayBe_12
theorem hi_X0_pullsMaking_0 : ∀ w ∈ u_ws RX0 TX0 9, w ∈ wsX0_pullsMaking := fun w h => (gl_X0_pullsMaking_X00 w h).1
theorem hi_X0_firstMaking_0 : ∀ w ∈ u_ws RX0 TX0 9, w ∈ wsX0_firstMaking := fun w h => (gl_X0_firstMaking_X00 w h).1
end
section
def wsX0_setNumber : List Cond := (.code yX0_setNumber cX0_setNumber 3 none) :: (.fieldLink RX0 32 "TheLiningsInIt$Jacket" "depth" "I") :: (.fieldLink RX0 38 "TheLiningsInIt$Jacket" "seconds" "I") :: (.fieldLink RX0 41 "TheLiningsInIt$Jacket" "hurry" "I") :: (.fieldLink RX0 12 "TheLiningsInIt$Jacket" "zip" "LTheLiningsInIt$Zip;") :: (.fieldLink RX0 60 "TheLiningsInIt$Zip" "gap" "I") :: (.fieldLink RX0 63 "TheLiningsInIt$Zip" "at" "I") :: (.fieldLink RX0 24 "TheLiningsInIt$Jacket" "costs" "[I") :: (.static yX7_within) :: (.initialized RX7) :: (.code yX7_within cX7_within 3 (some .boolean)) :: (wsX00 ++ wsX60)
def wsX0_draw : List Cond := (.code yX0_draw cX0_draw 2 (some .int)) :: (.fieldLink RX0 44 "TheLiningsInIt$Jacket" "seedNow" "I") :: (.constant RX0 84 (1103515245)) :: wsX00
def wsX0_pullInTruth_r1 : List Cond := (Cond.fieldLink RX0 32 "TheLiningsInIt$Jacket" "depth" "I") :: (Cond.fieldLink RX0 41 "TheLiningsInIt$Jacket" "hurry" "I") :: (Cond.fieldLink RX0 38 "TheLiningsInIt$Jacket" "seconds" "I") :: (Cond.fieldLink RX0 99 "TheLiningsInIt$Pull" "takes" "I") :: (Cond.fieldLink RX0 102 "TheLiningsInIt$Pull" "kind" "I") :: (Cond.fieldLink RX0 35 "TheLiningsInIt$Jacket" "torn" "I") :: (Cond.methodLink RX0 85 yX0_draw) :: (Cond.instanceMethod yX0_draw) :: (Cond.selects RX0 yX0_draw yX0_draw) :: (Cond.initialized RX0) :: (Cond.code yX0_draw cX0_draw 2 (some .int)) :: (Cond.fieldLink RX0 44 "TheLiningsInIt$Jacket" "seedNow" "I") :: (Cond.constant RX0 84 (1103515245)) :: (Cond.methodLink RX0 89 yX2_waysAt) :: (Cond.instanceMethod yX2_waysAt) :: (Cond.selects RX2 yX2_waysAt yX2_waysAt) :: (Cond.initialized RX2) :: (Cond.code yX2_waysAt cX2_waysAt 3 (some .int)) :: (Cond.fieldLink RX2 9 "TheLiningsInIt$Pull" "kind" "I") :: (Cond.methodLink RX2 33 Lib.Math.min.name) :: (Cond.static Lib.Math.min.name) :: (Cond.initialized "java/lang/Math") :: (Cond.code Lib.Math.min.name Lib.Math.min.code 2 (some .int)) :: (Cond.methodLink RX2 39 Lib.Math.max.name) :: []
def wsX0_pullInTruth_r2 : List Cond := (Cond.static Lib.Math.max.name) :: (Cond.code Lib.Math.max.name Lib.Math.max.code 2 (some .int)) :: (Cond.methodLink RX2 29 yX2_calmWaysAt) :: (Cond.instanceMethod yX2_calmWaysAt) :: (Cond.selects RX2 yX2_calmWaysAt yX2_calmWaysAt) :: (Cond.code yX2_calmWaysAt cX2_calmWaysAt 2 (some .int)) :: (Cond.fieldLink RX2 15 "TheLiningsInIt$Pull" "a" "I") :: (Cond.methodLink RX0 93 yX2_shallower) :: (Cond.instanceMethod yX2_shallower) :: (Cond.selects RX2 yX2_shallower yX2_shallower) :: (Cond.code yX2_shallower cX2_shallower 2 (some .int)) :: (Cond.methodLink RX2 42 yX2_step) :: (Cond.instanceMethod yX2_step) :: (Cond.selects RX2 yX2_step yX2_step) :: (Cond.code yX2_step cX2_step 1 (some .int)) :: (Cond.methodLink RX0 96 yX2_deeper) :: (Cond.instanceMethod yX2_deeper) :: (Cond.selects RX2 yX2_deeper yX2_deeper) :: (Cond.code yX2_deeper cX2_deeper 4 (some .int)) :: []
def wsX0_pullInTruth : List Cond := (.code yX0_pullInTruth cX0_pullInTruth 3 none) :: ((wsX0_pullInTruth_r1 ++ wsX0_pullInTruth_r2) ++ wsX00 ++ wsX20)
def wsX0_closeInTruth_r1 : List Cond := (Cond.fieldLink RX0 12 "TheLiningsInIt$Jacket" "zip" "LTheLiningsInIt$Zip;") :: (Cond.fieldLink RX0 63 "TheLiningsInIt$Zip" "at" "I") :: (Cond.fieldLink RX0 57 "TheLiningsInIt$Zip" "size" "I") :: (Cond.fieldLink RX0 109 "TheLiningsInIt$Zip" "slacks" "[I") :: (Cond.fieldLink RX0 60 "TheLiningsInIt$Zip" "gap" "I") :: (Cond.fieldLink RX0 32 "TheLiningsInIt$Jacket" "depth" "I") :: (Cond.methodLink RX0 105 yX6_catchesAt) :: (Cond.instanceMethod yX6_catchesAt) :: (Cond.selects RX6 yX6_catchesAt yX6_catchesAt) :: (Cond.initialized RX6) :: (Cond.code yX6_catchesAt cX6_catchesAt 2 (some .boolean)) :: (Cond.fieldLink RX6 9 "TheLiningsInIt$Zip" "lacking" "[Z") :: (Cond.fieldLink RX6 15 "TheLiningsInIt$Zip" "slacks" "[I") :: (Cond.fieldLink RX6 26 "TheLiningsInIt$Zip" "gap" "I") :: (Cond.methodLink RX6 29 yX6_has) :: (Cond.instanceMethod yX6_has) :: (Cond.selects RX6 yX6_has yX6_has) :: (Cond.code yX6_has cX6_has 2 (some .boolean)) :: (Cond.fieldLink RX6 19 "TheLiningsInIt$Zip" "size" "I") :: (Cond.methodLink RX0 85 yX0_draw) :: (Cond.instanceMethod yX0_draw) :: (Cond.selects RX0 yX0_draw yX0_draw) :: (Cond.initialized RX0) :: (Cond.code yX0_draw cX0_draw 2 (some .int)) :: []
def wsX0_closeInTruth_r2 : List Cond := (Cond.fieldLink RX0 44 "TheLiningsInIt$Jacket" "seedNow" "I") :: (Cond.constant RX0 84 (1103515245)) :: (Cond.methodLink RX0 112 yX6_lacksThreeFrom) :: (Cond.instanceMethod yX6_lacksThreeFrom) :: (Cond.selects RX6 yX6_lacksThreeFrom yX6_lacksThreeFrom) :: (Cond.code yX6_lacksThreeFrom cX6_lacksThreeFrom 2 (some .boolean)) :: (Cond.methodLink RX6 33 yX6_lacksAt) :: (Cond.instanceMethod yX6_lacksAt) :: (Cond.selects RX6 yX6_lacksAt yX6_lacksAt) :: (Cond.code yX6_lacksAt cX6_lacksAt 2 (some .boolean)) :: []
def wsX0_closeInTruth : List Cond := (.code yX0_closeInTruth cX0_closeInTruth 2 none) :: ((wsX0_closeInTruth_r1 ++ wsX0_closeInTruth_r2) ++ wsX00 ++ wsX60)
set_option maxRecDepth 20000 in
theorem ggX0_setNumber_X7_within : GoodIn wsX0_setNumber wsX7_within := (dg_c 10 rfl rfl dg_0)
set_option maxRecDepth 20000 in
theorem gX0_setNumber_X7_within_n66 : GoodIn wsX0_setNumber (wsX7_within) := ggX0_setNumber_X7_within
theorem dX0_setNumber_0 : decode cX0_setNumber 0 = .ok (.iload_n 1, 1) := dq_27 dp_cX0_setNumber rfl
theorem dX0_setNumber_1 : decode cX0_setNumber 1 = .ok (.tableswitch 93 0 7 #[47, 55, 63, 71, 93, 93, 93, 82], 47) := by decide +kernel
theorem dX0_setNumber_48 : decode cX0_setNumber 48 = .ok (.aload_n 0, 1) := dq_42 dp_cX0_setNumber rfl
theorem dX0_setNumber_49 : decode cX0_setNumber 49 = .ok (.iload_n 2, 1) := dq_28 dp_cX0_setNumber rfl
theorem dX0_setNumber_50 : decode cX0_setNumber 50 = .ok (.putfield 32, 3) := dq_181 dp_cX0_setNumber rfl
theorem dX0_setNumber_53 : decode cX0_setNumber 53 = .ok (.goto 61, 3) := dq_167 (v := 61) dp_cX0_setNumber rfl rfl
theorem dX0_setNumber_56 : decode cX0_setNumber 56 = .ok (.aload_n 0, 1) := dq_42 dp_cX0_setNumber rfl
theorem dX0_setNumber_57 : decode cX0_setNumber 57 = .ok (.iload_n 2, 1) := dq_28 dp_cX0_setNumber rfl
theorem dX0_setNumber_58 : decode cX0_setNumber 58 = .ok (.putfield 38, 3) := dq_181 dp_cX0_setNumber rfl
theorem dX0_setNumber_61 : decode cX0_setNumber 61 = .ok (.goto 53, 3) := dq_167 (v := 53) dp_cX0_setNumber rfl rfl
theorem dX0_setNumber_64 : decode cX0_setNumber 64 = .ok (.aload_n 0, 1) := dq_42 dp_cX0_setNumber rfl
theorem dX0_setNumber_65 : decode cX0_setNumber 65 = .ok (.iload_n 2, 1) := dq_28 dp_cX0_setNumber rfl
theorem dX0_setNumber_66 : decode cX0_setNumber 66 = .ok (.putfield 41, 3) := dq_181 dp_cX0_setNumber rfl
theorem dX0_setNumber_69 : decode cX0_setNumber 69 = .ok (.goto 45, 3) := dq_167 (v := 45) dp_cX0_setNumber rfl rfl
theorem dX0_setNumber_72 : decode cX0_setNumber 72 = .ok (.aload_n 0, 1) := dq_42 dp_cX0_setNumber rfl
theorem dX0_setNumber_73 : decode cX0_setNumber 73 = .ok (.getfield 12, 3) := dq_180 dp_cX0_setNumber rfl
theorem dX0_setNumber_76 : decode cX0_setNumber 76 = .ok (.iload_n 2, 1) := dq_28 dp_cX0_setNumber rfl
theorem dX0_setNumber_77 : decode cX0_setNumber 77 = .ok (.putfield 60, 3) := dq_181 dp_cX0_setNumber rfl
theorem dX0_setNumber_80 : decode cX0_setNumber 80 = .ok (.goto 34, 3) := dq_167 (v := 34) dp_cX0_setNumber rfl rfl
theorem dX0_setNumber_83 : decode cX0_setNumber 83 = .ok (.aload_n 0, 1) := dq_42 dp_cX0_setNumber rfl
theorem dX0_setNumber_84 : decode cX0_setNumber 84 = .ok (.getfield 12, 3) := dq_180 dp_cX0_setNumber rfl
theorem dX0_setNumber_87 : decode cX0_setNumber 87 = .ok (.iload_n 2, 1) := dq_28 dp_cX0_setNumber rfl
theorem dX0_setNumber_88 : decode cX0_setNumber 88 = .ok (.putfield 63, 3) := dq_181 dp_cX0_setNumber rfl
theorem dX0_setNumber_91 : decode cX0_setNumber 91 = .ok (.goto 23, 3) := dq_167 (v := 23) dp_cX0_setNumber rfl rfl
theorem dX0_setNumber_94 : decode cX0_setNumber 94 = .ok (.iload_n 1, 1) := dq_27 dp_cX0_setNumber rfl
theorem dX0_setNumber_95 : decode cX0_setNumber 95 = .ok (.iconst 4, 1) := dq_7 dp_cX0_setNumber rfl
theorem dX0_setNumber_96 : decode cX0_setNumber 96 = .ok (.isub, 1) := dq_100 dp_cX0_setNumber rfl
theorem dX0_setNumber_97 : decode cX0_setNumber 97 = .ok (.iconst 0, 1) := dq_3 dp_cX0_setNumber rfl
theorem dX0_setNumber_98 : decode cX0_setNumber 98 = .ok (.iconst 2, 1) := dq_5 dp_cX0_setNumber rfl
theorem dX0_setNumber_99 : decode cX0_setNumber 99 = .ok (.invokestatic 66, 3) := dq_184 dp_cX0_setNumber rfl
theorem dX0_setNumber_102 : decode cX0_setNumber 102 = .ok (.ifCond .eq 12, 3) := dq_153 (v := 12) dp_cX0_setNumber rfl rfl
theorem dX0_setNumber_105 : decode cX0_setNumber 105 = .ok (.aload_n 0, 1) := dq_42 dp_cX0_setNumber rfl
theorem dX0_setNumber_106 : decode cX0_setNumber 106 = .ok (.getfield 24, 3) := dq_180 dp_cX0_setNumber rfl
theorem dX0_setNumber_109 : decode cX0_setNumber 109 = .ok (.iload_n 1, 1) := dq_27 dp_cX0_setNumber rfl
theorem dX0_setNumber_110 : decode cX0_setNumber 110 = .ok (.iconst 4, 1) := dq_7 dp_cX0_setNumber rfl
theorem dX0_setNumber_111 : decode cX0_setNumber 111 = .ok (.isub, 1) := dq_100 dp_cX0_setNumber rfl
theorem dX0_setNumber_112 : decode cX0_setNumber 112 = .ok (.iload_n 2, 1) := dq_28 dp_cX0_setNumber rfl
theorem dX0_setNumber_113 : decode cX0_setNumber 113 = .ok (.iastore, 1) := dq_79 dp_cX0_setNumber rfl
theorem dX0_setNumber_114 : decode cX0_setNumber 114 = .ok (.return_, 1) := dq_177 dp_cX0_setNumber rfl
theorem dX0_draw_0 : decode cX0_draw 0 = .ok (.aload_n 0, 1) := dq_42 dp_cX0_draw rfl
theorem dX0_draw_1 : decode cX0_draw 1 = .ok (.aload_n 0, 1) := dq_42 dp_cX0_draw rfl
theorem dX0_draw_2 : decode cX0_draw 2 = .ok (.getfield 44, 3) := dq_180 dp_cX0_draw rfl
theorem dX0_draw_5 : decode cX0_draw 5 = .ok (.ldc 84, 2) := dq_18 dp_cX0_draw rfl
theorem dX0_draw_7 : decode cX0_draw 7 = .ok (.imul, 1) := dq_104 dp_cX0_draw rfl
theorem dX0_draw_8 : decode cX0_draw 8 = .ok (.sipush 12345, 3) := dq_17 (v := 12345) dp_cX0_draw rfl rfl
theorem dX0_draw_11 : decode cX0_draw 11 = .ok (.iadd, 1) := dq_96 dp_cX0_draw rfl
theorem dX0_draw_12 : decode cX0_draw 12 = .ok (.putfield 44, 3) := dq_181 dp_cX0_draw rfl
theorem dX0_draw_15 : decode cX0_draw 15 = .ok (.iload_n 1, 1) := dq_27 dp_cX0_draw rfl
theorem dX0_draw_16 : decode cX0_draw 16 = .ok (.iconst 1, 1) := dq_4 dp_cX0_draw rfl
theorem dX0_draw_17 : decode cX0_draw 17 = .ok (.if_icmp .ge 7, 3) := dq_162 (v := 7) dp_cX0_draw rfl rfl
theorem dX0_draw_24 : decode cX0_draw 24 = .ok (.aload_n 0, 1) := dq_42 dp_cX0_draw rfl
theorem dX0_draw_25 : decode cX0_draw 25 = .ok (.getfield 44, 3) := dq_180 dp_cX0_draw rfl
theorem dX0_draw_28 : decode cX0_draw 28 = .ok (.bipush 16, 2) := dq_16 (v := 16) dp_cX0_draw rfl rfl
theorem dX0_draw_30 : decode cX0_draw 30 = .ok (.iushr, 1) := dq_124 dp_cX0_draw rfl
theorem dX0_draw_31 : decode cX0_draw 31 = .ok (.iload_n 1, 1) := dq_27 dp_cX0_draw rfl
theorem dX0_draw_32 : decode cX0_draw 32 = .ok (.irem, 1) := dq_112 dp_cX0_draw rfl
theorem dX0_draw_33 : decode cX0_draw 33 = .ok (.ireturn, 1) := dq_172 dp_cX0_draw rfl
set_option maxRecDepth 20000 in
theorem gl_X0_pullInTruth_X00 : GoodIn wsX0_pullInTruth wsX00 := (dg_t (dg_l (dg_r gw_wsX00)))
theorem ggX0_pullInTruth_X0_draw : GoodIn wsX0_pullInTruth wsX0_draw := (dg_c 11 rfl rfl (dg_c 12 rfl rfl (dg_c 13 rfl rfl gl_X0_pullInTruth_X00)))
set_option maxRecDepth 20000 in
theorem gX0_pullInTruth_X0_draw : GoodIn wsX0_pullInTruth (wsV RX0 85 RX0 yX0_draw wsX0_draw) := goodIn_app (dg_c 7 rfl rfl (dg_c 8 rfl rfl (dg_c 9 rfl rfl (dg_c 10 rfl rfl dg_0)))) ggX0_pullInTruth_X0_draw
set_option maxRecDepth 20000 in
theorem gl_X0_pullInTruth_X20 : GoodIn wsX0_pullInTruth wsX20 := (dg_t (dg_r gw_wsX20))
theorem ggX0_pullInTruth_X2_waysAt : GoodIn wsX0_pullInTruth wsX2_waysAt := (dg_c 18 rfl rfl (dg_c 19 rfl rfl (dg_c 20 rfl rfl (dg_c 21 rfl rfl (dg_c 22 rfl rfl (dg_c 23 rfl rfl (dg_c 24 rfl rfl (dg_c 25 rfl rfl (dg_c 26 rfl rfl (dg_c 27 rfl rfl (dg_c 28 rfl rfl (dg_c 29 rfl rfl (dg_c 17 rfl rfl (dg_c 30 rfl rfl (dg_c 31 rfl rfl gl_X0_pullInTruth_X20)))))))))))))))
set_option maxRecDepth 20000 in
theorem gX0_pullInTruth_X2_waysAt : GoodIn wsX0_pullInTruth (wsV RX0 89 RX2 yX2_waysAt wsX2_waysAt) := goodIn_app (dg_c 14 rfl rfl (dg_c 15 rfl rfl (dg_c 16 rfl rfl (dg_c 17 rfl rfl dg_0)))) ggX0_pullInTruth_X2_waysAt
set_option maxRecDepth 20000 in
theorem ggX0_pullInTruth_X2_shallower : GoodIn wsX0_pullInTruth wsX2_shallower := (dg_c 35 rfl rfl (dg_c 24 rfl rfl (dg_c 25 rfl rfl (dg_c 22 rfl rfl (dg_c 26 rfl rfl (dg_c 36 rfl rfl (dg_c 37 rfl rfl (dg_c 38 rfl rfl (dg_c 17 rfl rfl (dg_c 39 rfl rfl (dg_c 19 rfl rfl (dg_c 31 rfl rfl gl_X0_pullInTruth_X20))))))))))))
set_option maxRecDepth 20000 in
theorem gX0_pullInTruth_X2_shallower : GoodIn wsX0_pullInTruth (wsV RX0 93 RX2 yX2_shallower wsX2_shallower) := goodIn_app (dg_c 32 rfl rfl (dg_c 33 rfl rfl (dg_c 34 rfl rfl (dg_c 17 rfl rfl dg_0)))) ggX0_pullInTruth_X2_shallower
set_option maxRecDepth 20000 in
theorem ggX0_pullInTruth_X2_deeper : GoodIn wsX0_pullInTruth wsX2_deeper := (dg_c 43 rfl rfl (dg_c 19 rfl rfl (dg_c 31 rfl rfl (dg_c 20 rfl rfl (dg_c 21 rfl rfl (dg_c 22 rfl rfl (dg_c 23 rfl rfl gl_X0_pullInTruth_X20)))))))
set_option maxRecDepth 20000 in
theorem gX0_pullInTruth_X2_deeper : GoodIn wsX0_pullInTruth (wsV RX0 96 RX2 yX2_deeper wsX2_deeper) := goodIn_app (dg_c 40 rfl rfl (dg_c 41 rfl rfl (dg_c 42 rfl rfl (dg_c 17 rfl rfl dg_0)))) ggX0_pullInTruth_X2_deeper
theorem dX0_pullInTruth_0 : decode cX0_pullInTruth 0 = .ok (.aload_n 0, 1) := dq_42 dp_cX0_pullInTruth rfl
theorem dX0_pullInTruth_1 : decode cX0_pullInTruth 1 = .ok (.bipush 12, 2) := dq_16 (v := 12) dp_cX0_pullInTruth rfl rfl
theorem dX0_pullInTruth_3 : decode cX0_pullInTruth 3 = .ok (.invokevirtual 85, 3) := dq_182 dp_cX0_pullInTruth rfl
theorem dX0_pullInTruth_6 : decode cX0_pullInTruth 6 = .ok (.aload_n 1, 1) := dq_43 dp_cX0_pullInTruth rfl
theorem dX0_pullInTruth_7 : decode cX0_pullInTruth 7 = .ok (.aload_n 0, 1) := dq_42 dp_cX0_pullInTruth rfl
theorem dX0_pullInTruth_8 : decode cX0_pullInTruth 8 = .ok (.getfield 32, 3) := dq_180 dp_cX0_pullInTruth rfl
theorem dX0_pullInTruth_11 : decode cX0_pullInTruth 11 = .ok (.aload_n 0, 1) := dq_42 dp_cX0_pullInTruth rfl
theorem dX0_pullInTruth_12 : decode cX0_pullInTruth 12 = .ok (.getfield 41, 3) := dq_180 dp_cX0_pullInTruth rfl
theorem dX0_pullInTruth_15 : decode cX0_pullInTruth 15 = .ok (.invokevirtual 89, 3) := dq_182 dp_cX0_pullInTruth rfl
theorem dX0_pullInTruth_18 : decode cX0_pullInTruth 18 = .ok (.if_icmp .ge 7, 3) := dq_162 (v := 7) dp_cX0_pullInTruth rfl rfl
theorem dX0_pullInTruth_21 : decode cX0_pullInTruth 21 = .ok (.iconst 1, 1) := dq_4 dp_cX0_pullInTruth rfl
theorem dX0_pullInTruth_22 : decode cX0_pullInTruth 22 = .ok (.goto 4, 3) := dq_167 (v := 4) dp_cX0_pullInTruth rfl rfl
theorem dX0_pullInTruth_25 : decode cX0_pullInTruth 25 = .ok (.iconst 0, 1) := dq_3 dp_cX0_pullInTruth rfl
theorem dX0_pullInTruth_26 : decode cX0_pullInTruth 26 = .ok (.istore_n 2, 1) := dq_61 dp_cX0_pullInTruth rfl
theorem dX0_pullInTruth_27 : decode cX0_pullInTruth 27 = .ok (.aload_n 0, 1) := dq_42 dp_cX0_pullInTruth rfl
theorem dX0_pullInTruth_28 : decode cX0_pullInTruth 28 = .ok (.iload_n 2, 1) := dq_28 dp_cX0_pullInTruth rfl
theorem dX0_pullInTruth_29 : decode cX0_pullInTruth 29 = .ok (.ifCond .eq 14, 3) := dq_153 (v := 14) dp_cX0_pullInTruth rfl rfl
theorem dX0_pullInTruth_32 : decode cX0_pullInTruth 32 = .ok (.aload_n 1, 1) := dq_43 dp_cX0_pullInTruth rfl
theorem dX0_pullInTruth_33 : decode cX0_pullInTruth 33 = .ok (.aload_n 0, 1) := dq_42 dp_cX0_pullInTruth rfl
theorem dX0_pullInTruth_34 : decode cX0_pullInTruth 34 = .ok (.getfield 32, 3) := dq_180 dp_cX0_pullInTruth rfl
theorem dX0_pullInTruth_37 : decode cX0_pullInTruth 37 = .ok (.invokevirtual 93, 3) := dq_182 dp_cX0_pullInTruth rfl
theorem dX0_pullInTruth_40 : decode cX0_pullInTruth 40 = .ok (.goto 15, 3) := dq_167 (v := 15) dp_cX0_pullInTruth rfl rfl
theorem dX0_pullInTruth_43 : decode cX0_pullInTruth 43 = .ok (.aload_n 1, 1) := dq_43 dp_cX0_pullInTruth rfl
theorem dX0_pullInTruth_44 : decode cX0_pullInTruth 44 = .ok (.aload_n 0, 1) := dq_42 dp_cX0_pullInTruth rfl
theorem dX0_pullInTruth_45 : decode cX0_pullInTruth 45 = .ok (.getfield 32, 3) := dq_180 dp_cX0_pullInTruth rfl
theorem dX0_pullInTruth_48 : decode cX0_pullInTruth 48 = .ok (.aload_n 0, 1) := dq_42 dp_cX0_pullInTruth rfl
theorem dX0_pullInTruth_49 : decode cX0_pullInTruth 49 = .ok (.getfield 41, 3) := dq_180 dp_cX0_pullInTruth rfl
theorem dX0_pullInTruth_52 : decode cX0_pullInTruth 52 = .ok (.invokevirtual 96, 3) := dq_182 dp_cX0_pullInTruth rfl
theorem dX0_pullInTruth_55 : decode cX0_pullInTruth 55 = .ok (.putfield 32, 3) := dq_181 dp_cX0_pullInTruth rfl
theorem dX0_pullInTruth_58 : decode cX0_pullInTruth 58 = .ok (.aload_n 0, 1) := dq_42 dp_cX0_pullInTruth rfl
theorem dX0_pullInTruth_59 : decode cX0_pullInTruth 59 = .ok (.dup, 1) := dq_89 dp_cX0_pullInTruth rfl
theorem dX0_pullInTruth_60 : decode cX0_pullInTruth 60 = .ok (.getfield 38, 3) := dq_180 dp_cX0_pullInTruth rfl
theorem dX0_pullInTruth_63 : decode cX0_pullInTruth 63 = .ok (.aload_n 1, 1) := dq_43 dp_cX0_pullInTruth rfl
theorem dX0_pullInTruth_64 : decode cX0_pullInTruth 64 = .ok (.getfield 99, 3) := dq_180 dp_cX0_pullInTruth rfl
theorem dX0_pullInTruth_67 : decode cX0_pullInTruth 67 = .ok (.isub, 1) := dq_100 dp_cX0_pullInTruth rfl
theorem dX0_pullInTruth_68 : decode cX0_pullInTruth 68 = .ok (.putfield 38, 3) := dq_181 dp_cX0_pullInTruth rfl
theorem dX0_pullInTruth_71 : decode cX0_pullInTruth 71 = .ok (.aload_n 1, 1) := dq_43 dp_cX0_pullInTruth rfl
theorem dX0_pullInTruth_72 : decode cX0_pullInTruth 72 = .ok (.getfield 102, 3) := dq_180 dp_cX0_pullInTruth rfl
theorem dX0_pullInTruth_75 : decode cX0_pullInTruth 75 = .ok (.iconst 5, 1) := dq_8 dp_cX0_pullInTruth rfl
theorem dX0_pullInTruth_76 : decode cX0_pullInTruth 76 = .ok (.if_icmp .ne 13, 3) := dq_160 (v := 13) dp_cX0_pullInTruth rfl rfl
theorem dX0_pullInTruth_79 : decode cX0_pullInTruth 79 = .ok (.aload_n 0, 1) := dq_42 dp_cX0_pullInTruth rfl
theorem dX0_pullInTruth_80 : decode cX0_pullInTruth 80 = .ok (.dup, 1) := dq_89 dp_cX0_pullInTruth rfl
theorem dX0_pullInTruth_81 : decode cX0_pullInTruth 81 = .ok (.getfield 35, 3) := dq_180 dp_cX0_pullInTruth rfl
theorem dX0_pullInTruth_84 : decode cX0_pullInTruth 84 = .ok (.iconst 1, 1) := dq_4 dp_cX0_pullInTruth rfl
theorem dX0_pullInTruth_85 : decode cX0_pullInTruth 85 = .ok (.iadd, 1) := dq_96 dp_cX0_pullInTruth rfl
theorem dX0_pullInTruth_86 : decode cX0_pullInTruth 86 = .ok (.putfield 35, 3) := dq_181 dp_cX0_pullInTruth rfl
theorem dX0_pullInTruth_89 : decode cX0_pullInTruth 89 = .ok (.return_, 1) := dq_177 dp_cX0_pullInTruth rfl
set_option maxRecDepth 20000 in
theorem gl_X0_closeInTruth_X60 : GoodIn wsX0_closeInTruth wsX60 := (dg_t (dg_r gw_wsX60))
theorem ggX0_closeInTruth_X6_catchesAt : GoodIn wsX0_closeInTruth wsX6_catchesAt := (dg_c 11 rfl rfl (dg_c 12 rfl rfl (dg_c 13 rfl rfl (dg_c 14 rfl rfl (dg_c 15 rfl rfl (dg_c 16 rfl rfl (dg_c 17 rfl rfl (dg_c 10 rfl rfl (dg_c 18 rfl rfl (dg_c 19 rfl rfl gl_X0_closeInTruth_X60))))))))))
set_option maxRecDepth 20000 in
theorem gX0_closeInTruth_X6_catchesAt : GoodIn wsX0_closeInTruth (wsV RX0 105 RX6 yX6_catchesAt wsX6_catchesAt) := goodIn_app (dg_c 7 rfl rfl (dg_c 8 rfl rfl (dg_c 9 rfl rfl (dg_c 10 rfl rfl dg_0)))) ggX0_closeInTruth_X6_catchesAt
set_option maxRecDepth 20000 in
theorem gl_X0_closeInTruth_X00 : GoodIn wsX0_closeInTruth wsX00 := (dg_t (dg_l (dg_r gw_wsX00)))
theorem ggX0_closeInTruth_X0_draw : GoodIn wsX0_closeInTruth wsX0_draw := (dg_c 24 rfl rfl (dg_c 25 rfl rfl (dg_c 26 rfl rfl gl_X0_closeInTruth_X00)))
set_option maxRecDepth 20000 in
theorem gX0_closeInTruth_X0_draw : GoodIn wsX0_closeInTruth (wsV RX0 85 RX0 yX0_draw wsX0_draw) := goodIn_app (dg_c 20 rfl rfl (dg_c 21 rfl rfl (dg_c 22 rfl rfl (dg_c 23 rfl rfl dg_0)))) ggX0_closeInTruth_X0_draw
set_option maxRecDepth 20000 in
theorem ggX0_closeInTruth_X6_lacksThreeFrom : GoodIn wsX0_closeInTruth wsX6_lacksThreeFrom := (dg_c 30 rfl rfl (dg_c 31 rfl rfl (dg_c 32 rfl rfl (dg_c 33 rfl rfl (dg_c 10 rfl rfl (dg_c 34 rfl rfl (dg_c 12 rfl rfl (dg_c 15 rfl rfl (dg_c 16 rfl rfl (dg_c 17 rfl rfl (dg_c 18 rfl rfl (dg_c 19 rfl rfl gl_X0_closeInTruth_X60))))))))))))
set_option maxRecDepth 20000 in
theorem gX0_closeInTruth_X6_lacksThreeFrom : GoodIn wsX0_closeInTruth (wsV RX0 112 RX6 yX6_lacksThreeFrom wsX6_lacksThreeFrom) := goodIn_app (dg_c 27 rfl rfl (dg_c 28 rfl rfl (dg_c 29 rfl rfl (dg_c 10 rfl rfl dg_0)))) ggX0_closeInTruth_X6_lacksThreeFrom
theorem dX0_closeInTruth_0 : decode cX0_closeInTruth 0 = .ok (.aload_n 0, 1) := dq_42 dp_cX0_closeInTruth rfl
theorem dX0_closeInTruth_1 : decode cX0_closeInTruth 1 = .ok (.getfield 12, 3) := dq_180 dp_cX0_closeInTruth rfl
theorem dX0_closeInTruth_4 : decode cX0_closeInTruth 4 = .ok (.getfield 63, 3) := dq_180 dp_cX0_closeInTruth rfl
theorem dX0_closeInTruth_7 : decode cX0_closeInTruth 7 = .ok (.istore_n 1, 1) := dq_60 dp_cX0_closeInTruth rfl
theorem dX0_closeInTruth_8 : decode cX0_closeInTruth 8 = .ok (.iload_n 1, 1) := dq_27 dp_cX0_closeInTruth rfl
theorem dX0_closeInTruth_9 : decode cX0_closeInTruth 9 = .ok (.aload_n 0, 1) := dq_42 dp_cX0_closeInTruth rfl
theorem dX0_closeInTruth_10 : decode cX0_closeInTruth 10 = .ok (.getfield 12, 3) := dq_180 dp_cX0_closeInTruth rfl
theorem dX0_closeInTruth_13 : decode cX0_closeInTruth 13 = .ok (.getfield 57, 3) := dq_180 dp_cX0_closeInTruth rfl
theorem dX0_closeInTruth_16 : decode cX0_closeInTruth 16 = .ok (.if_icmp .ge 81, 3) := dq_162 (v := 81) dp_cX0_closeInTruth rfl rfl
theorem dX0_closeInTruth_19 : decode cX0_closeInTruth 19 = .ok (.aload_n 0, 1) := dq_42 dp_cX0_closeInTruth rfl
theorem dX0_closeInTruth_20 : decode cX0_closeInTruth 20 = .ok (.getfield 12, 3) := dq_180 dp_cX0_closeInTruth rfl
theorem dX0_closeInTruth_23 : decode cX0_closeInTruth 23 = .ok (.iload_n 1, 1) := dq_27 dp_cX0_closeInTruth rfl
theorem dX0_closeInTruth_24 : decode cX0_closeInTruth 24 = .ok (.putfield 63, 3) := dq_181 dp_cX0_closeInTruth rfl
theorem dX0_closeInTruth_27 : decode cX0_closeInTruth 27 = .ok (.aload_n 0, 1) := dq_42 dp_cX0_closeInTruth rfl
theorem dX0_closeInTruth_28 : decode cX0_closeInTruth 28 = .ok (.getfield 12, 3) := dq_180 dp_cX0_closeInTruth rfl
theorem dX0_closeInTruth_31 : decode cX0_closeInTruth 31 = .ok (.iload_n 1, 1) := dq_27 dp_cX0_closeInTruth rfl
theorem dX0_closeInTruth_32 : decode cX0_closeInTruth 32 = .ok (.invokevirtual 105, 3) := dq_182 dp_cX0_closeInTruth rfl
theorem dX0_closeInTruth_35 : decode cX0_closeInTruth 35 = .ok (.ifCond .eq 44, 3) := dq_153 (v := 44) dp_cX0_closeInTruth rfl rfl
theorem dX0_closeInTruth_38 : decode cX0_closeInTruth 38 = .ok (.aload_n 0, 1) := dq_42 dp_cX0_closeInTruth rfl
theorem dX0_closeInTruth_39 : decode cX0_closeInTruth 39 = .ok (.bipush 10, 2) := dq_16 (v := 10) dp_cX0_closeInTruth rfl rfl
theorem dX0_closeInTruth_41 : decode cX0_closeInTruth 41 = .ok (.invokevirtual 85, 3) := dq_182 dp_cX0_closeInTruth rfl
theorem dX0_closeInTruth_44 : decode cX0_closeInTruth 44 = .ok (.aload_n 0, 1) := dq_42 dp_cX0_closeInTruth rfl
theorem dX0_closeInTruth_45 : decode cX0_closeInTruth 45 = .ok (.getfield 12, 3) := dq_180 dp_cX0_closeInTruth rfl
theorem dX0_closeInTruth_48 : decode cX0_closeInTruth 48 = .ok (.getfield 109, 3) := dq_180 dp_cX0_closeInTruth rfl
theorem dX0_closeInTruth_51 : decode cX0_closeInTruth 51 = .ok (.iload_n 1, 1) := dq_27 dp_cX0_closeInTruth rfl
theorem dX0_closeInTruth_52 : decode cX0_closeInTruth 52 = .ok (.iaload, 1) := dq_46 dp_cX0_closeInTruth rfl
theorem dX0_closeInTruth_53 : decode cX0_closeInTruth 53 = .ok (.aload_n 0, 1) := dq_42 dp_cX0_closeInTruth rfl
theorem dX0_closeInTruth_54 : decode cX0_closeInTruth 54 = .ok (.getfield 12, 3) := dq_180 dp_cX0_closeInTruth rfl
theorem dX0_closeInTruth_57 : decode cX0_closeInTruth 57 = .ok (.getfield 60, 3) := dq_180 dp_cX0_closeInTruth rfl
theorem dX0_closeInTruth_60 : decode cX0_closeInTruth 60 = .ok (.isub, 1) := dq_100 dp_cX0_closeInTruth rfl
theorem dX0_closeInTruth_61 : decode cX0_closeInTruth 61 = .ok (.iconst 1, 1) := dq_4 dp_cX0_closeInTruth rfl
theorem dX0_closeInTruth_62 : decode cX0_closeInTruth 62 = .ok (.iadd, 1) := dq_96 dp_cX0_closeInTruth rfl
theorem dX0_closeInTruth_63 : decode cX0_closeInTruth 63 = .ok (.if_icmp .ge 16, 3) := dq_162 (v := 16) dp_cX0_closeInTruth rfl rfl
theorem dX0_closeInTruth_66 : decode cX0_closeInTruth 66 = .ok (.aload_n 0, 1) := dq_42 dp_cX0_closeInTruth rfl
theorem dX0_closeInTruth_67 : decode cX0_closeInTruth 67 = .ok (.iconst 1, 1) := dq_4 dp_cX0_closeInTruth rfl
theorem dX0_closeInTruth_68 : decode cX0_closeInTruth 68 = .ok (.aload_n 0, 1) := dq_42 dp_cX0_closeInTruth rfl
theorem dX0_closeInTruth_69 : decode cX0_closeInTruth 69 = .ok (.bipush 6, 2) := dq_16 (v := 6) dp_cX0_closeInTruth rfl rfl
theorem dX0_closeInTruth_71 : decode cX0_closeInTruth 71 = .ok (.invokevirtual 85, 3) := dq_182 dp_cX0_closeInTruth rfl
theorem dX0_closeInTruth_74 : decode cX0_closeInTruth 74 = .ok (.iadd, 1) := dq_96 dp_cX0_closeInTruth rfl
theorem dX0_closeInTruth_75 : decode cX0_closeInTruth 75 = .ok (.putfield 32, 3) := dq_181 dp_cX0_closeInTruth rfl
theorem dX0_closeInTruth_78 : decode cX0_closeInTruth 78 = .ok (.return_, 1) := dq_177 dp_cX0_closeInTruth rfl
theorem dX0_closeInTruth_79 : decode cX0_closeInTruth 79 = .ok (.aload_n 0, 1) := dq_42 dp_cX0_closeInTruth rfl
theorem dX0_closeInTruth_80 : decode cX0_closeInTruth 80 = .ok (.getfield 12, 3) := dq_180 dp_cX0_closeInTruth rfl
theorem dX0_closeInTruth_83 : decode cX0_closeInTruth 83 = .ok (.iload_n 1, 1) := dq_27 dp_cX0_closeInTruth rfl
theorem dX0_closeInTruth_84 : decode cX0_closeInTruth 84 = .ok (.invokevirtual 112, 3) := dq_182 dp_cX0_closeInTruth rfl
theorem dX0_closeInTruth_87 : decode cX0_closeInTruth 87 = .ok (.ifCond .eq 4, 3) := dq_153 (v := 4) dp_cX0_closeInTruth rfl rfl
theorem dX0_closeInTruth_90 : decode cX0_closeInTruth 90 = .ok (.return_, 1) := dq_177 dp_cX0_closeInTruth rfl
theorem dX0_closeInTruth_91 : decode cX0_closeInTruth 91 = .ok (.iinc 1 1, 3) := dq_132 (v := 1) dp_cX0_closeInTruth rfl (by decide) rfl
theorem dX0_closeInTruth_94 : decode cX0_closeInTruth 94 = .ok (.goto (-86), 3) := dq_167 (v := 65450) dp_cX0_closeInTruth rfl rfl
theorem dX0_closeInTruth_97 : decode cX0_closeInTruth 97 = .ok (.aload_n 0, 1) := dq_42 dp_cX0_closeInTruth rfl
theorem dX0_closeInTruth_98 : decode cX0_closeInTruth 98 = .ok (.getfield 12, 3) := dq_180 dp_cX0_closeInTruth rfl
theorem dX0_closeInTruth_101 : decode cX0_closeInTruth 101 = .ok (.aload_n 0, 1) := dq_42 dp_cX0_closeInTruth rfl
theorem dX0_closeInTruth_102 : decode cX0_closeInTruth 102 = .ok (.getfield 12, 3) := dq_180 dp_cX0_closeInTruth rfl
theorem dX0_closeInTruth_105 : decode cX0_closeInTruth 105 = .ok (.getfield 57, 3) := dq_180 dp_cX0_closeInTruth rfl
theorem dX0_closeInTruth_108 : decode cX0_closeInTruth 108 = .ok (.putfield 63, 3) := dq_181 dp_cX0_closeInTruth rfl
theorem dX0_closeInTruth_111 : decode cX0_closeInTruth 111 = .ok (.return_, 1) := dq_177 dp_cX0_closeInTruth rfl
end
