def wsX5_next_r1 : List Cond := (Cond.fieldLink RX5 27 "TheLiningsInIt$Ways" "count" "I") :: (Cond.methodLink RX5 82 yX5_mayBeAt) :: (Cond.instanceMethod yX5_mayBeAt) :: (Cond.selects RX5 yX5_mayBeAt yX5_mayBeAt) :: (Cond.initialized RX5) :: (Cond.code yX5_mayBeAt cX5_mayBeAt 5 (some (.object "TheLiningsInIt$Pull"))) :: (Cond.fieldLink RX5 23 "TheLiningsInIt$Ways" "pulls" "[LTheLiningsInIt$Pull;") :: (Cond.static yX7_within) :: (Cond.initialized RX7) :: (Cond.code yX7_within cX7_within 3 (some .boolean)) :: (Cond.methodLink RX5 75 yX2_mayBe) :: (Cond.instanceMethod yX2_mayBe) :: (Cond.selects RX2 yX2_mayBe yX2_mayBe) :: (Cond.initialized RX2) :: (Cond.code yX2_mayBe cX2_mayBe 3 (some .boolean)) :: (Cond.fieldLink RX2 18 "TheLiningsInIt$Pull" "takes" "I") :: (Cond.methodLink RX5 86 yX5_mostBy) :: (Cond.instanceMethod yX5_mostBy) :: (Cond.selects RX5 yX5_mostBy yX5_mostBy) :: (Cond.code yX5_mostBy cX5_mostBy 8 (some .int)) :: (Cond.fieldLink RX5 31 "TheLiningsInIt$Ways" "hurry" "I") :: (Cond.fieldLink RX5 49 "TheLiningsInIt$Pull" "takes" "I") :: (Cond.methodLink RX5 90 yX2_waysAt) :: (Cond.instanceMethod yX2_waysAt) :: []
def wsX5_next_r2 : List Cond := (Cond.selects RX2 yX2_waysAt yX2_waysAt) :: (Cond.code yX2_waysAt cX2_waysAt 3 (some .int)) :: (Cond.fieldLink RX2 9 "TheLiningsInIt$Pull" "kind" "I") :: (Cond.methodLink RX2 33 Lib.Math.min.name) :: (Cond.static Lib.Math.min.name) :: (Cond.initialized "java/lang/Math") :: (Cond.code Lib.Math.min.name Lib.Math.min.code 2 (some .int)) :: (Cond.methodLink RX2 39 Lib.Math.max.name) :: (Cond.static Lib.Math.max.name) :: (Cond.code Lib.Math.max.name Lib.Math.max.code 2 (some .int)) :: (Cond.methodLink RX2 29 yX2_calmWaysAt) :: (Cond.instanceMethod yX2_calmWaysAt) :: (Cond.selects RX2 yX2_calmWaysAt yX2_calmWaysAt) :: (Cond.code yX2_calmWaysAt cX2_calmWaysAt 2 (some .int)) :: (Cond.fieldLink RX2 15 "TheLiningsInIt$Pull" "a" "I") :: (Cond.methodLink RX5 93 yX2_shallower) :: (Cond.instanceMethod yX2_shallower) :: (Cond.selects RX2 yX2_shallower yX2_shallower) :: (Cond.code yX2_shallower cX2_shallower 2 (some .int)) :: (Cond.methodLink RX2 42 yX2_step) :: (Cond.instanceMethod yX2_step) :: (Cond.selects RX2 yX2_step yX2_step) :: (Cond.code yX2_step cX2_step 1 (some .int)) :: (Cond.methodLink RX5 97 yX5_most) :: []
def wsX5_next_r3 : List Cond := (Cond.instanceMethod yX5_most) :: (Cond.selects RX5 yX5_most yX5_most) :: (Cond.methodLink RX5 101 yX2_deeper) :: (Cond.instanceMethod yX2_deeper) :: (Cond.selects RX2 yX2_deeper yX2_deeper) :: (Cond.code yX2_deeper cX2_deeper 4 (some .int)) :: (Cond.code yX5_most cX5_most 9 (some .int)) :: (Cond.fieldLink RX5 79 "TheLiningsInIt$Ways" "POWERS" "[I") :: (Cond.fieldLink RX5 34 "TheLiningsInIt$Ways" "longest" "I") :: (Cond.fieldLink RX5 9 "TheLiningsInIt$Ways" "knownMost" "[I") :: (Cond.methodLink RX5 52 Lib.Math.max.name) :: []
def wsX5_next : List Cond := (.code yX5_next cX5_next 9 (some .int)) :: ((wsX5_next_r1 ++ (wsX5_next_r2 ++ wsX5_next_r3)) ++ wsX50 ++ wsX20)
def wsX5_least_r1 : List Cond := (Cond.fieldLink RX5 34 "TheLiningsInIt$Ways" "longest" "I") :: (Cond.fieldLink RX5 15 "TheLiningsInIt$Ways" "knownLeast" "[I") :: (Cond.fieldLink RX5 27 "TheLiningsInIt$Ways" "count" "I") :: (Cond.methodLink RX5 110 Lib.Math.min.name) :: (Cond.static Lib.Math.min.name) :: (Cond.initialized "java/lang/Math") :: (Cond.code Lib.Math.min.name Lib.Math.min.code 2 (some .int)) :: (Cond.methodLink RX5 104 yX5_leastAtOnce) :: (Cond.instanceMethod yX5_leastAtOnce) :: (Cond.selects RX5 yX5_leastAtOnce yX5_leastAtOnce) :: (Cond.initialized RX5) :: (Cond.code yX5_leastAtOnce cX5_leastAtOnce 3 (some .int)) :: (Cond.fieldLink RX5 79 "TheLiningsInIt$Ways" "POWERS" "[I") :: (Cond.fieldLink RX5 18 "TheLiningsInIt$Ways" "costs" "[I") :: (Cond.methodLink RX5 113 yX5_headIsCheapest) :: (Cond.instanceMethod yX5_headIsCheapest) :: (Cond.selects RX5 yX5_headIsCheapest yX5_headIsCheapest) :: (Cond.code yX5_headIsCheapest cX5_headIsCheapest 2 (some .boolean)) :: (Cond.methodLink RX5 82 yX5_mayBeAt) :: (Cond.instanceMethod yX5_mayBeAt) :: (Cond.selects RX5 yX5_mayBeAt yX5_mayBeAt) :: (Cond.code yX5_mayBeAt cX5_mayBeAt 5 (some (.object "TheLiningsInIt$Pull"))) :: (Cond.fieldLink RX5 23 "TheLiningsInIt$Ways" "pulls" "[LTheLiningsInIt$Pull;") :: (Cond.static yX7_within) :: []
def wsX5_least_r2 : List Cond := (Cond.initialized RX7) :: (Cond.code yX7_within cX7_within 3 (some .boolean)) :: (Cond.methodLink RX5 75 yX2_mayBe) :: (Cond.instanceMethod yX2_mayBe) :: (Cond.selects RX2 yX2_mayBe yX2_mayBe) :: (Cond.initialized RX2) :: (Cond.code yX2_mayBe cX2_mayBe 3 (some .boolean)) :: (Cond.fieldLink RX2 18 "TheLiningsInIt$Pull" "takes" "I") :: (Cond.methodLink RX5 107 yX5_leastBy) :: (Cond.instanceMethod yX5_leastBy) :: (Cond.selects RX5 yX5_leastBy yX5_leastBy) :: (Cond.code yX5_leastBy cX5_leastBy 8 (some .int)) :: (Cond.fieldLink RX5 31 "TheLiningsInIt$Ways" "hurry" "I") :: (Cond.fieldLink RX5 49 "TheLiningsInIt$Pull" "takes" "I") :: (Cond.fieldLink RX5 46 "TheLiningsInIt$Pull" "kind" "I") :: (Cond.methodLink RX5 90 yX2_waysAt) :: (Cond.instanceMethod yX2_waysAt) :: (Cond.selects RX2 yX2_waysAt yX2_waysAt) :: (Cond.code yX2_waysAt cX2_waysAt 3 (some .int)) :: (Cond.fieldLink RX2 9 "TheLiningsInIt$Pull" "kind" "I") :: (Cond.methodLink RX2 33 Lib.Math.min.name) :: (Cond.methodLink RX2 39 Lib.Math.max.name) :: (Cond.static Lib.Math.max.name) :: (Cond.code Lib.Math.max.name Lib.Math.max.code 2 (some .int)) :: []
def wsX5_least_r3 : List Cond := (Cond.methodLink RX2 29 yX2_calmWaysAt) :: (Cond.instanceMethod yX2_calmWaysAt) :: (Cond.selects RX2 yX2_calmWaysAt yX2_calmWaysAt) :: (Cond.code yX2_calmWaysAt cX2_calmWaysAt 2 (some .int)) :: (Cond.fieldLink RX2 15 "TheLiningsInIt$Pull" "a" "I") :: (Cond.methodLink RX5 93 yX2_shallower) :: (Cond.instanceMethod yX2_shallower) :: (Cond.selects RX2 yX2_shallower yX2_shallower) :: (Cond.code yX2_shallower cX2_shallower 2 (some .int)) :: (Cond.methodLink RX2 42 yX2_step) :: (Cond.instanceMethod yX2_step) :: (Cond.selects RX2 yX2_step yX2_step) :: (Cond.code yX2_step cX2_step 1 (some .int)) :: (Cond.methodLink RX5 117 yX5_least) :: (Cond.instanceMethod yX5_least) :: (Cond.selects RX5 yX5_least yX5_least) :: (Cond.methodLink RX5 101 yX2_deeper) :: (Cond.instanceMethod yX2_deeper) :: (Cond.selects RX2 yX2_deeper yX2_deeper) :: (Cond.code yX2_deeper cX2_deeper 4 (some .int)) :: []
def wsX5_least : List Cond := (.code yX5_least cX5_least 9 (some .int)) :: ((wsX5_least_r1 ++ (wsX5_least_r2 ++ wsX5_least_r3)) ++ wsX50 ++ wsX20)
def wsX5_leastBy_r1 : List Cond := (Cond.fieldLink RX5 31 "TheLiningsInIt$Ways" "hurry" "I") :: (Cond.fieldLink RX5 49 "TheLiningsInIt$Pull" "takes" "I") :: (Cond.fieldLink RX5 46 "TheLiningsInIt$Pull" "kind" "I") :: (Cond.fieldLink RX5 79 "TheLiningsInIt$Ways" "POWERS" "[I") :: (Cond.fieldLink RX5 18 "TheLiningsInIt$Ways" "costs" "[I") :: (Cond.methodLink RX5 90 yX2_waysAt) :: (Cond.instanceMethod yX2_waysAt) :: (Cond.selects RX2 yX2_waysAt yX2_waysAt) :: (Cond.initialized RX2) :: (Cond.code yX2_waysAt cX2_waysAt 3 (some .int)) :: (Cond.fieldLink RX2 9 "TheLiningsInIt$Pull" "kind" "I") :: (Cond.methodLink RX2 33 Lib.Math.min.name) :: (Cond.static Lib.Math.min.name) :: (Cond.initialized "java/lang/Math") :: (Cond.code Lib.Math.min.name Lib.Math.min.code 2 (some .int)) :: (Cond.methodLink RX2 39 Lib.Math.max.name) :: (Cond.static Lib.Math.max.name) :: (Cond.code Lib.Math.max.name Lib.Math.max.code 2 (some .int)) :: (Cond.methodLink RX2 29 yX2_calmWaysAt) :: (Cond.instanceMethod yX2_calmWaysAt) :: (Cond.selects RX2 yX2_calmWaysAt yX2_calmWaysAt) :: (Cond.code yX2_calmWaysAt cX2_calmWaysAt 2 (some .int)) :: (Cond.fieldLink RX2 15 "TheLiningsInIt$Pull" "a" "I") :: (Cond.methodLink RX5 93 yX2_shallower) :: []
def wsX5_leastBy_r2 : List Cond := (Cond.instanceMethod yX2_shallower) :: (Cond.selects RX2 yX2_shallower yX2_shallower) :: (Cond.code yX2_shallower cX2_shallower 2 (some .int)) :: (Cond.methodLink RX2 42 yX2_step) :: (Cond.instanceMethod yX2_step) :: (Cond.selects RX2 yX2_step yX2_step) :: (Cond.code yX2_step cX2_step 1 (some .int)) :: (Cond.methodLink RX5 117 yX5_least) :: (Cond.instanceMethod yX5_least) :: (Cond.selects RX5 yX5_least yX5_least) :: (Cond.initialized RX5) :: (Cond.methodLink RX5 101 yX2_deeper) :: (Cond.instanceMethod yX2_deeper) :: (Cond.selects RX2 yX2_deeper yX2_deeper) :: (Cond.code yX2_deeper cX2_deeper 4 (some .int)) :: (Cond.code yX5_least cX5_least 9 (some .int)) :: (Cond.fieldLink RX5 34 "TheLiningsInIt$Ways" "longest" "I") :: (Cond.fieldLink RX5 15 "TheLiningsInIt$Ways" "knownLeast" "[I") :: (Cond.fieldLink RX5 27 "TheLiningsInIt$Ways" "count" "I") :: (Cond.methodLink RX5 110 Lib.Math.min.name) :: (Cond.methodLink RX5 104 yX5_leastAtOnce) :: (Cond.instanceMethod yX5_leastAtOnce) :: (Cond.selects RX5 yX5_leastAtOnce yX5_leastAtOnce) :: (Cond.code yX5_leastAtOnce cX5_leastAtOnce 3 (some .int)) :: []
def wsX5_leastBy_r3 : List Cond := (Cond.methodLink RX5 113 yX5_headIsCheapest) :: (Cond.instanceMethod yX5_headIsCheapest) :: (Cond.selects RX5 yX5_headIsCheapest yX5_headIsCheapest) :: (Cond.code yX5_headIsCheapest cX5_headIsCheapest 2 (some .boolean)) :: (Cond.methodLink RX5 82 yX5_mayBeAt) :: (Cond.instanceMethod yX5_mayBeAt) :: (Cond.selects RX5 yX5_mayBeAt yX5_mayBeAt) :: (Cond.code yX5_mayBeAt cX5_mayBeAt 5 (some (.object "TheLiningsInIt$Pull"))) :: (Cond.fieldLink RX5 23 "TheLiningsInIt$Ways" "pulls" "[LTheLiningsInIt$Pull;") :: (Cond.static yX7_within) :: (Cond.initialized RX7) :: (Cond.code yX7_within cX7_within 3 (some .boolean)) :: (Cond.methodLink RX5 75 yX2_mayBe) :: (Cond.instanceMethod yX2_mayBe) :: (Cond.selects RX2 yX2_mayBe yX2_mayBe) :: (Cond.code yX2_mayBe cX2_mayBe 3 (some .boolean)) :: (Cond.fieldLink RX2 18 "TheLiningsInIt$Pull" "takes" "I") :: (Cond.methodLink RX5 107 yX5_leastBy) :: (Cond.instanceMethod yX5_leastBy) :: (Cond.selects RX5 yX5_leastBy yX5_leastBy) :: []
def wsX5_leastBy : List Cond := (.code yX5_leastBy cX5_leastBy 8 (some .int)) :: ((wsX5_leastBy_r1 ++ (wsX5_leastBy_r2 ++ wsX5_leastBy_r3)) ++ wsX50 ++ wsX20)
def wsX5_first_r1 : List Cond := (Cond.fieldLink RX5 27 "TheLiningsInIt$Ways" "count" "I") :: (Cond.methodLink RX5 117 yX5_least) :: (Cond.instanceMethod yX5_least) :: (Cond.selects RX5 yX5_least yX5_least) :: (Cond.initialized RX5) :: (Cond.code yX5_least cX5_least 9 (some .int)) :: (Cond.fieldLink RX5 34 "TheLiningsInIt$Ways" "longest" "I") :: (Cond.fieldLink RX5 15 "TheLiningsInIt$Ways" "knownLeast" "[I") :: (Cond.methodLink RX5 110 Lib.Math.min.name) :: (Cond.static Lib.Math.min.name) :: (Cond.initialized "java/lang/Math") :: (Cond.code Lib.Math.min.name Lib.Math.min.code 2 (some .int)) :: (Cond.methodLink RX5 104 yX5_leastAtOnce) :: (Cond.instanceMethod yX5_leastAtOnce) :: (Cond.selects RX5 yX5_leastAtOnce yX5_leastAtOnce) :: (Cond.code yX5_leastAtOnce cX5_leastAtOnce 3 (some .int)) :: (Cond.fieldLink RX5 79 "TheLiningsInIt$Ways" "POWERS" "[I") :: (Cond.fieldLink RX5 18 "TheLiningsInIt$Ways" "costs" "[I") :: (Cond.methodLink RX5 113 yX5_headIsCheapest) :: (Cond.instanceMethod yX5_headIsCheapest) :: (Cond.selects RX5 yX5_headIsCheapest yX5_headIsCheapest) :: (Cond.code yX5_headIsCheapest cX5_headIsCheapest 2 (some .boolean)) :: (Cond.methodLink RX5 82 yX5_mayBeAt) :: (Cond.instanceMethod yX5_mayBeAt) :: []
def wsX5_first_r2 : List Cond := (Cond.selects RX5 yX5_mayBeAt yX5_mayBeAt) :: (Cond.code yX5_mayBeAt cX5_mayBeAt 5 (some (.object "TheLiningsInIt$Pull"))) :: (Cond.fieldLink RX5 23 "TheLiningsInIt$Ways" "pulls" "[LTheLiningsInIt$Pull;") :: (Cond.static yX7_within) :: (Cond.initialized RX7) :: (Cond.code yX7_within cX7_within 3 (some .boolean)) :: (Cond.methodLink RX5 75 yX2_mayBe) :: (Cond.instanceMethod yX2_mayBe) :: (Cond.selects RX2 yX2_mayBe yX2_mayBe) :: (Cond.initialized RX2) :: (Cond.code yX2_mayBe cX2_mayBe 3 (some .boolean)) :: (Cond.fieldLink RX2 18 "TheLiningsInIt$Pull" "takes" "I") :: (Cond.methodLink RX5 107 yX5_leastBy) :: (Cond.instanceMethod yX5_leastBy) :: (Cond.selects RX5 yX5_leastBy yX5_leastBy) :: (Cond.code yX5_leastBy cX5_leastBy 8 (some .int)) :: (Cond.fieldLink RX5 31 "TheLiningsInIt$Ways" "hurry" "I") :: (Cond.fieldLink RX5 49 "TheLiningsInIt$Pull" "takes" "I") :: (Cond.fieldLink RX5 46 "TheLiningsInIt$Pull" "kind" "I") :: (Cond.methodLink RX5 90 yX2_waysAt) :: (Cond.instanceMethod yX2_waysAt) :: (Cond.selects RX2 yX2_waysAt yX2_waysAt) :: (Cond.code yX2_waysAt cX2_waysAt 3 (some .int)) :: (Cond.fieldLink RX2 9 "TheLiningsInIt$Pull" "kind" "I") :: []
def wsX5_first_r3 : List Cond := (Cond.methodLink RX2 33 Lib.Math.min.name) :: (Cond.methodLink RX2 39 Lib.Math.max.name) :: (Cond.static Lib.Math.max.name) :: (Cond.code Lib.Math.max.name Lib.Math.max.code 2 (some .int)) :: (Cond.methodLink RX2 29 yX2_calmWaysAt) :: (Cond.instanceMethod yX2_calmWaysAt) :: (Cond.selects RX2 yX2_calmWaysAt yX2_calmWaysAt) :: (Cond.code yX2_calmWaysAt cX2_calmWaysAt 2 (some .int)) :: (Cond.fieldLink RX2 15 "TheLiningsInIt$Pull" "a" "I") :: (Cond.methodLink RX5 93 yX2_shallower) :: (Cond.instanceMethod yX2_shallower) :: (Cond.selects RX2 yX2_shallower yX2_shallower) :: (Cond.code yX2_shallower cX2_shallower 2 (some .int)) :: (Cond.methodLink RX2 42 yX2_step) :: (Cond.instanceMethod yX2_step) :: (Cond.selects RX2 yX2_step yX2_step) :: (Cond.code yX2_step cX2_step 1 (some .int)) :: (Cond.methodLink RX5 101 yX2_deeper) :: (Cond.instanceMethod yX2_deeper) :: (Cond.selects RX2 yX2_deeper yX2_deeper) :: (Cond.code yX2_deeper cX2_deeper 4 (some .int)) :: []
def wsX5_first : List Cond := (.code yX5_first cX5_first 7 (some .int)) :: ((wsX5_first_r1 ++ (wsX5_first_r2 ++ wsX5_first_r3)) ++ wsX50 ++ wsX20)
set_option maxRecDepth 20000 in
theorem gl_X5_next_X50 : GoodIn wsX5_next wsX50 := (dg_t (dg_l (dg_r gw_wsX50)))
theorem gl_X5_next_X20 : GoodIn wsX5_next wsX20 := (dg_t (dg_r gw_wsX20))
theorem ggX5_next_X5_mayBeAt : GoodIn wsX5_next wsX5_mayBeAt := (dg_c 6 rfl rfl (dg_c 7 rfl rfl (dg_c 8 rfl rfl (dg_c 9 rfl rfl (dg_c 10 rfl rfl (dg_c 11 rfl rfl (dg_c 12 rfl rfl (dg_c 13 rfl rfl (dg_c 14 rfl rfl (dg_c 15 rfl rfl (dg_c 16 rfl rfl (goodIn_app gl_X5_next_X50 gl_X5_next_X20))))))))))))
set_option maxRecDepth 20000 in
theorem gX5_next_X5_mayBeAt : GoodIn wsX5_next (wsV RX5 82 RX5 yX5_mayBeAt wsX5_mayBeAt) := goodIn_app (dg_c 2 rfl rfl (dg_c 3 rfl rfl (dg_c 4 rfl rfl (dg_c 5 rfl rfl dg_0)))) ggX5_next_X5_mayBeAt
set_option maxRecDepth 20000 in
theorem ggX5_next_X5_mostBy : GoodIn wsX5_next wsX5_mostBy := (dg_c 20 rfl rfl (goodIn_app (goodIn_app (goodIn_app (dg_c 21 rfl rfl (dg_c 22 rfl rfl (dg_c 23 rfl rfl (dg_c 24 rfl rfl (dg_c 25 rfl rfl (dg_c 14 rfl rfl (dg_c 26 rfl rfl (dg_c 27 rfl rfl (dg_c 28 rfl rfl (dg_c 29 rfl rfl (dg_c 30 rfl rfl (dg_c 31 rfl rfl (dg_c 32 rfl rfl (dg_c 33 rfl rfl (dg_c 34 rfl rfl (dg_c 35 rfl rfl (dg_c 36 rfl rfl (dg_c 37 rfl rfl (dg_c 38 rfl rfl (dg_c 39 rfl rfl (dg_c 40 rfl rfl (dg_c 41 rfl rfl (dg_c 42 rfl rfl (dg_c 43 rfl rfl dg_0)))))))))))))))))))))))) (goodIn_app (dg_c 44 rfl rfl (dg_c 45 rfl rfl (dg_c 46 rfl rfl (dg_c 47 rfl rfl (dg_c 48 rfl rfl (dg_c 49 rfl rfl (dg_c 50 rfl rfl (dg_c 5 rfl rfl (dg_c 51 rfl rfl (dg_c 52 rfl rfl (dg_c 53 rfl rfl (dg_c 54 rfl rfl (dg_c 55 rfl rfl (dg_c 56 rfl rfl (dg_c 57 rfl rfl (dg_c 58 rfl rfl (dg_c 1 rfl rfl (dg_c 59 rfl rfl (dg_c 2 rfl rfl (dg_c 3 rfl rfl (dg_c 4 rfl rfl (dg_c 6 rfl rfl (dg_c 7 rfl rfl (dg_c 8 rfl rfl dg_0)))))))))))))))))))))))) (dg_c 9 rfl rfl (dg_c 10 rfl rfl (dg_c 11 rfl rfl (dg_c 12 rfl rfl (dg_c 13 rfl rfl (dg_c 15 rfl rfl (dg_c 16 rfl rfl (dg_c 17 rfl rfl (dg_c 18 rfl rfl (dg_c 19 rfl rfl dg_0)))))))))))) gl_X5_next_X50) gl_X5_next_X20))
set_option maxRecDepth 20000 in
theorem gX5_next_X5_mostBy : GoodIn wsX5_next (wsV RX5 86 RX5 yX5_mostBy wsX5_mostBy) := goodIn_app (dg_c 17 rfl rfl (dg_c 18 rfl rfl (dg_c 19 rfl rfl (dg_c 5 rfl rfl dg_0)))) ggX5_next_X5_mostBy
theorem dX5_next_0 : decode cX5_next 0 = .ok (.iconst (-1), 1) := dq_2 dp_cX5_next rfl
theorem dX5_next_1 : decode cX5_next 1 = .ok (.istore 4, 2) := dq_54 dp_cX5_next rfl
theorem dX5_next_3 : decode cX5_next 3 = .ok (.iconst (-1), 1) := dq_2 dp_cX5_next rfl
theorem dX5_next_4 : decode cX5_next 4 = .ok (.istore 5, 2) := dq_54 dp_cX5_next rfl
theorem dX5_next_6 : decode cX5_next 6 = .ok (.iconst 0, 1) := dq_3 dp_cX5_next rfl
theorem dX5_next_7 : decode cX5_next 7 = .ok (.istore 6, 2) := dq_54 dp_cX5_next rfl
theorem dX5_next_9 : decode cX5_next 9 = .ok (.iload 6, 2) := dq_21 dp_cX5_next rfl
theorem dX5_next_11 : decode cX5_next 11 = .ok (.aload_n 0, 1) := dq_42 dp_cX5_next rfl
theorem dX5_next_12 : decode cX5_next 12 = .ok (.getfield 27, 3) := dq_180 dp_cX5_next rfl
theorem dX5_next_15 : decode cX5_next 15 = .ok (.if_icmp .ge 58, 3) := dq_162 (v := 58) dp_cX5_next rfl rfl
theorem dX5_next_18 : decode cX5_next 18 = .ok (.iload_n 1, 1) := dq_27 dp_cX5_next rfl
theorem dX5_next_19 : decode cX5_next 19 = .ok (.ifCond .le 54, 3) := dq_158 (v := 54) dp_cX5_next rfl rfl
theorem dX5_next_22 : decode cX5_next 22 = .ok (.aload_n 0, 1) := dq_42 dp_cX5_next rfl
theorem dX5_next_23 : decode cX5_next 23 = .ok (.iload 6, 2) := dq_21 dp_cX5_next rfl
theorem dX5_next_25 : decode cX5_next 25 = .ok (.iload_n 2, 1) := dq_28 dp_cX5_next rfl
theorem dX5_next_26 : decode cX5_next 26 = .ok (.iload_n 3, 1) := dq_29 dp_cX5_next rfl
theorem dX5_next_27 : decode cX5_next 27 = .ok (.invokevirtual 82, 3) := dq_182 dp_cX5_next rfl
theorem dX5_next_30 : decode cX5_next 30 = .ok (.astore 7, 2) := dq_58 dp_cX5_next rfl
theorem dX5_next_32 : decode cX5_next 32 = .ok (.aload 7, 2) := dq_25 dp_cX5_next rfl
theorem dX5_next_34 : decode cX5_next 34 = .ok (.ifnonnull 7, 3) := dq_199 (v := 7) dp_cX5_next rfl rfl
theorem dX5_next_37 : decode cX5_next 37 = .ok (.iconst (-1), 1) := dq_2 dp_cX5_next rfl
theorem dX5_next_38 : decode cX5_next 38 = .ok (.goto 12, 3) := dq_167 (v := 12) dp_cX5_next rfl rfl
theorem dX5_next_41 : decode cX5_next 41 = .ok (.aload_n 0, 1) := dq_42 dp_cX5_next rfl
theorem dX5_next_42 : decode cX5_next 42 = .ok (.aload 7, 2) := dq_25 dp_cX5_next rfl
theorem dX5_next_44 : decode cX5_next 44 = .ok (.iload_n 1, 1) := dq_27 dp_cX5_next rfl
theorem dX5_next_45 : decode cX5_next 45 = .ok (.iload_n 2, 1) := dq_28 dp_cX5_next rfl
theorem dX5_next_46 : decode cX5_next 46 = .ok (.iload_n 3, 1) := dq_29 dp_cX5_next rfl
theorem dX5_next_47 : decode cX5_next 47 = .ok (.invokevirtual 86, 3) := dq_182 dp_cX5_next rfl
theorem dX5_next_50 : decode cX5_next 50 = .ok (.istore 8, 2) := dq_54 dp_cX5_next rfl
theorem dX5_next_52 : decode cX5_next 52 = .ok (.iload 8, 2) := dq_21 dp_cX5_next rfl
theorem dX5_next_54 : decode cX5_next 54 = .ok (.iload 5, 2) := dq_21 dp_cX5_next rfl
theorem dX5_next_56 : decode cX5_next 56 = .ok (.if_icmp .le 11, 3) := dq_164 (v := 11) dp_cX5_next rfl rfl
theorem dX5_next_59 : decode cX5_next 59 = .ok (.iload 8, 2) := dq_21 dp_cX5_next rfl
theorem dX5_next_61 : decode cX5_next 61 = .ok (.istore 5, 2) := dq_54 dp_cX5_next rfl
theorem dX5_next_63 : decode cX5_next 63 = .ok (.iload 6, 2) := dq_21 dp_cX5_next rfl
theorem dX5_next_65 : decode cX5_next 65 = .ok (.istore 4, 2) := dq_54 dp_cX5_next rfl
theorem dX5_next_67 : decode cX5_next 67 = .ok (.iinc 6 1, 3) := dq_132 (v := 1) dp_cX5_next rfl (by decide) rfl
theorem dX5_next_70 : decode cX5_next 70 = .ok (.goto (-61), 3) := dq_167 (v := 65475) dp_cX5_next rfl rfl
theorem dX5_next_73 : decode cX5_next 73 = .ok (.iload 4, 2) := dq_21 dp_cX5_next rfl
theorem dX5_next_75 : decode cX5_next 75 = .ok (.ireturn, 1) := dq_172 dp_cX5_next rfl
set_option maxRecDepth 20000 in
theorem gl_X5_least_X50 : GoodIn wsX5_least wsX50 := (dg_t (dg_l (dg_r gw_wsX50)))
theorem ggX5_least_X5_leastAtOnce : GoodIn wsX5_least wsX5_leastAtOnce := (dg_c 12 rfl rfl (dg_c 13 rfl rfl (dg_c 14 rfl rfl (dg_c 15 rfl rfl (dg_c 16 rfl rfl (dg_c 17 rfl rfl (dg_c 11 rfl rfl (dg_c 18 rfl rfl gl_X5_least_X50))))))))
set_option maxRecDepth 20000 in
theorem gX5_least_X5_leastAtOnce : GoodIn wsX5_least (wsV RX5 104 RX5 yX5_leastAtOnce wsX5_leastAtOnce) := goodIn_app (dg_c 8 rfl rfl (dg_c 9 rfl rfl (dg_c 10 rfl rfl (dg_c 11 rfl rfl dg_0)))) ggX5_least_X5_leastAtOnce
set_option maxRecDepth 20000 in
theorem gl_X5_least_X20 : GoodIn wsX5_least wsX20 := (dg_t (dg_r gw_wsX20))
theorem ggX5_least_X5_mayBeAt : GoodIn wsX5_least wsX5_mayBeAt := (dg_c 22 rfl rfl (dg_c 23 rfl rfl (dg_c 24 rfl rfl (dg_c 25 rfl rfl (dg_c 26 rfl rfl (dg_c 27 rfl rfl (dg_c 28 rfl rfl (dg_c 29 rfl rfl (dg_c 30 rfl rfl (dg_c 31 rfl rfl (dg_c 32 rfl rfl (goodIn_app gl_X5_least_X50 gl_X5_least_X20))))))))))))
set_option maxRecDepth 20000 in
theorem gX5_least_X5_mayBeAt : GoodIn wsX5_least (wsV RX5 82 RX5 yX5_mayBeAt wsX5_mayBeAt) := goodIn_app (dg_c 19 rfl rfl (dg_c 20 rfl rfl (dg_c 21 rfl rfl (dg_c 11 rfl rfl dg_0)))) ggX5_least_X5_mayBeAt
set_option maxRecDepth 20000 in
theorem ggX5_least_X5_leastBy : GoodIn wsX5_least wsX5_leastBy := (dg_c 36 rfl rfl (goodIn_app (goodIn_app (goodIn_app (dg_c 37 rfl rfl (dg_c 38 rfl rfl (dg_c 39 rfl rfl (dg_c 13 rfl rfl (dg_c 14 rfl rfl (dg_c 40 rfl rfl (dg_c 41 rfl rfl (dg_c 42 rfl rfl (dg_c 30 rfl rfl (dg_c 43 rfl rfl (dg_c 44 rfl rfl (dg_c 45 rfl rfl (dg_c 5 rfl rfl (dg_c 6 rfl rfl (dg_c 7 rfl rfl (dg_c 46 rfl rfl (dg_c 47 rfl rfl (dg_c 48 rfl rfl (dg_c 49 rfl rfl (dg_c 50 rfl rfl (dg_c 51 rfl rfl (dg_c 52 rfl rfl (dg_c 53 rfl rfl (dg_c 54 rfl rfl dg_0)))))))))))))))))))))))) (goodIn_app (dg_c 55 rfl rfl (dg_c 56 rfl rfl (dg_c 57 rfl rfl (dg_c 58 rfl rfl (dg_c 59 rfl rfl (dg_c 60 rfl rfl (dg_c 61 rfl rfl (dg_c 62 rfl rfl (dg_c 63 rfl rfl (dg_c 64 rfl rfl (dg_c 11 rfl rfl (dg_c 65 rfl rfl (dg_c 66 rfl rfl (dg_c 67 rfl rfl (dg_c 68 rfl rfl (dg_c 0 rfl rfl (dg_c 1 rfl rfl (dg_c 2 rfl rfl (dg_c 3 rfl rfl (dg_c 4 rfl rfl (dg_c 8 rfl rfl (dg_c 9 rfl rfl (dg_c 10 rfl rfl (dg_c 12 rfl rfl dg_0)))))))))))))))))))))))) (dg_c 15 rfl rfl (dg_c 16 rfl rfl (dg_c 17 rfl rfl (dg_c 18 rfl rfl (dg_c 19 rfl rfl (dg_c 20 rfl rfl (dg_c 21 rfl rfl (dg_c 22 rfl rfl (dg_c 23 rfl rfl (dg_c 24 rfl rfl (dg_c 25 rfl rfl (dg_c 26 rfl rfl (dg_c 27 rfl rfl (dg_c 28 rfl rfl (dg_c 29 rfl rfl (dg_c 31 rfl rfl (dg_c 32 rfl rfl (dg_c 33 rfl rfl (dg_c 34 rfl rfl (dg_c 35 rfl rfl dg_0)))))))))))))))))))))) gl_X5_least_X50) gl_X5_least_X20))
set_option maxRecDepth 20000 in
theorem gX5_least_X5_leastBy : GoodIn wsX5_least (wsV RX5 107 RX5 yX5_leastBy wsX5_leastBy) := goodIn_app (dg_c 33 rfl rfl (dg_c 34 rfl rfl (dg_c 35 rfl rfl (dg_c 11 rfl rfl dg_0)))) ggX5_least_X5_leastBy
theorem dX5_least_0 : decode cX5_least 0 = .ok (.iload_n 1, 1) := dq_27 dp_cX5_least rfl
theorem dX5_least_1 : decode cX5_least 1 = .ok (.ifCond .lt 19, 3) := dq_155 (v := 19) dp_cX5_least rfl rfl
theorem dX5_least_4 : decode cX5_least 4 = .ok (.iload_n 1, 1) := dq_27 dp_cX5_least rfl
theorem dX5_least_5 : decode cX5_least 5 = .ok (.iconst 4, 1) := dq_7 dp_cX5_least rfl
theorem dX5_least_6 : decode cX5_least 6 = .ok (.if_icmp .gt 14, 3) := dq_163 (v := 14) dp_cX5_least rfl rfl
theorem dX5_least_9 : decode cX5_least 9 = .ok (.iload_n 2, 1) := dq_28 dp_cX5_least rfl
theorem dX5_least_10 : decode cX5_least 10 = .ok (.iconst 1, 1) := dq_4 dp_cX5_least rfl
theorem dX5_least_11 : decode cX5_least 11 = .ok (.if_icmp .lt 9, 3) := dq_161 (v := 9) dp_cX5_least rfl rfl
theorem dX5_least_14 : decode cX5_least 14 = .ok (.iload_n 2, 1) := dq_28 dp_cX5_least rfl
theorem dX5_least_15 : decode cX5_least 15 = .ok (.bipush 24, 2) := dq_16 (v := 24) dp_cX5_least rfl rfl
theorem dX5_least_17 : decode cX5_least 17 = .ok (.if_icmp .le 5, 3) := dq_164 (v := 5) dp_cX5_least rfl rfl
theorem dX5_least_20 : decode cX5_least 20 = .ok (.iconst 0, 1) := dq_3 dp_cX5_least rfl
theorem dX5_least_21 : decode cX5_least 21 = .ok (.ireturn, 1) := dq_172 dp_cX5_least rfl
theorem dX5_least_22 : decode cX5_least 22 = .ok (.iload_n 3, 1) := dq_29 dp_cX5_least rfl
theorem dX5_least_23 : decode cX5_least 23 = .ok (.iload_n 1, 1) := dq_27 dp_cX5_least rfl
theorem dX5_least_24 : decode cX5_least 24 = .ok (.aload_n 0, 1) := dq_42 dp_cX5_least rfl
theorem dX5_least_25 : decode cX5_least 25 = .ok (.getfield 34, 3) := dq_180 dp_cX5_least rfl
theorem dX5_least_28 : decode cX5_least 28 = .ok (.imul, 1) := dq_104 dp_cX5_least rfl
theorem dX5_least_29 : decode cX5_least 29 = .ok (.bipush 30, 2) := dq_16 (v := 30) dp_cX5_least rfl rfl
theorem dX5_least_31 : decode cX5_least 31 = .ok (.iadd, 1) := dq_96 dp_cX5_least rfl
theorem dX5_least_32 : decode cX5_least 32 = .ok (.if_icmp .lt 7, 3) := dq_161 (v := 7) dp_cX5_least rfl rfl
theorem dX5_least_35 : decode cX5_least 35 = .ok (.iconst 1, 1) := dq_4 dp_cX5_least rfl
theorem dX5_least_36 : decode cX5_least 36 = .ok (.goto 4, 3) := dq_167 (v := 4) dp_cX5_least rfl rfl
theorem dX5_least_39 : decode cX5_least 39 = .ok (.iconst 0, 1) := dq_3 dp_cX5_least rfl
theorem dX5_least_40 : decode cX5_least 40 = .ok (.istore 4, 2) := dq_54 dp_cX5_least rfl
theorem dX5_least_42 : decode cX5_least 42 = .ok (.iload_n 1, 1) := dq_27 dp_cX5_least rfl
theorem dX5_least_43 : decode cX5_least 43 = .ok (.bipush 25, 2) := dq_16 (v := 25) dp_cX5_least rfl rfl
theorem dX5_least_45 : decode cX5_least 45 = .ok (.imul, 1) := dq_104 dp_cX5_least rfl
theorem dX5_least_46 : decode cX5_least 46 = .ok (.iload_n 2, 1) := dq_28 dp_cX5_least rfl
theorem dX5_least_47 : decode cX5_least 47 = .ok (.iadd, 1) := dq_96 dp_cX5_least rfl
theorem dX5_least_48 : decode cX5_least 48 = .ok (.istore 5, 2) := dq_54 dp_cX5_least rfl
theorem dX5_least_50 : decode cX5_least 50 = .ok (.iload 4, 2) := dq_21 dp_cX5_least rfl
theorem dX5_least_52 : decode cX5_least 52 = .ok (.ifCond .eq 22, 3) := dq_153 (v := 22) dp_cX5_least rfl rfl
theorem dX5_least_55 : decode cX5_least 55 = .ok (.aload_n 0, 1) := dq_42 dp_cX5_least rfl
theorem dX5_least_56 : decode cX5_least 56 = .ok (.getfield 15, 3) := dq_180 dp_cX5_least rfl
theorem dX5_least_59 : decode cX5_least 59 = .ok (.iload 5, 2) := dq_21 dp_cX5_least rfl
theorem dX5_least_61 : decode cX5_least 61 = .ok (.iaload, 1) := dq_46 dp_cX5_least rfl
theorem dX5_least_62 : decode cX5_least 62 = .ok (.iconst (-1), 1) := dq_2 dp_cX5_least rfl
theorem dX5_least_63 : decode cX5_least 63 = .ok (.if_icmp .eq 11, 3) := dq_159 (v := 11) dp_cX5_least rfl rfl
theorem dX5_least_66 : decode cX5_least 66 = .ok (.aload_n 0, 1) := dq_42 dp_cX5_least rfl
theorem dX5_least_67 : decode cX5_least 67 = .ok (.getfield 15, 3) := dq_180 dp_cX5_least rfl
theorem dX5_least_70 : decode cX5_least 70 = .ok (.iload 5, 2) := dq_21 dp_cX5_least rfl
theorem dX5_least_72 : decode cX5_least 72 = .ok (.iaload, 1) := dq_46 dp_cX5_least rfl
theorem dX5_least_73 : decode cX5_least 73 = .ok (.ireturn, 1) := dq_172 dp_cX5_least rfl
theorem dX5_least_74 : decode cX5_least 74 = .ok (.aload_n 0, 1) := dq_42 dp_cX5_least rfl
theorem dX5_least_75 : decode cX5_least 75 = .ok (.iload_n 1, 1) := dq_27 dp_cX5_least rfl
theorem dX5_least_76 : decode cX5_least 76 = .ok (.iload_n 3, 1) := dq_29 dp_cX5_least rfl
theorem dX5_least_77 : decode cX5_least 77 = .ok (.invokevirtual 104, 3) := dq_182 dp_cX5_least rfl
theorem dX5_least_80 : decode cX5_least 80 = .ok (.istore 6, 2) := dq_54 dp_cX5_least rfl
theorem dX5_least_82 : decode cX5_least 82 = .ok (.iconst 0, 1) := dq_3 dp_cX5_least rfl
theorem dX5_least_83 : decode cX5_least 83 = .ok (.istore 7, 2) := dq_54 dp_cX5_least rfl
theorem dX5_least_85 : decode cX5_least 85 = .ok (.iload 7, 2) := dq_21 dp_cX5_least rfl
theorem dX5_least_87 : decode cX5_least 87 = .ok (.aload_n 0, 1) := dq_42 dp_cX5_least rfl
theorem dX5_least_88 : decode cX5_least 88 = .ok (.getfield 27, 3) := dq_180 dp_cX5_least rfl
theorem dX5_least_91 : decode cX5_least 91 = .ok (.if_icmp .ge 44, 3) := dq_162 (v := 44) dp_cX5_least rfl rfl
theorem dX5_least_94 : decode cX5_least 94 = .ok (.iload_n 1, 1) := dq_27 dp_cX5_least rfl
theorem dX5_least_95 : decode cX5_least 95 = .ok (.ifCond .le 40, 3) := dq_158 (v := 40) dp_cX5_least rfl rfl
theorem dX5_least_98 : decode cX5_least 98 = .ok (.aload_n 0, 1) := dq_42 dp_cX5_least rfl
theorem dX5_least_99 : decode cX5_least 99 = .ok (.iload 7, 2) := dq_21 dp_cX5_least rfl
theorem dX5_least_101 : decode cX5_least 101 = .ok (.iload_n 2, 1) := dq_28 dp_cX5_least rfl
theorem dX5_least_102 : decode cX5_least 102 = .ok (.iload_n 3, 1) := dq_29 dp_cX5_least rfl
theorem dX5_least_103 : decode cX5_least 103 = .ok (.invokevirtual 82, 3) := dq_182 dp_cX5_least rfl
theorem dX5_least_106 : decode cX5_least 106 = .ok (.astore 8, 2) := dq_58 dp_cX5_least rfl
theorem dX5_least_108 : decode cX5_least 108 = .ok (.aload 8, 2) := dq_25 dp_cX5_least rfl
theorem dX5_least_110 : decode cX5_least 110 = .ok (.ifnull 19, 3) := dq_198 (v := 19) dp_cX5_least rfl rfl
theorem dX5_least_113 : decode cX5_least 113 = .ok (.iload 6, 2) := dq_21 dp_cX5_least rfl
theorem dX5_least_115 : decode cX5_least 115 = .ok (.aload_n 0, 1) := dq_42 dp_cX5_least rfl
theorem dX5_least_116 : decode cX5_least 116 = .ok (.aload 8, 2) := dq_25 dp_cX5_least rfl
theorem dX5_least_118 : decode cX5_least 118 = .ok (.iload_n 1, 1) := dq_27 dp_cX5_least rfl
theorem dX5_least_119 : decode cX5_least 119 = .ok (.iload_n 2, 1) := dq_28 dp_cX5_least rfl
theorem dX5_least_120 : decode cX5_least 120 = .ok (.iload_n 3, 1) := dq_29 dp_cX5_least rfl
theorem dX5_least_121 : decode cX5_least 121 = .ok (.invokevirtual 107, 3) := dq_182 dp_cX5_least rfl
theorem dX5_least_124 : decode cX5_least 124 = .ok (.invokestatic 110, 3) := dq_184 dp_cX5_least rfl
theorem dX5_least_127 : decode cX5_least 127 = .ok (.istore 6, 2) := dq_54 dp_cX5_least rfl
theorem dX5_least_129 : decode cX5_least 129 = .ok (.iinc 7 1, 3) := dq_132 (v := 1) dp_cX5_least rfl (by decide) rfl
theorem dX5_least_132 : decode cX5_least 132 = .ok (.goto (-47), 3) := dq_167 (v := 65489) dp_cX5_least rfl rfl
theorem dX5_least_135 : decode cX5_least 135 = .ok (.iload 4, 2) := dq_21 dp_cX5_least rfl
theorem dX5_least_137 : decode cX5_least 137 = .ok (.ifCond .eq 12, 3) := dq_153 (v := 12) dp_cX5_least rfl rfl
theorem dX5_least_140 : decode cX5_least 140 = .ok (.aload_n 0, 1) := dq_42 dp_cX5_least rfl
theorem dX5_least_141 : decode cX5_least 141 = .ok (.getfield 15, 3) := dq_180 dp_cX5_least rfl
theorem dX5_least_144 : decode cX5_least 144 = .ok (.iload 5, 2) := dq_21 dp_cX5_least rfl
theorem dX5_least_146 : decode cX5_least 146 = .ok (.iload 6, 2) := dq_21 dp_cX5_least rfl
theorem dX5_least_148 : decode cX5_least 148 = .ok (.iastore, 1) := dq_79 dp_cX5_least rfl
theorem dX5_least_149 : decode cX5_least 149 = .ok (.iload 6, 2) := dq_21 dp_cX5_least rfl
theorem dX5_least_151 : decode cX5_least 151 = .ok (.ireturn, 1) := dq_172 dp_cX5_least rfl
set_option maxRecDepth 20000 in
theorem gl_X5_leastBy_X20 : GoodIn wsX5_leastBy wsX20 := (dg_t (dg_r gw_wsX20))
theorem ggX5_leastBy_X2_waysAt : GoodIn wsX5_leastBy wsX2_waysAt := (dg_c 10 rfl rfl (dg_c 11 rfl rfl (dg_c 12 rfl rfl (dg_c 13 rfl rfl (dg_c 14 rfl rfl (dg_c 15 rfl rfl (dg_c 16 rfl rfl (dg_c 17 rfl rfl (dg_c 18 rfl rfl (dg_c 19 rfl rfl (dg_c 20 rfl rfl (dg_c 21 rfl rfl (dg_c 9 rfl rfl (dg_c 22 rfl rfl (dg_c 23 rfl rfl gl_X5_leastBy_X20)))))))))))))))
set_option maxRecDepth 20000 in
theorem gX5_leastBy_X2_waysAt : GoodIn wsX5_leastBy (wsV RX5 90 RX2 yX2_waysAt wsX2_waysAt) := goodIn_app (dg_c 6 rfl rfl (dg_c 7 rfl rfl (dg_c 8 rfl rfl (dg_c 9 rfl rfl dg_0)))) ggX5_leastBy_X2_waysAt
set_option maxRecDepth 20000 in
theorem ggX5_leastBy_X2_shallower : GoodIn wsX5_leastBy wsX2_shallower := (dg_c 27 rfl rfl (dg_c 16 rfl rfl (dg_c 17 rfl rfl (dg_c 14 rfl rfl (dg_c 18 rfl rfl (dg_c 28 rfl rfl (dg_c 29 rfl rfl (dg_c 30 rfl rfl (dg_c 9 rfl rfl (dg_c 31 rfl rfl (dg_c 11 rfl rfl (dg_c 23 rfl rfl gl_X5_leastBy_X20))))))))))))
set_option maxRecDepth 20000 in
theorem gX5_leastBy_X2_shallower : GoodIn wsX5_leastBy (wsV RX5 93 RX2 yX2_shallower wsX2_shallower) := goodIn_app (dg_c 24 rfl rfl (dg_c 25 rfl rfl (dg_c 26 rfl rfl (dg_c 9 rfl rfl dg_0)))) ggX5_leastBy_X2_shallower
set_option maxRecDepth 20000 in
theorem gl_X5_leastBy_X50 : GoodIn wsX5_leastBy wsX50 := (dg_t (dg_l (dg_r gw_wsX50)))
theorem ggX5_leastBy_X5_least : GoodIn wsX5_leastBy wsX5_least := (dg_c 40 rfl rfl (goodIn_app (goodIn_app (goodIn_app (dg_c 41 rfl rfl (dg_c 42 rfl rfl (dg_c 43 rfl rfl (dg_c 44 rfl rfl (dg_c 13 rfl rfl (dg_c 14 rfl rfl (dg_c 15 rfl rfl (dg_c 45 rfl rfl (dg_c 46 rfl rfl (dg_c 47 rfl rfl (dg_c 35 rfl rfl (dg_c 48 rfl rfl (dg_c 4 rfl rfl (dg_c 5 rfl rfl (dg_c 49 rfl rfl (dg_c 50 rfl rfl (dg_c 51 rfl rfl (dg_c 52 rfl rfl (dg_c 53 rfl rfl (dg_c 54 rfl rfl (dg_c 55 rfl rfl (dg_c 56 rfl rfl (dg_c 57 rfl rfl (dg_c 58 rfl rfl dg_0)))))))))))))))))))))))) (goodIn_app (dg_c 59 rfl rfl (dg_c 60 rfl rfl (dg_c 61 rfl rfl (dg_c 62 rfl rfl (dg_c 63 rfl rfl (dg_c 9 rfl rfl (dg_c 64 rfl rfl (dg_c 65 rfl rfl (dg_c 66 rfl rfl (dg_c 67 rfl rfl (dg_c 68 rfl rfl (dg_c 0 rfl rfl (dg_c 1 rfl rfl (dg_c 2 rfl rfl (dg_c 3 rfl rfl (dg_c 6 rfl rfl (dg_c 7 rfl rfl (dg_c 8 rfl rfl (dg_c 10 rfl rfl (dg_c 11 rfl rfl (dg_c 12 rfl rfl (dg_c 16 rfl rfl (dg_c 17 rfl rfl (dg_c 18 rfl rfl dg_0)))))))))))))))))))))))) (dg_c 19 rfl rfl (dg_c 20 rfl rfl (dg_c 21 rfl rfl (dg_c 22 rfl rfl (dg_c 23 rfl rfl (dg_c 24 rfl rfl (dg_c 25 rfl rfl (dg_c 26 rfl rfl (dg_c 27 rfl rfl (dg_c 28 rfl rfl (dg_c 29 rfl rfl (dg_c 30 rfl rfl (dg_c 31 rfl rfl (dg_c 32 rfl rfl (dg_c 33 rfl rfl (dg_c 34 rfl rfl (dg_c 36 rfl rfl (dg_c 37 rfl rfl (dg_c 38 rfl rfl (dg_c 39 rfl rfl dg_0)))))))))))))))))))))) gl_X5_leastBy_X50) gl_X5_leastBy_X20))
set_option maxRecDepth 20000 in
theorem gX5_leastBy_X5_least : GoodIn wsX5_leastBy (wsV RX5 117 RX5 yX5_least wsX5_least) := goodIn_app (dg_c 32 rfl rfl (dg_c 33 rfl rfl (dg_c 34 rfl rfl (dg_c 35 rfl rfl dg_0)))) ggX5_leastBy_X5_least
set_option maxRecDepth 20000 in
theorem ggX5_leastBy_X2_deeper : GoodIn wsX5_leastBy wsX2_deeper := (dg_c 39 rfl rfl (dg_c 11 rfl rfl (dg_c 23 rfl rfl (dg_c 12 rfl rfl (dg_c 13 rfl rfl (dg_c 14 rfl rfl (dg_c 15 rfl rfl gl_X5_leastBy_X20)))))))
set_option maxRecDepth 20000 in
theorem gX5_leastBy_X2_deeper : GoodIn wsX5_leastBy (wsV RX5 101 RX2 yX2_deeper wsX2_deeper) := goodIn_app (dg_c 36 rfl rfl (dg_c 37 rfl rfl (dg_c 38 rfl rfl (dg_c 9 rfl rfl dg_0)))) ggX5_leastBy_X2_deeper
theorem dX5_leastBy_0 : decode cX5_leastBy 0 = .ok (.aload_n 1, 1) := dq_43 dp_cX5_leastBy rfl
theorem dX5_leastBy_1 : decode cX5_leastBy 1 = .ok (.iload_n 3, 1) := dq_29 dp_cX5_leastBy rfl
theorem dX5_leastBy_2 : decode cX5_leastBy 2 = .ok (.aload_n 0, 1) := dq_42 dp_cX5_leastBy rfl
theorem dX5_leastBy_3 : decode cX5_leastBy 3 = .ok (.getfield 31, 3) := dq_180 dp_cX5_leastBy rfl
theorem dX5_leastBy_6 : decode cX5_leastBy 6 = .ok (.invokevirtual 90, 3) := dq_182 dp_cX5_leastBy rfl
theorem dX5_leastBy_9 : decode cX5_leastBy 9 = .ok (.istore 5, 2) := dq_54 dp_cX5_leastBy rfl
theorem dX5_leastBy_11 : decode cX5_leastBy 11 = .ok (.iload 4, 2) := dq_21 dp_cX5_leastBy rfl
theorem dX5_leastBy_13 : decode cX5_leastBy 13 = .ok (.aload_n 1, 1) := dq_43 dp_cX5_leastBy rfl
theorem dX5_leastBy_14 : decode cX5_leastBy 14 = .ok (.getfield 49, 3) := dq_180 dp_cX5_leastBy rfl
theorem dX5_leastBy_17 : decode cX5_leastBy 17 = .ok (.isub, 1) := dq_100 dp_cX5_leastBy rfl
theorem dX5_leastBy_18 : decode cX5_leastBy 18 = .ok (.istore 6, 2) := dq_54 dp_cX5_leastBy rfl
theorem dX5_leastBy_20 : decode cX5_leastBy 20 = .ok (.aload_n 1, 1) := dq_43 dp_cX5_leastBy rfl
theorem dX5_leastBy_21 : decode cX5_leastBy 21 = .ok (.getfield 46, 3) := dq_180 dp_cX5_leastBy rfl
theorem dX5_leastBy_24 : decode cX5_leastBy 24 = .ok (.iconst 5, 1) := dq_8 dp_cX5_leastBy rfl
theorem dX5_leastBy_25 : decode cX5_leastBy 25 = .ok (.if_icmp .ne 18, 3) := dq_160 (v := 18) dp_cX5_leastBy rfl rfl
theorem dX5_leastBy_28 : decode cX5_leastBy 28 = .ok (.getstatic 79, 3) := dq_178 dp_cX5_leastBy rfl
theorem dX5_leastBy_31 : decode cX5_leastBy 31 = .ok (.iload_n 2, 1) := dq_28 dp_cX5_leastBy rfl
theorem dX5_leastBy_32 : decode cX5_leastBy 32 = .ok (.iaload, 1) := dq_46 dp_cX5_leastBy rfl
theorem dX5_leastBy_33 : decode cX5_leastBy 33 = .ok (.aload_n 0, 1) := dq_42 dp_cX5_leastBy rfl
theorem dX5_leastBy_34 : decode cX5_leastBy 34 = .ok (.getfield 18, 3) := dq_180 dp_cX5_leastBy rfl
theorem dX5_leastBy_37 : decode cX5_leastBy 37 = .ok (.iconst 0, 1) := dq_3 dp_cX5_leastBy rfl
theorem dX5_leastBy_38 : decode cX5_leastBy 38 = .ok (.iaload, 1) := dq_46 dp_cX5_leastBy rfl
theorem dX5_leastBy_39 : decode cX5_leastBy 39 = .ok (.imul, 1) := dq_104 dp_cX5_leastBy rfl
theorem dX5_leastBy_40 : decode cX5_leastBy 40 = .ok (.goto 4, 3) := dq_167 (v := 4) dp_cX5_leastBy rfl rfl
theorem dX5_leastBy_43 : decode cX5_leastBy 43 = .ok (.iconst 0, 1) := dq_3 dp_cX5_leastBy rfl
theorem dX5_leastBy_44 : decode cX5_leastBy 44 = .ok (.istore 7, 2) := dq_54 dp_cX5_leastBy rfl
theorem dX5_leastBy_46 : decode cX5_leastBy 46 = .ok (.iload 5, 2) := dq_21 dp_cX5_leastBy rfl
theorem dX5_leastBy_48 : decode cX5_leastBy 48 = .ok (.ifCond .le 25, 3) := dq_158 (v := 25) dp_cX5_leastBy rfl rfl
theorem dX5_leastBy_51 : decode cX5_leastBy 51 = .ok (.iload 7, 2) := dq_21 dp_cX5_leastBy rfl
theorem dX5_leastBy_53 : decode cX5_leastBy 53 = .ok (.iload 5, 2) := dq_21 dp_cX5_leastBy rfl
theorem dX5_leastBy_55 : decode cX5_leastBy 55 = .ok (.aload_n 0, 1) := dq_42 dp_cX5_leastBy rfl
theorem dX5_leastBy_56 : decode cX5_leastBy 56 = .ok (.iload_n 2, 1) := dq_28 dp_cX5_leastBy rfl
theorem dX5_leastBy_57 : decode cX5_leastBy 57 = .ok (.iconst 1, 1) := dq_4 dp_cX5_leastBy rfl
theorem dX5_leastBy_58 : decode cX5_leastBy 58 = .ok (.isub, 1) := dq_100 dp_cX5_leastBy rfl
theorem dX5_leastBy_59 : decode cX5_leastBy 59 = .ok (.aload_n 1, 1) := dq_43 dp_cX5_leastBy rfl
theorem dX5_leastBy_60 : decode cX5_leastBy 60 = .ok (.iload_n 3, 1) := dq_29 dp_cX5_leastBy rfl
theorem dX5_leastBy_61 : decode cX5_leastBy 61 = .ok (.invokevirtual 93, 3) := dq_182 dp_cX5_leastBy rfl
theorem dX5_leastBy_64 : decode cX5_leastBy 64 = .ok (.iload 6, 2) := dq_21 dp_cX5_leastBy rfl
theorem dX5_leastBy_66 : decode cX5_leastBy 66 = .ok (.invokevirtual 117, 3) := dq_182 dp_cX5_leastBy rfl
theorem dX5_leastBy_69 : decode cX5_leastBy 69 = .ok (.imul, 1) := dq_104 dp_cX5_leastBy rfl
theorem dX5_leastBy_70 : decode cX5_leastBy 70 = .ok (.iadd, 1) := dq_96 dp_cX5_leastBy rfl
theorem dX5_leastBy_71 : decode cX5_leastBy 71 = .ok (.istore 7, 2) := dq_54 dp_cX5_leastBy rfl
theorem dX5_leastBy_73 : decode cX5_leastBy 73 = .ok (.iload 5, 2) := dq_21 dp_cX5_leastBy rfl
theorem dX5_leastBy_75 : decode cX5_leastBy 75 = .ok (.bipush 12, 2) := dq_16 (v := 12) dp_cX5_leastBy rfl rfl
theorem dX5_leastBy_77 : decode cX5_leastBy 77 = .ok (.if_icmp .ge 32, 3) := dq_162 (v := 32) dp_cX5_leastBy rfl rfl
theorem dX5_leastBy_80 : decode cX5_leastBy 80 = .ok (.iload 7, 2) := dq_21 dp_cX5_leastBy rfl
theorem dX5_leastBy_82 : decode cX5_leastBy 82 = .ok (.bipush 12, 2) := dq_16 (v := 12) dp_cX5_leastBy rfl rfl
theorem dX5_leastBy_84 : decode cX5_leastBy 84 = .ok (.iload 5, 2) := dq_21 dp_cX5_leastBy rfl
theorem dX5_leastBy_86 : decode cX5_leastBy 86 = .ok (.isub, 1) := dq_100 dp_cX5_leastBy rfl
theorem dX5_leastBy_87 : decode cX5_leastBy 87 = .ok (.aload_n 0, 1) := dq_42 dp_cX5_leastBy rfl
theorem dX5_leastBy_88 : decode cX5_leastBy 88 = .ok (.iload_n 2, 1) := dq_28 dp_cX5_leastBy rfl
theorem dX5_leastBy_89 : decode cX5_leastBy 89 = .ok (.iconst 1, 1) := dq_4 dp_cX5_leastBy rfl
theorem dX5_leastBy_90 : decode cX5_leastBy 90 = .ok (.isub, 1) := dq_100 dp_cX5_leastBy rfl
theorem dX5_leastBy_91 : decode cX5_leastBy 91 = .ok (.aload_n 1, 1) := dq_43 dp_cX5_leastBy rfl
theorem dX5_leastBy_92 : decode cX5_leastBy 92 = .ok (.iload_n 3, 1) := dq_29 dp_cX5_leastBy rfl
theorem dX5_leastBy_93 : decode cX5_leastBy 93 = .ok (.aload_n 0, 1) := dq_42 dp_cX5_leastBy rfl
theorem dX5_leastBy_94 : decode cX5_leastBy 94 = .ok (.getfield 31, 3) := dq_180 dp_cX5_leastBy rfl
theorem dX5_leastBy_97 : decode cX5_leastBy 97 = .ok (.invokevirtual 101, 3) := dq_182 dp_cX5_leastBy rfl
theorem dX5_leastBy_100 : decode cX5_leastBy 100 = .ok (.iload 6, 2) := dq_21 dp_cX5_leastBy rfl
theorem dX5_leastBy_102 : decode cX5_leastBy 102 = .ok (.invokevirtual 117, 3) := dq_182 dp_cX5_leastBy rfl
theorem dX5_leastBy_105 : decode cX5_leastBy 105 = .ok (.imul, 1) := dq_104 dp_cX5_leastBy rfl
theorem dX5_leastBy_106 : decode cX5_leastBy 106 = .ok (.iadd, 1) := dq_96 dp_cX5_leastBy rfl
theorem dX5_leastBy_107 : decode cX5_leastBy 107 = .ok (.istore 7, 2) := dq_54 dp_cX5_leastBy rfl
theorem dX5_leastBy_109 : decode cX5_leastBy 109 = .ok (.iload 7, 2) := dq_21 dp_cX5_leastBy rfl
theorem dX5_leastBy_111 : decode cX5_leastBy 111 = .ok (.ireturn, 1) := dq_172 dp_cX5_leastBy rfl
set_option maxRecDepth 20000 in
theorem gl_X5_first_X50 : GoodIn wsX5_first wsX50 := (dg_t (dg_l (dg_r gw_wsX50)))
theorem gl_X5_first_X20 : GoodIn wsX5_first wsX20 := (dg_t (dg_r gw_wsX20))
theorem ggX5_first_X5_least : GoodIn wsX5_first wsX5_least := (dg_c 6 rfl rfl (goodIn_app (goodIn_app (goodIn_app (dg_c 7 rfl rfl (dg_c 8 rfl rfl (dg_c 1 rfl rfl (dg_c 9 rfl rfl (dg_c 10 rfl rfl (dg_c 11 rfl rfl (dg_c 12 rfl rfl (dg_c 13 rfl rfl (dg_c 14 rfl rfl (dg_c 15 rfl rfl (dg_c 5 rfl rfl (dg_c 16 rfl rfl (dg_c 17 rfl rfl (dg_c 18 rfl rfl (dg_c 19 rfl rfl (dg_c 20 rfl rfl (dg_c 21 rfl rfl (dg_c 22 rfl rfl (dg_c 23 rfl rfl (dg_c 24 rfl rfl (dg_c 25 rfl rfl (dg_c 26 rfl rfl (dg_c 27 rfl rfl (dg_c 28 rfl rfl dg_0)))))))))))))))))))))))) (goodIn_app (dg_c 29 rfl rfl (dg_c 30 rfl rfl (dg_c 31 rfl rfl (dg_c 32 rfl rfl (dg_c 33 rfl rfl (dg_c 34 rfl rfl (dg_c 35 rfl rfl (dg_c 36 rfl rfl (dg_c 37 rfl rfl (dg_c 38 rfl rfl (dg_c 39 rfl rfl (dg_c 40 rfl rfl (dg_c 41 rfl rfl (dg_c 42 rfl rfl (dg_c 43 rfl rfl (dg_c 44 rfl rfl (dg_c 45 rfl rfl (dg_c 46 rfl rfl (dg_c 47 rfl rfl (dg_c 48 rfl rfl (dg_c 49 rfl rfl (dg_c 50 rfl rfl (dg_c 51 rfl rfl (dg_c 52 rfl rfl dg_0)))))))))))))))))))))))) (dg_c 53 rfl rfl (dg_c 54 rfl rfl (dg_c 55 rfl rfl (dg_c 56 rfl rfl (dg_c 57 rfl rfl (dg_c 58 rfl rfl (dg_c 59 rfl rfl (dg_c 60 rfl rfl (dg_c 61 rfl rfl (dg_c 62 rfl rfl (dg_c 63 rfl rfl (dg_c 64 rfl rfl (dg_c 65 rfl rfl (dg_c 2 rfl rfl (dg_c 3 rfl rfl (dg_c 4 rfl rfl (dg_c 66 rfl rfl (dg_c 67 rfl rfl (dg_c 68 rfl rfl (dg_c 69 rfl rfl dg_0)))))))))))))))))))))) gl_X5_first_X50) gl_X5_first_X20))
set_option maxRecDepth 20000 in
theorem gX5_first_X5_least : GoodIn wsX5_first (wsV RX5 117 RX5 yX5_least wsX5_least) := goodIn_app (dg_c 2 rfl rfl (dg_c 3 rfl rfl (dg_c 4 rfl rfl (dg_c 5 rfl rfl dg_0)))) ggX5_first_X5_least
set_option maxRecDepth 20000 in
theorem ggX5_first_X5_mayBeAt : GoodIn wsX5_first wsX5_mayBeAt := (dg_c 26 rfl rfl (dg_c 27 rfl rfl (dg_c 28 rfl rfl (dg_c 29 rfl rfl (dg_c 30 rfl rfl (dg_c 31 rfl rfl (dg_c 32 rfl rfl (dg_c 33 rfl rfl (dg_c 34 rfl rfl (dg_c 35 rfl rfl (dg_c 36 rfl rfl (goodIn_app gl_X5_first_X50 gl_X5_first_X20))))))))))))
set_option maxRecDepth 20000 in
theorem gX5_first_X5_mayBeAt : GoodIn wsX5_first (wsV RX5 82 RX5 yX5_mayBeAt wsX5_mayBeAt) := goodIn_app (dg_c 23 rfl rfl (dg_c 24 rfl rfl (dg_c 25 rfl rfl (dg_c 5 rfl rfl dg_0)))) ggX5_first_X5_mayBeAt
set_option maxRecDepth 20000 in
theorem ggX5_first_X5_leastBy : GoodIn wsX5_first wsX5_leastBy := (dg_c 40 rfl rfl (goodIn_app (goodIn_app (goodIn_app (dg_c 41 rfl rfl (dg_c 42 rfl rfl (dg_c 43 rfl rfl (dg_c 17 rfl rfl (dg_c 18 rfl rfl (dg_c 44 rfl rfl (dg_c 45 rfl rfl (dg_c 46 rfl rfl (dg_c 34 rfl rfl (dg_c 47 rfl rfl (dg_c 48 rfl rfl (dg_c 49 rfl rfl (dg_c 10 rfl rfl (dg_c 11 rfl rfl (dg_c 12 rfl rfl (dg_c 50 rfl rfl (dg_c 51 rfl rfl (dg_c 52 rfl rfl (dg_c 53 rfl rfl (dg_c 54 rfl rfl (dg_c 55 rfl rfl (dg_c 56 rfl rfl (dg_c 57 rfl rfl (dg_c 58 rfl rfl dg_0)))))))))))))))))))))))) (goodIn_app (dg_c 59 rfl rfl (dg_c 60 rfl rfl (dg_c 61 rfl rfl (dg_c 62 rfl rfl (dg_c 63 rfl rfl (dg_c 64 rfl rfl (dg_c 65 rfl rfl (dg_c 2 rfl rfl (dg_c 3 rfl rfl (dg_c 4 rfl rfl (dg_c 5 rfl rfl (dg_c 66 rfl rfl (dg_c 67 rfl rfl (dg_c 68 rfl rfl (dg_c 69 rfl rfl (dg_c 6 rfl rfl (dg_c 7 rfl rfl (dg_c 8 rfl rfl (dg_c 1 rfl rfl (dg_c 9 rfl rfl (dg_c 13 rfl rfl (dg_c 14 rfl rfl (dg_c 15 rfl rfl (dg_c 16 rfl rfl dg_0)))))))))))))))))))))))) (dg_c 19 rfl rfl (dg_c 20 rfl rfl (dg_c 21 rfl rfl (dg_c 22 rfl rfl (dg_c 23 rfl rfl (dg_c 24 rfl rfl (dg_c 25 rfl rfl (dg_c 26 rfl rfl (dg_c 27 rfl rfl (dg_c 28 rfl rfl (dg_c 29 rfl rfl (dg_c 30 rfl rfl (dg_c 31 rfl rfl (dg_c 32 rfl rfl (dg_c 33 rfl rfl (dg_c 35 rfl rfl (dg_c 36 rfl rfl (dg_c 37 rfl rfl (dg_c 38 rfl rfl (dg_c 39 rfl rfl dg_0)))))))))))))))))))))) gl_X5_first_X50) gl_X5_first_X20))
set_option maxRecDepth 20000 in
theorem gX5_first_X5_leastBy : GoodIn wsX5_first (wsV RX5 107 RX5 yX5_leastBy wsX5_leastBy) := goodIn_app (dg_c 37 rfl rfl (dg_c 38 rfl rfl (dg_c 39 rfl rfl (dg_c 5 rfl rfl dg_0)))) ggX5_first_X5_leastBy
set_option maxRecDepth 20000 in
theorem ggX5_first_X5_headIsCheapest : GoodIn wsX5_first wsX5_headIsCheapest := (dg_c 22 rfl rfl (dg_c 18 rfl rfl gl_X5_first_X50))
set_option maxRecDepth 20000 in
theorem gX5_first_X5_headIsCheapest : GoodIn wsX5_first (wsV RX5 113 RX5 yX5_headIsCheapest wsX5_headIsCheapest) := goodIn_app (dg_c 19 rfl rfl (dg_c 20 rfl rfl (dg_c 21 rfl rfl (dg_c 5 rfl rfl dg_0)))) ggX5_first_X5_headIsCheapest
theorem dX5_first_0 : decode cX5_first 0 = .ok (.iload_n 2, 1) := dq_28 dp_cX5_first rfl
theorem dX5_first_1 : decode cX5_first 1 = .ok (.ifCond .ne 5, 3) := dq_154 (v := 5) dp_cX5_first rfl rfl
theorem dX5_first_4 : decode cX5_first 4 = .ok (.iconst (-1), 1) := dq_2 dp_cX5_first rfl
theorem dX5_first_5 : decode cX5_first 5 = .ok (.ireturn, 1) := dq_172 dp_cX5_first rfl
theorem dX5_first_6 : decode cX5_first 6 = .ok (.aload_n 0, 1) := dq_42 dp_cX5_first rfl
theorem dX5_first_7 : decode cX5_first 7 = .ok (.iload_n 1, 1) := dq_27 dp_cX5_first rfl
theorem dX5_first_8 : decode cX5_first 8 = .ok (.iload_n 2, 1) := dq_28 dp_cX5_first rfl
theorem dX5_first_9 : decode cX5_first 9 = .ok (.iload_n 3, 1) := dq_29 dp_cX5_first rfl
theorem dX5_first_10 : decode cX5_first 10 = .ok (.invokevirtual 117, 3) := dq_182 dp_cX5_first rfl
theorem dX5_first_13 : decode cX5_first 13 = .ok (.istore 4, 2) := dq_54 dp_cX5_first rfl
theorem dX5_first_15 : decode cX5_first 15 = .ok (.iconst 0, 1) := dq_3 dp_cX5_first rfl
theorem dX5_first_16 : decode cX5_first 16 = .ok (.istore 5, 2) := dq_54 dp_cX5_first rfl
theorem dX5_first_18 : decode cX5_first 18 = .ok (.iload 5, 2) := dq_21 dp_cX5_first rfl
theorem dX5_first_20 : decode cX5_first 20 = .ok (.aload_n 0, 1) := dq_42 dp_cX5_first rfl
theorem dX5_first_21 : decode cX5_first 21 = .ok (.getfield 27, 3) := dq_180 dp_cX5_first rfl
theorem dX5_first_24 : decode cX5_first 24 = .ok (.if_icmp .ge 45, 3) := dq_162 (v := 45) dp_cX5_first rfl rfl
theorem dX5_first_27 : decode cX5_first 27 = .ok (.iload_n 1, 1) := dq_27 dp_cX5_first rfl
theorem dX5_first_28 : decode cX5_first 28 = .ok (.ifCond .le 41, 3) := dq_158 (v := 41) dp_cX5_first rfl rfl
theorem dX5_first_31 : decode cX5_first 31 = .ok (.aload_n 0, 1) := dq_42 dp_cX5_first rfl
theorem dX5_first_32 : decode cX5_first 32 = .ok (.iload 5, 2) := dq_21 dp_cX5_first rfl
theorem dX5_first_34 : decode cX5_first 34 = .ok (.iload_n 2, 1) := dq_28 dp_cX5_first rfl
theorem dX5_first_35 : decode cX5_first 35 = .ok (.iload_n 3, 1) := dq_29 dp_cX5_first rfl
theorem dX5_first_36 : decode cX5_first 36 = .ok (.invokevirtual 82, 3) := dq_182 dp_cX5_first rfl
theorem dX5_first_39 : decode cX5_first 39 = .ok (.astore 6, 2) := dq_58 dp_cX5_first rfl
theorem dX5_first_41 : decode cX5_first 41 = .ok (.aload 6, 2) := dq_25 dp_cX5_first rfl
theorem dX5_first_43 : decode cX5_first 43 = .ok (.ifnull 20, 3) := dq_198 (v := 20) dp_cX5_first rfl rfl
theorem dX5_first_46 : decode cX5_first 46 = .ok (.aload_n 0, 1) := dq_42 dp_cX5_first rfl
theorem dX5_first_47 : decode cX5_first 47 = .ok (.aload 6, 2) := dq_25 dp_cX5_first rfl
theorem dX5_first_49 : decode cX5_first 49 = .ok (.iload_n 1, 1) := dq_27 dp_cX5_first rfl
theorem dX5_first_50 : decode cX5_first 50 = .ok (.iload_n 2, 1) := dq_28 dp_cX5_first rfl
theorem dX5_first_51 : decode cX5_first 51 = .ok (.iload_n 3, 1) := dq_29 dp_cX5_first rfl
theorem dX5_first_52 : decode cX5_first 52 = .ok (.invokevirtual 107, 3) := dq_182 dp_cX5_first rfl
theorem dX5_first_55 : decode cX5_first 55 = .ok (.iload 4, 2) := dq_21 dp_cX5_first rfl
theorem dX5_first_57 : decode cX5_first 57 = .ok (.if_icmp .ne 6, 3) := dq_160 (v := 6) dp_cX5_first rfl rfl
theorem dX5_first_60 : decode cX5_first 60 = .ok (.iload 5, 2) := dq_21 dp_cX5_first rfl
theorem dX5_first_62 : decode cX5_first 62 = .ok (.ireturn, 1) := dq_172 dp_cX5_first rfl
theorem dX5_first_63 : decode cX5_first 63 = .ok (.iinc 5 1, 3) := dq_132 (v := 1) dp_cX5_first rfl (by decide) rfl
theorem dX5_first_66 : decode cX5_first 66 = .ok (.goto (-48), 3) := dq_167 (v := 65488) dp_cX5_first rfl rfl
theorem dX5_first_69 : decode cX5_first 69 = .ok (.aload_n 0, 1) := dq_42 dp_cX5_first rfl
theorem dX5_first_70 : decode cX5_first 70 = .ok (.iload_n 3, 1) := dq_29 dp_cX5_first rfl
theorem dX5_first_71 : decode cX5_first 71 = .ok (.invokevirtual 113, 3) := dq_182 dp_cX5_first rfl
theorem dX5_first_74 : decode cX5_first 74 = .ok (.ifCond .eq 8, 3) := dq_153 (v := 8) dp_cX5_first rfl rfl
theorem dX5_first_77 : decode cX5_first 77 = .ok (.bipush 101, 2) := dq_16 (v := 101) dp_cX5_first rfl rfl
theorem dX5_first_79 : decode cX5_first 79 = .ok (.goto 5, 3) := dq_167 (v := 5) dp_cX5_first rfl rfl
theorem dX5_first_82 : decode cX5_first 82 = .ok (.bipush 100, 2) := dq_16 (v := 100) dp_cX5_first rfl rfl
theorem dX5_first_84 : decode cX5_first 84 = .ok (.ireturn, 1) := dq_172 dp_cX5_first rfl

