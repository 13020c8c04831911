section
def wsX5_next_r1 : List Cond := (Cond.fieldLink RX5 27 "TheLiningsInIt$Ways" "count" "I") :: (Cond.methodLink RX5 82 yX5_mayBeAt) :: (Cond.instanceMethod yX5_mayBeAt) :: (Cond.selects RX5 yX5_mayBeAt yX5_mayBeAt) :: (Cond.initialized RX5) :: (Cond.code yX5_mayBeAt cX5_mayBeAt 5 (some (.object "TheLiningsInIt$Pull"))) :: (Cond.fieldLink RX5 23 "TheLiningsInIt$Ways" "pulls" "[LTheLiningsInIt$Pull;") :: (Cond.static yX7_within) :: (Cond.initialized RX7) :: (Cond.code yX7_within cX7_within 3 (some .boolean)) :: (Cond.methodLink RX5 75 yX2_mayBe) :: (Cond.instanceMethod yX2_mayBe) :: (Cond.selects RX2 yX2_mayBe yX2_mayBe) :: (Cond.initialized RX2) :: (Cond.code yX2_mayBe cX2_mayBe 3 (some .boolean)) :: (Cond.fieldLink RX2 18 "TheLiningsInIt$Pull" "takes" "I") :: (Cond.methodLink RX5 86 yX5_mostBy) :: (Cond.instanceMethod yX5_mostBy) :: (Cond.selects RX5 yX5_mostBy yX5_mostBy) :: (Cond.code yX5_mostBy cX5_mostBy 8 (some .int)) :: (Cond.fieldLink RX5 31 "TheLiningsInIt$Ways" "hurry" "I") :: (Cond.fieldLink RX5 49 "TheLiningsInIt$Pull" "takes" "I") :: (Cond.methodLink RX5 90 yX2_waysAt) :: (Cond.instanceMethod yX2_waysAt) :: []
def wsX5_next_r2 : List Cond := (Cond.selects RX2 yX2_waysAt yX2_waysAt) :: (Cond.code yX2_waysAt cX2_waysAt 3 (some .int)) :: (Cond.fieldLink RX2 9 "TheLiningsInIt$Pull" "kind" "I") :: (Cond.methodLink RX2 33 Lib.Math.min.name) :: (Cond.static Lib.Math.min.name) :: (Cond.initialized "java/lang/Math") :: (Cond.code Lib.Math.min.name Lib.Math.min.code 2 (some .int)) :: (Cond.methodLink RX2 39 Lib.Math.max.name) :: (Cond.static Lib.Math.max.name) :: (Cond.code Lib.Math.max.name Lib.Math.max.code 2 (some .int)) :: (Cond.methodLink RX2 29 yX2_calmWaysAt) :: (Cond.instanceMethod yX2_calmWaysAt) :: (Cond.selects RX2 yX2_calmWaysAt yX2_calmWaysAt) :: (Cond.code yX2_calmWaysAt cX2_calmWaysAt 2 (some .int)) :: (Cond.fieldLink RX2 15 "TheLiningsInIt$Pull" "a" "I") :: (Cond.methodLink RX5 93 yX2_shallower) :: (Cond.instanceMethod yX2_shallower) :: (Cond.selects RX2 yX2_shallower yX2_shallower) :: (Cond.code yX2_shallower cX2_shallower 2 (some .int)) :: (Cond.methodLink RX2 42 yX2_step) :: (Cond.instanceMethod yX2_step) :: (Cond.selects RX2 yX2_step yX2_step) :: (Cond.code yX2_step cX2_step 1 (some .int)) :: (Cond.methodLink RX5 97 yX5_most) :: []
def wsX5_next_r3 : List Cond := (Cond.instanceMethod yX5_most) :: (Cond.selects RX5 yX5_most yX5_most) :: (Cond.methodLink RX5 101 yX2_deeper) :: (Cond.instanceMethod yX2_deeper) :: (Cond.selects RX2 yX2_deeper yX2_deeper) :: (Cond.code yX2_deeper cX2_deeper 4 (some .int)) :: (Cond.code yX5_most cX5_most 9 (some .int)) :: (Cond.fieldLink RX5 79 "TheLiningsInIt$Ways" "POWERS" "[I") :: (Cond.fieldLink RX5 34 "TheLiningsInIt$Ways" "longest" "I") :: (Cond.fieldLink RX5 9 "TheLiningsInIt$Ways" "knownMost" "[I") :: (Cond.methodLink RX5 52 Lib.Math.max.name) :: []
def wsX5_next : List Cond := (.code yX5_next cX5_next 9 (some .int)) :: ((wsX5_next_r1 ++ (wsX5_next_r2 ++ wsX5_next_r3)) ++ wsX50 ++ wsX20)
def wsX5_least_r1 : List Cond := (Cond.fieldLink RX5 34 "TheLiningsInIt$Ways" "longest" "I") :: (Cond.fieldLink RX5 15 "TheLiningsInIt$Ways" "knownLeast" "[I") :: (Cond.fieldLink RX5 27 "TheLiningsInIt$Ways" "count" "I") :: (Cond.methodLink RX5 110 Lib.Math.min.name) :: (Cond.static Lib.Math.min.name) :: (Cond.initialized "java/lang/Math") :: (Cond.code Lib.Math.min.name Lib.Math.min.code 2 (some .int)) :: (Cond.methodLink RX5 104 yX5_leastAtOnce) :: (Cond.instanceMethod yX5_leastAtOnce) :: (Cond.selects RX5 yX5_leastAtOnce yX5_leastAtOnce) :: (Cond.initialized RX5) :: (Cond.code yX5_leastAtOnce cX5_leastAtOnce 3 (some .int)) :: (Cond.fieldLink RX5 79 "TheLiningsInIt$Ways" "POWERS" "[I") :: (Cond.fieldLink RX5 18 "TheLiningsInIt$Ways" "costs" "[I") :: (Cond.methodLink RX5 113 yX5_headIsCheapest) :: (Cond.instanceMethod yX5_headIsCheapest) :: (Cond.selects RX5 yX5_headIsCheapest yX5_headIsCheapest) :: (Cond.code yX5_headIsCheapest cX5_headIsCheapest 2 (some .boolean)) :: (Cond.methodLink RX5 82 yX5_mayBeAt) :: (Cond.instanceMethod yX5_mayBeAt) :: (Cond.selects RX5 yX5_mayBeAt yX5_mayBeAt) :: (Cond.code yX5_mayBeAt cX5_mayBeAt 5 (some (.object "TheLiningsInIt$Pull"))) :: (Cond.fieldLink RX5 23 "TheLiningsInIt$Ways" "pulls" "[LTheLiningsInIt$Pull;") :: (Cond.static yX7_within) :: []
def wsX5_least_r2 : List Cond := (Cond.initialized RX7) :: (Cond.code yX7_within cX7_within 3 (some .boolean)) :: (Cond.methodLink RX5 75 yX2_mayBe) :: (Cond.instanceMethod yX2_mayBe) :: (Cond.selects RX2 yX2_mayBe yX2_mayBe) :: (Cond.initialized RX2) :: (Cond.code yX2_mayBe cX2_mayBe 3 (some .boolean)) :: (Cond.fieldLink RX2 18 "TheLiningsInIt$Pull" "takes" "I") :: (Cond.methodLink RX5 107 yX5_leastBy) :: (Cond.instanceMethod yX5_leastBy) :: (Cond.selects RX5 yX5_leastBy yX5_leastBy) :: (Cond.code yX5_leastBy cX5_leastBy 8 (some .int)) :: (Cond.fieldLink RX5 31 "TheLiningsInIt$Ways" "hurry" "I") :: (Cond.fieldLink RX5 49 "TheLiningsInIt$Pull" "takes" "I") :: (Cond.fieldLink RX5 46 "TheLiningsInIt$Pull" "kind" "I") :: (Cond.methodLink RX5 90 yX2_waysAt) :: (Cond.instanceMethod yX2_waysAt) :: (Cond.selects RX2 yX2_waysAt yX2_waysAt) :: (Cond.code yX2_waysAt cX2_waysAt 3 (some .int)) :: (Cond.fieldLink RX2 9 "TheLiningsInIt$Pull" "kind" "I") :: (Cond.methodLink RX2 33 Lib.Math.min.name) :: (Cond.methodLink RX2 39 Lib.Math.max.name) :: (Cond.static Lib.Math.max.name) :: (Cond.code Lib.Math.max.name Lib.Math.max.code 2 (some .int)) :: []
def wsX5_least_r3 : List Cond := (Cond.methodLink RX2 29 yX2_calmWaysAt) :: (Cond.instanceMethod yX2_calmWaysAt) :: (Cond.selects RX2 yX2_calmWaysAt yX2_calmWaysAt) :: (Cond.code yX2_calmWaysAt cX2_calmWaysAt 2 (some .int)) :: (Cond.fieldLink RX2 15 "TheLiningsInIt$Pull" "a" "I") :: (Cond.methodLink RX5 93 yX2_shallower) :: (Cond.instanceMethod yX2_shallower) :: (Cond.selects RX2 yX2_shallower yX2_shallower) :: (Cond.code yX2_shallower cX2_shallower 2 (some .int)) :: (Cond.methodLink RX2 42 yX2_step) :: (Cond.instanceMethod yX2_step) :: (Cond.selects RX2 yX2_step yX2_step) :: (Cond.code yX2_step cX2_step 1 (some .int)) :: (Cond.methodLink RX5 117 yX5_least) :: (Cond.instanceMethod yX5_least) :: (Cond.selects RX5 yX5_least yX5_least) :: (Cond.methodLink RX5 101 yX2_deeper) :: (Cond.instanceMethod yX2_deeper) :: (Cond.selects RX2 yX2_deeper yX2_deeper) :: (Cond.code yX2_deeper cX2_deeper 4 (some .int)) :: []
def wsX5_least : List Cond := (.code yX5_least cX5_least 9 (some .int)) :: ((wsX5_least_r1 ++ (wsX5_least_r2 ++ wsX5_least_r3)) ++ wsX50 ++ wsX20)
def wsX5_leastBy_r1 : List Cond := (Cond.fieldLink RX5 31 "TheLiningsInIt$Ways" "hurry" "I") :: (Cond.fieldLink RX5 49 "TheLiningsInIt$Pull" "takes" "I") :: (Cond.fieldLink RX5 46 "TheLiningsInIt$Pull" "kind" "I") :: (Cond.fieldLink RX5 79 "TheLiningsInIt$Ways" "POWERS" "[I") :: (Cond.fieldLink RX5 18 "TheLiningsInIt$Ways" "costs" "[I") :: (Cond.methodLink RX5 90 yX2_waysAt) :: (Cond.instanceMethod yX2_waysAt) :: (Cond.selects RX2 yX2_waysAt yX2_waysAt) :: (Cond.initialized RX2) :: (Cond.code yX2_waysAt cX2_waysAt 3 (some .int)) :: (Cond.fieldLink RX2 9 "TheLiningsInIt$Pull" "kind" "I") :: (Cond.methodLink RX2 33 Lib.Math.min.name) :: (Cond.static Lib.Math.min.name) :: (Cond.initialized "java/lang/Math") :: (Cond.code Lib.Math.min.name Lib.Math.min.code 2 (some .int)) :: (Cond.methodLink RX2 39 Lib.Math.max.name) :: (Cond.static Lib.Math.max.name) :: (Cond.code Lib.Math.max.name Lib.Math.max.code 2 (some .int)) :: (Cond.methodLink RX2 29 yX2_calmWaysAt) :: (Cond.instanceMethod yX2_calmWaysAt) :: (Cond.selects RX2 yX2_calmWaysAt yX2_calmWaysAt) :: (Cond.code yX2_calmWaysAt cX2_calmWaysAt 2 (some .int)) :: (Cond.fieldLink RX2 15 "TheLiningsInIt$Pull" "a" "I") :: (Cond.methodLink RX5 93 yX2_shallower) :: []
def wsX5_leastBy_r2 : List Cond := (Cond.instanceMethod yX2_shallower) :: (Cond.selects RX2 yX2_shallower yX2_shallower) :: (Cond.code yX2_shallower cX2_shallower 2 (some .int)) :: (Cond.methodLink RX2 42 yX2_step) :: (Cond.instanceMethod yX2_step) :: (Cond.selects RX2 yX2_step yX2_step) :: (Cond.code yX2_step cX2_step 1 (some .int)) :: (Cond.methodLink RX5 117 yX5_least) :: (Cond.instanceMethod yX5_least) :: (Cond.selects RX5 yX5_least yX5_least) :: (Cond.initialized RX5) :: (Cond.methodLink RX5 101 yX2_deeper) :: (Cond.instanceMethod yX2_deeper) :: (Cond.selects RX2 yX2_deeper yX2_deeper) :: (Cond.code yX2_deeper cX2_deeper 4 (some .int)) :: (Cond.code yX5_least cX5_least 9 (some .int)) :: (Cond.fieldLink RX5 34 "TheLiningsInIt$Ways" "longest" "I") :: (Cond.fieldLink RX5 15 "TheLiningsInIt$Ways" "knownLeast" "[I") :: (Cond.fieldLink RX5 27 "TheLiningsInIt$Ways" "count" "I") :: (Cond.methodLink RX5 110 Lib.Math.min.name) :: (Cond.methodLink RX5 104 yX5_leastAtOnce) :: (Cond.instanceMethod yX5_leastAtOnce) :: (Cond.selects RX5 yX5_leastAtOnce yX5_leastAtOnce) :: (Cond.code yX5_leastAtOnce cX5_leastAtOnce 3 (some .int)) :: []
def wsX5_leastBy_r3 : List Cond := (Cond.methodLink RX5 113 yX5_headIsCheapest) :: (Cond.instanceMethod yX5_headIsCheapest) :: (Cond.selects RX5 yX5_headIsCheapest yX5_headIsCheapest) :: (Cond.code yX5_headIsCheapest cX5_headIsCheapest 2 (some .boolean)) :: (Cond.methodLink RX5 82 yX5_mayBeAt) :: (Cond.instanceMethod yX5_mayBeAt) :: (Cond.selects RX5 yX5_mayBeAt yX5_mayBeAt) :: (Cond.code yX5_mayBeAt cX5_mayBeAt 5 (some (.object "TheLiningsInIt$Pull"))) :: (Cond.fieldLink RX5 23 "TheLiningsInIt$Ways" "pulls" "[LTheLiningsInIt$Pull;") :: (Cond.static yX7_within) :: (Cond.initialized RX7) :: (Cond.code yX7_within cX7_within 3 (some .boolean)) :: (Cond.methodLink RX5 75 yX2_mayBe) :: (Cond.instanceMethod yX2_mayBe) :: (Cond.selects RX2 yX2_mayBe yX2_mayBe) :: (Cond.code yX2_mayBe cX2_mayBe 3 (some .boolean)) :: (Cond.fieldLink RX2 18 "TheLiningsInIt$Pull" "takes" "I") :: (Cond.methodLink RX5 107 yX5_leastBy) :: (Cond.instanceMethod yX5_leastBy) :: (Cond.selects RX5 yX5_leastBy yX5_leastBy) :: []
def wsX5_leastBy : List Cond := (.code yX5_leastBy cX5_leastBy 8 (some .int)) :: ((wsX5_leastBy_r1 ++ (wsX5_leastBy_r2 ++ wsX5_leastBy_r3)) ++ wsX50 ++ wsX20)
def wsX5_first_r1 : List Cond := (Cond.fieldLink RX5 27 "TheLiningsInIt$Ways" "count" "I") :: (Cond.methodLink RX5 117 yX5_least) :: (Cond.instanceMethod yX5_least) :: (Cond.selects RX5 yX5_least yX5_least) :: (Cond.initialized RX5) :: (Cond.code yX5_least cX5_least 9 (some .int)) :: (Cond.fieldLink RX5 34 "TheLiningsInIt$Ways" "longest" "I") :: (Cond.fieldLink RX5 15 "TheLiningsInIt$Ways" "knownLeast" "[I") :: (Cond.methodLink RX5 110 Lib.Math.min.name) :: (Cond.static Lib.Math.min.name) :: (Cond.initialized "java/lang/Math") :: (Cond.code Lib.Math.min.name Lib.Math.min.code 2 (some .int)) :: (Cond.methodLink RX5 104 yX5_leastAtOnce) :: (Cond.instanceMethod yX5_leastAtOnce) :: (Cond.selects RX5 yX5_leastAtOnce yX5_leastAtOnce) :: (Cond.code yX5_leastAtOnce cX5_leastAtOnce 3 (some .int)) :: (Cond.fieldLink RX5 79 "TheLiningsInIt$Ways" "POWERS" "[I") :: (Cond.fieldLink RX5 18 "TheLiningsInIt$Ways" "costs" "[I") :: (Cond.methodLink RX5 113 yX5_headIsCheapest) :: (Cond.instanceMethod yX5_headIsCheapest) :: (Cond.selects RX5 yX5_headIsCheapest yX5_headIsCheapest) :: (Cond.code yX5_headIsCheapest cX5_headIsCheapest 2 (some .boolean)) :: (Cond.methodLink RX5 82 yX5_mayBeAt) :: (Cond.instanceMethod yX5_mayBeAt) :: []
def wsX5_first_r2 : List Cond := (Cond.selects RX5 yX5_mayBeAt yX5_mayBeAt) :: (Cond.code yX5_mayBeAt cX5_mayBeAt 5 (some (.object "TheLiningsInIt$Pull"))) :: (Cond.fieldLink RX5 23 "TheLiningsInIt$Ways" "pulls" "[LTheLiningsInIt$Pull;") :: (Cond.static yX7_within) :: (Cond.initialized RX7) :: (Cond.code yX7_within cX7_within 3 (some .boolean)) :: (Cond.methodLink RX5 75 yX2_mayBe) :: (Cond.instanceMethod yX2_mayBe) :: (Cond.selects RX2 yX2_mayBe yX2_mayBe) :: (Cond.initialized RX2) :: (Cond.code yX2_mayBe cX2_mayBe 3 (some .boolean)) :: (Cond.fieldLink RX2 18 "TheLiningsInIt$Pull" "takes" "I") :: (Cond.methodLink RX5 107 yX5_leastBy) :: (Cond.instanceMethod yX5_leastBy) :: (Cond.selects RX5 yX5_leastBy yX5_leastBy) :: (Cond.code yX5_leastBy cX5_leastBy 8 (some .int)) :: (Cond.fieldLink RX5 31 "TheLiningsInIt$Ways" "hurry" "I") :: (Cond.fieldLink RX5 49 "TheLiningsInIt$Pull" "takes" "I") :: (Cond.fieldLink RX5 46 "TheLiningsInIt$Pull" "kind" "I") :: (Cond.methodLink RX5 90 yX2_waysAt) :: (Cond.instanceMethod yX2_waysAt) :: (Cond.selects RX2 yX2_waysAt yX2_waysAt) :: (Cond.code yX2_waysAt cX2_waysAt 3 (some .int)) :: (Cond.fieldLink RX2 9 "TheLiningsInIt$Pull" "kind" "I") :: []
def wsX5_first_r3 : List Cond := (Cond.methodLink RX2 33 Lib.Math.min.name) :: (Cond.methodLink RX2 39 Lib.Math.max.name) :: (Cond.static Lib.Math.max.name) :: (Cond.code Lib.Math.max.name Lib.Math.max.code 2 (some .int)) :: (Cond.methodLink RX2 29 yX2_calmWaysAt) :: (Cond.instanceMethod yX2_calmWaysAt) :: (Cond.selects RX2 yX2_calmWaysAt yX2_calmWaysAt) :: (Cond.code yX2_calmWaysAt cX2_calmWaysAt 2 (some .int)) :: (Cond.fieldLink RX2 15 "TheLiningsInIt$Pull" "a" "I") :: (Cond.methodLink RX5 93 yX2_shallower) :: (Cond.instanceMethod yX2_shallower) :: (Cond.selects RX2 yX2_shallower yX2_shallower) :: (Cond.code yX2_shallower cX2_shallower 2 (some .int)) :: (Cond.methodLink RX2 42 yX2_step) :: (Cond.instanceMethod yX2_step) :: (Cond.selects RX2 yX2_step yX2_step) :: (Cond.code yX2_step cX2_step 1 (some .int)) :: (Cond.methodLink RX5 101 yX2_deeper) :: (Cond.instanceMethod yX2_deeper) :: (Cond.selects RX2 yX2_deeper yX2_deeper) :: (Cond.code yX2_deeper cX2_deeper 4 (some .int)) :: []
def wsX5_first : List Cond := (.code yX5_first cX5_first 7 (some .int)) :: ((wsX5_first_r1 ++ (wsX5_first_r2 ++ wsX5_first_r3)) ++ wsX50 ++ wsX20)
set_option maxRecDepth 20000 in
theorem gl_X5_next_X50 : GoodIn wsX5_next wsX50 := (dg_t (dg_l (dg_r gw_wsX50)))
theorem gl_X5_next_X20 : GoodIn wsX5_next wsX20 := (dg_t (dg_r gw_wsX20))
theorem ggX5_next_X5_mayBeAt : GoodIn wsX5_next wsX5_mayBeAt := (dg_c 6 rfl rfl (dg_c 7 rfl rfl (dg_c 8 rfl rfl (dg_c 9 rfl rfl (dg_c 10 rfl rfl (dg_c 11 rfl rfl (dg_c 12 rfl rfl (dg_c 13 rfl rfl (dg_c 14 rfl rfl (dg_c 15 rfl rfl (dg_c 16 rfl rfl (goodIn_app gl_X5_next_X50 gl_X5_next_X20))))))))))))
set_option maxRecDepth 20000 in
theorem gX5_next_X5_mayBeAt : GoodIn wsX5_next (wsV RX5 82 RX5 yX5_mayBeAt wsX5_mayBeAt) := goodIn_app (dg_c 2 rfl rfl (dg_c 3 rfl rfl (dg_c 4 rfl rfl (dg_c 5 rfl rfl dg_0)))) ggX5_next_X5_mayBeAt
set_option maxRecDepth 20000 in
theorem ggX5_next_X5_mostBy : GoodIn wsX5_next wsX5_mostBy := (dg_c 20 rfl rfl (goodIn_app (goodIn_app (goodIn_app (dg_c 21 rfl rfl (dg_c 22 rfl rfl (dg_c 23 rfl rfl (dg_c 24 rfl rfl (dg_c 25 rfl rfl (dg_c 14 rfl rfl (dg_c 26 rfl rfl (dg_c 27 rfl rfl (dg_c 28 rfl rfl (dg_c 29 rfl rfl (dg_c 30 rfl rfl (dg_c 31 rfl rfl (dg_c 32 rfl rfl (dg_c 33 rfl rfl (dg_c 34 rfl rfl (dg_c 35 rfl rfl (dg_c 36 rfl rfl (dg_c 37 rfl rfl (dg_c 38 rfl rfl (dg_c 39 rfl rfl (dg_c 40 rfl rfl (dg_c 41 rfl rfl (dg_c 42 rfl rfl (dg_c 43 rfl rfl dg_0)))))))))))))))))))))))) (goodIn_app (dg_c 44 rfl rfl (dg_c 45 rfl rfl (dg_c 46 rfl rfl (dg_c 47 rfl rfl (dg_c 48 rfl rfl (dg_c 49 rfl rfl (dg_c 50 rfl rfl (dg_c 5 rfl rfl (dg_c 51 rfl rfl (dg_c 52 rfl rfl (dg_c 53 rfl rfl (dg_c 54 rfl rfl (dg_c 55 rfl rfl (dg_c 56 rfl rfl (dg_c 57 rfl rfl (dg_c 58 rfl rfl (dg_c 1 rfl rfl (dg_c 59 rfl rfl (dg_c 2 rfl rfl (dg_c 3 rfl rfl (dg_c 4 rfl rfl (dg_c 6 rfl rfl (dg_c 7 rfl rfl (dg_c 8 rfl rfl dg_0)))))))))))))))))))))))) (dg_c 9 rfl rfl (dg_c 10 rfl rfl (dg_c 11 rfl rfl (dg_c 12 rfl rfl (dg_c 13 rfl rfl (dg_c 15 rfl rfl (dg_c 16 rfl rfl (dg_c 17 rfl rfl (dg_c 18 rfl rfl (dg_c 19 rfl rfl dg_0)))))))))))) gl_X5_next_X50) gl_X5_next_X20))
set_option maxRecDepth 20000 in
theorem gX5_next_X5_mostBy : GoodIn wsX5_next (wsV RX5 86 RX5 yX5_mostBy wsX5_mostBy) := goodIn_app (dg_c 17 rfl rfl (dg_c 18 rfl rfl (dg_c 19 rfl rfl (dg_c 5 rfl rfl dg_0)))) ggX5_next_X5_mostBy
theorem dX5_next_0 : decode cX5_next 0 = .ok (.iconst (-1), 1) := dq_2 dp_cX5_next rfl
theorem dX5_next_1 : decode cX5_next 1 = .ok (.istore 4, 2) := dq_54 dp_cX5_next rfl
theorem dX5_next_3 : decode cX5_next 3 = .ok (.iconst (-1), 1) := dq_2 dp_cX5_next rfl
theorem dX5_next_4 : decode cX5_next 4 = .ok (.istore 5, 2) := dq_54 dp_cX5_next rfl
theorem dX5_next_6 : decode cX5_next 6 = .ok (.iconst 0, 1) := dq_3 dp_cX5_next rfl
theorem dX5_next_7 : decode cX5_next 7 = .ok (.istore 6, 2) := dq_54 dp_cX5_next rfl
theorem dX5_next_9 : decode cX5_next 9 = .ok (.iload 6, 2) := dq_21 dp_cX5_next rfl
theorem dX5_next_11 : decode cX5_next 11 = .ok (.aload_n 0, 1) := dq_42 dp_cX5_next rfl
theorem dX5_next_12 : decode cX5_next 12 = .ok (.getfield 27, 3) := dq_180 dp_cX5_next rfl
theorem dX5_next_15 : decode cX5_next 15 = .ok (.if_icmp .ge 58, 3) := dq_162 (v := 58) dp_cX5_next rfl rfl
theorem dX5_next_18 : decode cX5_next 18 = .ok (.iload_n 1, 1) := dq_27 dp_cX5_next rfl
theorem dX5_next_19 : decode cX5_next 19 = .ok (.ifCond .le 54, 3) := dq_158 (v := 54) dp_cX5_next rfl rfl
theorem dX5_next_22 : decode cX5_next 22 = .ok (.aload_n 0, 1) := dq_42 dp_cX5_next rfl
theorem dX5_next_23 : decode cX5_next 23 = .ok (.iload 6, 2) := dq_21 dp_cX5_next rfl
theorem dX5_next_25 : decode cX5_next 25 = .ok (.iload_n 2, 1) := dq_28 dp_cX5_next rfl
theorem dX5_next_26 : decode cX5_next 26 = .ok (.iload_n 3, 1) := dq_29 dp_cX5_next rfl
theorem dX5_next_27 : decode cX5_next 27 = .ok (.invokevirtual 82, 3) := dq_182 dp_cX5_next rfl
theorem dX5_next_30 : decode cX5_next 30 = .ok (.astore 7, 2) := dq_58 dp_cX5_next rfl
theorem dX5_next_32 : decode cX5_next 32 = .ok (.aload 7, 2) := dq_25 dp_cX5_next rfl
theorem dX5_next_34 : decode cX5_next 34 = .ok (.ifnonnull 7, 3) := dq_199 (v := 7) dp_cX5_next rfl rfl
theorem dX5_next_37 : decode cX5_next 37 = .ok (.iconst (-1), 1) := dq_2 dp_cX5_next rfl
theorem dX5_next_38 : decode cX5_next 38 = .ok (.goto 12, 3) := dq_167 (v := 12) dp_cX5_next rfl rfl
theorem dX5_next_41 : decode cX5_next 41 = .ok (.aload_n 0, 1) := dq_42 dp_cX5_next rfl
theorem dX5_next_42 : decode cX5_next 42 = .ok (.aload 7, 2) := dq_25 dp_cX5_next rfl
theorem dX5_next_44 : decode cX5_next 44 = .ok (.iload_n 1, 1) := dq_27 dp_cX5_next rfl
theorem dX5_next_45 : decode cX5_next 45 = .ok (.iload_n 2, 1) := dq_28 dp_cX5_next rfl
theorem dX5_next_46 : decode cX5_next 46 = .ok (.iload_n 3, 1) := dq_29 dp_cX5_next rfl
theorem dX5_next_47 : decode cX5_next 47 = .ok (.invokevirtual 86, 3) := dq_182 dp_cX5_next rfl
theorem dX5_next_50 : decode cX5_next 50 = .ok (.istore 8, 2) := dq_54 dp_cX5_next rfl
theorem dX5_next_52 : decode cX5_next 52 = .ok (.iload 8, 2) := dq_21 dp_cX5_next rfl
theorem dX5_next_54 : decode cX5_next 54 = .ok (.iload 5, 2) := dq_21 dp_cX5_next rfl
theorem dX5_next_56 : decode cX5_next 56 = .ok (.if_icmp .le 11, 3) := dq_164 (v := 11) dp_cX5_next rfl rfl
theorem dX5_next_59 : decode cX5_next 59 = .ok (.iload 8, 2) := dq_21 dp_cX5_next rfl
theorem dX5_next_61 : decode cX5_next 61 = .ok (.istore 5, 2) := dq_54 dp_cX5_next rfl
theorem dX5_next_63 : decode cX5_next 63 = .ok (.iload 6, 2) := dq_21 dp_cX5_next rfl
theorem dX5_next_65 : decode cX5_next 65 = .ok (.istore 4, 2) := dq_54 dp_cX5_next rfl
theorem dX5_next_67 : decode cX5_next 67 = .ok (.iinc 6 1, 3) := dq_132 (v := 1) dp_cX5_next rfl (by decide) rfl
theorem dX5_next_70 : decode cX5_next 70 = .ok (.goto (-61), 3) := dq_167 (v := 65475) dp_cX5_next rfl rfl
theorem dX5_next_73 : decode cX5_next 73 = .ok (.iload 4, 2) := dq_21 dp_cX5_next rfl
theorem dX5_next_75 : decode cX5_next 75 = .ok (.ireturn, 1) := dq_172 dp_cX5_next rfl
set_option maxRecDepth 20000 in
theorem gl_X5_least_X50 : GoodIn wsX5_least wsX50 := (dg_t (dg_l (dg_r gw_wsX50)))
theorem ggX5_least_X5_leastAtOnce : GoodIn wsX5_least wsX5_leastAtOnce := (dg_c 12 rfl rfl (dg_c 13 rfl rfl (dg_c 14 rfl rfl (dg_c 15 rfl rfl (dg_c 16 rfl rfl (dg_c 17 rfl rfl (dg_c 11 rfl rfl (dg_c 18 rfl rfl gl_X5_least_X50))))))))
set_option maxRecDepth 20000 in
theorem gX5_least_X5_leastAtOnce : GoodIn wsX5_least (wsV RX5 104 RX5 yX5_leastAtOnce wsX5_leastAtOnce) := goodIn_app (dg_c 8 rfl rfl (dg_c 9 rfl rfl (dg_c 10 rfl rfl (dg_c 11 rfl rfl dg_0)))) ggX5_least_X5_leastAtOnce
set_option maxRecDepth 20000 in
theorem gl_X5_least_X20 : GoodIn wsX5_least wsX20 := (dg_t (dg_r gw_wsX20))
theorem ggX5_least_X5_mayBeAt : GoodIn wsX5_least wsX5_mayBeAt := (dg_c 22 rfl rfl (dg_c 23 rfl rfl (dg_c 24 rfl rfl (dg_c 25 rfl rfl (dg_c 26 rfl rfl (dg_c 27 rfl rfl (dg_c 28 rfl rfl (dg_c 29 rfl rfl (dg_c 30 rfl rfl (dg_c 31 rfl rfl (dg_c 32 rfl rfl (goodIn_app gl_X5_least_X50 gl_X5_least_X20))))))))))))
set_option maxRecDepth 20000 in
theorem gX5_least_X5_mayBeAt : GoodIn wsX5_least (wsV RX5 82 RX5 yX5_mayBeAt wsX5_mayBeAt) := goodIn_app (dg_c 19 rfl rfl (dg_c 20 rfl rfl (dg_c 21 rfl rfl (dg_c 11 rfl rfl dg_0)))) ggX5_least_X5_mayBeAt
set_option maxRecDepth 20000 in
theorem ggX5_least_X5_leastBy : GoodIn wsX5_least wsX5_leastBy := (dg_c 36 rfl rfl (goodIn_app (goodIn_app (goodIn_app (dg_c 37 rfl rfl (dg_c 38 rfl rfl (dg_c 39 rfl rfl (dg_c 13 rfl rfl (dg_c 14 rfl rfl (dg_c 40 rfl rfl (dg_c 41 rfl rfl (dg_c 42 rfl rfl (dg_c 30 rfl rfl (dg_c 43 rfl rfl (dg_c 44 rfl rfl (dg_c 45 rfl rfl (dg_c 5 rfl rfl (dg_c 6 rfl rfl (dg_c 7 rfl rfl (dg_c 46 rfl rfl (dg_c 47 rfl rfl (dg_c 48 rfl rfl (dg_c 49 rfl rfl (dg_c 50 rfl rfl (dg_c 51 rfl rfl (dg_c 52 rfl rfl (dg_c 53 rfl rfl (dg_c 54 rfl rfl dg_0)))))))))))))))))))))))) (goodIn_app (dg_c 55 rfl rfl (dg_c 56 rfl rfl (dg_c 57 rfl rfl (dg_c 58 rfl rfl (dg_c 59 rfl rfl (dg_c 60 rfl rfl (dg_c 61 rfl rfl (dg_c 62 rfl rfl (dg_c 63 rfl rfl (dg_c 64 rfl rfl (dg_c 11 rfl rfl (dg_c 65 rfl rfl (dg_c 66 rfl rfl (dg_c 67 rfl rfl (dg_c 68 rfl rfl (dg_c 0 rfl rfl (dg_c 1 rfl rfl (dg_c 2 rfl rfl (dg_c 3 rfl rfl (dg_c 4 rfl rfl (dg_c 8 rfl rfl (dg_c 9 rfl rfl (dg_c 10 rfl rfl (dg_c 12 rfl rfl dg_0)))))))))))))))))))))))) (dg_c 15 rfl rfl (dg_c 16 rfl rfl (dg_c 17 rfl rfl (dg_c 18 rfl rfl (dg_c 19 rfl rfl (dg_c 20 rfl rfl (dg_c 21 rfl rfl (dg_c 22 rfl rfl (dg_c 23 rfl rfl (dg_c 24 rfl rfl (dg_c 25 rfl rfl (dg_c 26 rfl rfl (dg_c 27 rfl rfl (dg_c 28 rfl rfl (dg_c 29 rfl rfl (dg_c 31 rfl rfl (dg_c 32 rfl rfl (dg_c 33 rfl rfl (dg_c 34 rfl rfl (dg_c 35 rfl rfl dg_0)))))))))))))))))))))) gl_X5_least_X50) gl_X5_least_X20))
set_option maxRecDepth 20000 in
theorem gX5_least_X5_leastBy : GoodIn wsX5_least (wsV RX5 107 RX5 yX5_leastBy wsX5_leastBy) := goodIn_app (dg_c 33 rfl rfl (dg_c 34 rfl rfl (dg_c 35 rfl rfl (dg_c 11 rfl rfl dg_0)))) ggX5_least_X5_leastBy
theorem dX5_least_0 : decode cX5_least 0 = .ok (.iload_n 1, 1) := dq_27 dp_cX5_least rfl
theorem dX5_least_1 : decode cX5_least 1 = .ok (.ifCond .lt 19, 3) := dq_155 (v := 19) dp_cX5_least rfl rfl
theorem dX5_least_4 : decode cX5_least 4 = .ok (.iload_n 1, 1) := dq_27 dp_cX5_least rfl
theorem dX5_least_5 : decode cX5_least 5 = .ok (.iconst 4, 1) := dq_7 dp_cX5_least rfl
theorem dX5_least_6 : decode cX5_least 6 = .ok (.if_icmp .gt 14, 3) := dq_163 (v := 14) dp_cX5_least rfl rfl
theorem dX5_least_9 : decode cX5_least 9 = .ok (.iload_n 2, 1) := dq_28 dp_cX5_least rfl
theorem dX5_least_10 : decode cX5_least 10 = .ok (.iconst 1, 1) := dq_4 dp_cX5_least rfl
theorem dX5_least_11 : decode cX5_least 11 = .ok (.if_icmp .lt 9, 3) := dq_161 (v := 9) dp_cX5_least rfl rfl
theorem dX5_least_14 : decode cX5_least 14 = .ok (.iload_n 2, 1) := dq_28 dp_cX5_least rfl
theorem dX5_least_15 : decode cX5_least 15 = .ok (.bipush 24, 2) := dq_16 (v := 24) dp_cX5_least rfl rfl
theorem dX5_least_17 : decode cX5_least 17 = .ok (.if_icmp .le 5, 3) := dq_164 (v := 5) dp_cX5_least rfl rfl
theorem dX5_least_20 : decode cX5_least 20 = .ok (.iconst 0, 1) := dq_3 dp_cX5_least rfl
theorem dX5_least_21 : decode cX5_least 21 = .ok (.ireturn, 1) := dq_172 dp_cX5_least rfl
theorem dX5_least_22 : decode cX5_least 22 = .ok (.iload_n 3, 1) := dq_29 dp_cX5_least rfl
theorem dX5_least_23 : decode cX5_least 23 = .ok (.iload_n 1, 1) := dq_27 dp_cX5_least rfl
theorem dX5_least_24 : decode cX5_least 24 = .ok (.aload_n 0, 1) := dq_42 dp_cX5_least rfl
theorem dX5_least_25 : decode cX5_least 25 = .ok (.getfield 34, 3) := dq_180 dp_cX5_least rfl
theorem dX5_least_28 : decode cX5_least 28 = .ok (.imul, 1) := dq_104 dp_cX5_least rfl
theorem dX5_least_29 : decode cX5_least 29 = .ok (.bipush 30, 2) := dq_16 (v := 30) dp_cX5_least rfl rfl
theorem dX5_least_31 : decode cX5_least 31 = .ok (.iadd, 1) := dq_96 dp_cX5_least rfl
theorem dX5_least_32 : decode cX5_least 32 = .ok (.if_icmp .lt 7, 3) := dq_161 (v := 7) dp_cX5_least rfl rfl
theorem dX5_least_35 : decode cX5_least 35 = .ok (.iconst 1, 1) := dq_4 dp_cX5_least rfl
theorem dX5_least_36 : decode cX5_least 36 = .ok (.goto 4, 3) := dq_167 (v := 4) dp_cX5_least rfl rfl
theorem dX5_least_39 : decode cX5_least 39 = .ok (.iconst 0, 1) := dq_3 dp_cX5_least rfl
theorem dX5_least_40 : decode cX5_least 40 = .ok (.istore 4, 2) := dq_54 dp_cX5_least rfl
theorem dX5_least_42 : decode cX5_least 42 = .ok (.iload_n 1, 1) := dq_27 dp_cX5_least rfl
theorem dX5_least_43 : decode cX5_least 43 = .ok (.bipush 25, 2) := dq_16 (v := 25) dp_cX5_least rfl rfl
theorem dX5_least_45 : decode cX5_least 45 = .ok (.imul, 1) := dq_104 dp_cX5_least rfl
theorem dX5_least_46 : decode cX5_least 46 = .ok (.iload_n 2, 1) := dq_28 dp_cX5_least rfl
theorem dX5_least_47 : decode cX5_least 47 = .ok (.iadd, 1) := dq_96 dp_cX5_least rfl
theorem dX5_least_48 : decode cX5_least 48 = .ok (.istore 5, 2) := dq_54 dp_cX5_least rfl
theorem dX5_least_50 : decode cX5_least 50 = .ok (.iload 4, 2) := dq_21 dp_cX5_least rfl
theorem dX5_least_52 : decode cX5_least 52 = .ok (.ifCond .eq 22, 3) := dq_153 (v := 22) dp_cX5_least rfl rfl
theorem dX5_least_55 : decode cX5_least 55 = .ok (.aload_n 0, 1) := dq_42 dp_cX5_least rfl
theorem dX5_least_56 : decode cX5_least 56 = .ok (.getfield 15, 3) := dq_180 dp_cX5_least rfl
theorem dX5_least_59 : decode cX5_least 59 = .ok (.iload 5, 2) := dq_21 dp_cX5_least rfl
theorem dX5_least_61 : decode cX5_least 61 = .ok (.iaload, 1) := dq_46 dp_cX5_least rfl
theorem dX5_least_62 : decode cX5_least 62 = .ok (.iconst (-1), 1) := dq_2 dp_cX5_least rfl
theorem dX5_least_63 : decode cX5_least 63 = .ok (.if_icmp .eq 11, 3) := dq_159 (v := 11) dp_cX5_least rfl rfl
theorem dX5_least_66 : decode cX5_least 66 = .ok (.aload_n 0, 1) := dq_42 dp_cX5_least rfl
theorem dX5_least_67 : decode cX5_least 67 = .ok (.getfield 15, 3) := dq_180 dp_cX5_least rfl
theorem dX5_least_70 : decode cX5_least 70 = .ok (.iload 5, 2) := dq_21 dp_cX5_least rfl
theorem dX5_least_72 : decode cX5_least 72 = .ok (.iaload, 1) := dq_46 dp_cX5_least rfl
theorem dX5_least_73 : decode cX5_least 73 = .ok (.ireturn, 1) := dq_172 dp_cX5_least rfl
theorem dX5_least_74 : decode cX5_least 74 = .ok (.aload_n 0, 1) := dq_42 dp_cX5_least rfl
theorem dX5_least_75 : decode cX5_least 75 = .ok (.iload_n 1, 1) := dq_27 dp_cX5_least rfl
theorem dX5_least_76 : decode cX5_least 76 = .ok (.iload_n 3, 1) := dq_29 dp_cX5_least rfl
theorem dX5_least_77 : decode cX5_least 77 = .ok (.invokevirtual 104, 3) := dq_182 dp_cX5_least rfl
theorem dX5_least_80 : decode cX5_least 80 = .ok (.istore 6, 2) := dq_54 dp_cX5_least rfl
theorem dX5_least_82 : decode cX5_least 82 = .ok (.iconst 0, 1) := dq_3 dp_cX5_least rfl
theorem dX5_least_83 : decode cX5_least 83 = .ok (.istore 7, 2) := dq_54 dp_cX5_least rfl
theorem dX5_least_85 : decode cX5_least 85 = .ok (.iload 7, 2) := dq_21 dp_cX5_least rfl
theorem dX5_least_87 : decode cX5_least 87 = .ok (.aload_n 0, 1) := dq_42 dp_cX5_least rfl
theorem dX5_least_88 : decode cX5_least 88 = .ok (.getfield 27, 3) := dq_180 dp_cX5_least rfl
theorem dX5_least_91 : decode cX5_least 91 = .ok (.if_icmp .ge 44, 3) := dq_162 (v := 44) dp_cX5_least rfl rfl
theorem dX5_least_94 : decode cX5_least 94 = .ok (.iload_n 1, 1) := dq_27 dp_cX5_least rfl
theorem dX5_least_95 : decode cX5_least 95 = .ok (.ifCond .le 40, 3) := dq_158 (v := 40) dp_cX5_least rfl rfl
theorem dX5_least_98 : decode cX5_least 98 = .ok (.aload_n 0, 1) := dq_42 dp_cX5_least rfl
theorem dX5_least_99 : decode cX5_least 99 = .ok (.iload 7, 2) := dq_21 dp_cX5_least rfl
theorem dX5_least_101 : decode cX5_least 101 = .ok (.iload_n 2, 1) := dq_28 dp_cX5_least rfl
theorem dX5_least_102 : decode cX5_least 102 = .ok (.iload_n 3, 1) := dq_29 dp_cX5_least rfl
theorem dX5_least_103 : decode cX5_least 103 = .ok (.invokevirtual 82, 3) := dq_182 dp_cX5_least rfl
theorem dX5_least_106 : decode cX5_least 106 = .ok (.astore 8, 2) := dq_58 dp_cX5_least rfl
theorem dX5_least_108 : decode cX5_least 108 = .ok (.aload 8, 2) := dq_25 dp_cX5_least rfl
theorem dX5_least_110 : decode cX5_least 110 = .ok (.ifnull 19, 3) := dq_198 (v := 19) dp_cX5_least rfl rfl
theorem dX5_least_113 : decode cX5_least 113 = .ok (.iload 6, 2) := dq_21 dp_cX5_least rfl
theorem dX5_least_115 : decode cX5_least 115 = .ok (.aload_n 0, 1) := dq_42 dp_cX5_least rfl
theorem dX5_least_116 : decode cX5_least 116 = .ok (.aload 8, 2) := dq_25 dp_cX5_least rfl
theorem dX5_least_118 : decode cX5_least 118 = .ok (.iload_n 1, 1) := dq_27 dp_cX5_least rfl
theorem dX5_least_119 : decode cX5_least 119 = .ok (.iload_n 2, 1) := dq_28 dp_cX5_least rfl
theorem dX5_least_120 : decode cX5_least 120 = .ok (.iload_n 3, 1) := dq_29 dp_cX5_least rfl
theorem dX5_least_121 : decode cX5_least 121 = .ok (.invokevirtual 107, 3) := dq_182 dp_cX5_least rfl
theorem dX5_least_124 : decode cX5_least 124 = .ok (.invokestatic 110, 3) := dq_184 dp_cX5_least rfl
theorem dX5_least_127 : decode cX5_least 127 = .ok (.istore 6, 2) := dq_54 dp_cX5_least rfl
theorem dX5_least_129 : decode cX5_least 129 = .ok (.iinc 7 1, 3) := dq_132 (v := 1) dp_cX5_least rfl (by decide) rfl
theorem dX5_least_132 : decode cX5_least 132 = .ok (.goto (-47), 3) := dq_167 (v := 65489) dp_cX5_least rfl rfl
theorem dX5_least_135 : decode cX5_least 135 = .ok (.iload 4, 2) := dq_21 dp_cX5_least rfl
theorem dX5_least_137 : decode cX5_least 137 = .ok (.ifCond .eq 12, 3) := dq_153 (v := 12) dp_cX5_least rfl rfl
theorem dX5_least_140 : decode cX5_least 140 = .ok (.aload_n 0, 1) := dq_42 dp_cX5_least rfl
theorem dX5_least_141 : decode cX5_least 141 = .ok (.getfield 15, 3) := dq_180 dp_cX5_least rfl
theorem dX5_least_144 : decode cX5_least 144 = .ok (.iload 5, 2) := dq_21 dp_cX5_least rfl
theorem dX5_least_146 : decode cX5_least 146 = .ok (.iload 6, 2) := dq_21 dp_cX5_least rfl
theorem dX5_least_148 : decode cX5_least 148 = .ok (.iastore, 1) := dq_79 dp_cX5_least rfl
theorem dX5_least_149 : decode cX5_least 149 = .ok (.iload 6, 2) := dq_21 dp_cX5_least rfl
theorem dX5_least_151 : decode cX5_least 151 = .ok (.ireturn, 1) := dq_172 dp_cX5_least rfl
set_option maxRecDepth 20000 in
theorem gl_X5_leastBy_X20 : GoodIn wsX5_leastBy wsX20 := (dg_t (dg_r gw_wsX20))
theorem ggX5_leastBy_X2_waysAt : GoodIn wsX5_leastBy wsX2_waysAt := (dg_c 10 rfl rfl (dg_c 11 rfl rfl (dg_c 12 rfl rfl (dg_c 13 rfl rfl (dg_c 14 rfl rfl (dg_c 15 rfl rfl (dg_c 16 rfl rfl (dg_c 17 rfl rfl (dg_c 18 rfl rfl (dg_c 19 rfl rfl (dg_c 20 rfl rfl (dg_c 21 rfl rfl (dg_c 9 rfl rfl (dg_c 22 rfl rfl (dg_c 23 rfl rfl gl_X5_leastBy_X20)))))))))))))))
set_option maxRecDepth 20000 in
theorem gX5_leastBy_X2_waysAt : GoodIn wsX5_leastBy (wsV RX5 90 RX2 yX2_waysAt wsX2_waysAt) := goodIn_app (dg_c 6 rfl rfl (dg_c 7 rfl rfl (dg_c 8 rfl rfl (dg_c 9 rfl rfl dg_0)))) ggX5_leastBy_X2_waysAt
set_option maxRecDepth 20000 in
theorem ggX5_leastBy_X2_shallower : GoodIn wsX5_leastBy wsX2_shallower := (dg_c 27 rfl rfl (dg_c 16 rfl rfl (dg_c 17 rfl rfl (dg_c 14 rfl rfl (dg_c 18 rfl rfl (dg_c 28 rfl rfl (dg_c 29 rfl rfl (dg_c 30 rfl rfl (dg_c 9 rfl rfl (dg_c 31 rfl rfl (dg_c 11 rfl rfl (dg_c 23 rfl rfl gl_X5_leastBy_X20))))))))))))
set_option maxRecDepth 20000 in
theorem gX5_leastBy_X2_shallower : GoodIn wsX5_leastBy (wsV RX5 93 RX2 yX2_shallower wsX2_shallower) := goodIn_app (dg_c 24 rfl rfl (dg_c 25 rfl rfl (dg_c 26 rfl rfl (dg_c 9 rfl rfl dg_0)))) ggX5_leastBy_X2_shallower
set_option maxRecDepth 20000 in
theorem gl_X5_leastBy_X50 : GoodIn wsX5_leastBy wsX50 := (dg_t (dg_l (dg_r gw_wsX50)))
theorem ggX5_leastBy_X5_least : GoodIn wsX5_leastBy wsX5_least := (dg_c 40 rfl rfl (goodIn_app (goodIn_app (goodIn_app (dg_c 41 rfl rfl (dg_c 42 rfl rfl (dg_c 43 rfl rfl (dg_c 44 rfl rfl (dg_c 13 rfl rfl (dg_c 14 rfl rfl (dg_c 15 rfl rfl (dg_c 45 rfl rfl (dg_c 46 rfl rfl (dg_c 47 rfl rfl (dg_c 35 rfl rfl (dg_c 48 rfl rfl (dg_c 4 rfl rfl (dg_c 5 rfl rfl (dg_c 49 rfl rfl (dg_c 50 rfl rfl (dg_c 51 rfl rfl (dg_c 52 rfl rfl (dg_c 53 rfl rfl (dg_c 54 rfl rfl (dg_c 55 rfl rfl (dg_c 56 rfl rfl (dg_c 57 rfl rfl (dg_c 58 rfl rfl dg_0)))))))))))))))))))))))) (goodIn_app (dg_c 59 rfl rfl (dg_c 60 rfl rfl (dg_c 61 rfl rfl (dg_c 62 rfl rfl (dg_c 63 rfl rfl (dg_c 9 rfl rfl (dg_c 64 rfl rfl (dg_c 65 rfl rfl (dg_c 66 rfl rfl (dg_c 67 rfl rfl (dg_c 68 rfl rfl (dg_c 0 rfl rfl (dg_c 1 rfl rfl (dg_c 2 rfl rfl (dg_c 3 rfl rfl (dg_c 6 rfl rfl (dg_c 7 rfl rfl (dg_c 8 rfl rfl (dg_c 10 rfl rfl (dg_c 11 rfl rfl (dg_c 12 rfl rfl (dg_c 16 rfl rfl (dg_c 17 rfl rfl (dg_c 18 rfl rfl dg_0)))))))))))))))))))))))) (dg_c 19 rfl rfl (dg_c 20 rfl rfl (dg_c 21 rfl rfl (dg_c 22 rfl rfl (dg_c 23 rfl rfl (dg_c 24 rfl rfl (dg_c 25 rfl rfl (dg_c 26 rfl rfl (dg_c 27 rfl rfl (dg_c 28 rfl rfl (dg_c 29 rfl rfl (dg_c 30 rfl rfl (dg_c 31 rfl rfl (dg_c 32 rfl rfl (dg_c 33 rfl rfl (dg_c 34 rfl rfl (dg_c 36 rfl rfl (dg_c 37 rfl rfl (dg_c 38 rfl rfl (dg_c 39 rfl rfl dg_0)))))))))))))))))))))) gl_X5_leastBy_X50) gl_X5_leastBy_X20))
set_option maxRecDepth 20000 in
theorem gX5_leastBy_X5_least : GoodIn wsX5_leastBy (wsV RX5 117 RX5 yX5_least wsX5_least) := goodIn_app (dg_c 32 rfl rfl (dg_c 33 rfl rfl (dg_c 34 rfl rfl (dg_c 35 rfl rfl dg_0)))) ggX5_leastBy_X5_least
set_option maxRecDepth 20000 in
theorem ggX5_leastBy_X2_deeper : GoodIn wsX5_leastBy wsX2_deeper := (dg_c 39 rfl rfl (dg_c 11 rfl rfl (dg_c 23 rfl rfl (dg_c 12 rfl rfl (dg_c 13 rfl rfl (dg_c 14 rfl rfl (dg_c 15 rfl rfl gl_X5_leastBy_X20)))))))
set_option maxRecDepth 20000 in
theorem gX5_leastBy_X2_deeper : GoodIn wsX5_leastBy (wsV RX5 101 RX2 yX2_deeper wsX2_deeper) := goodIn_app (dg_c 36 rfl rfl (dg_c 37 rfl rfl (dg_c 38 rfl rfl (dg_c 9 rfl rfl dg_0)))) ggX5_leastBy_X2_deeper
theorem dX5_leastBy_0 : decode cX5_leastBy 0 = .ok (.aload_n 1, 1) := dq_43 dp_cX5_leastBy rfl
theorem dX5_leastBy_1 : decode cX5_leastBy 1 = .ok (.iload_n 3, 1) := dq_29 dp_cX5_leastBy rfl
theorem dX5_leastBy_2 : decode cX5_leastBy 2 = .ok (.aload_n 0, 1) := dq_42 dp_cX5_leastBy rfl
theorem dX5_leastBy_3 : decode cX5_leastBy 3 = .ok (.getfield 31, 3) := dq_180 dp_cX5_leastBy rfl
theorem dX5_leastBy_6 : decode cX5_leastBy 6 = .ok (.invokevirtual 90, 3) := dq_182 dp_cX5_leastBy rfl
theorem dX5_leastBy_9 : decode cX5_leastBy 9 = .ok (.istore 5, 2) := dq_54 dp_cX5_leastBy rfl
theorem dX5_leastBy_11 : decode cX5_leastBy 11 = .ok (.iload 4, 2) := dq_21 dp_cX5_leastBy rfl
theorem dX5_leastBy_13 : decode cX5_leastBy 13 = .ok (.aload_n 1, 1) := dq_43 dp_cX5_leastBy rfl
theorem dX5_leastBy_14 : decode cX5_leastBy 14 = .ok (.getfield 49, 3) := dq_180 dp_cX5_leastBy rfl
theorem dX5_leastBy_17 : decode cX5_leastBy 17 = .ok (.isub, 1) := dq_100 dp_cX5_leastBy rfl
theorem dX5_leastBy_18 : decode cX5_leastBy 18 = .ok (.istore 6, 2) := dq_54 dp_cX5_leastBy rfl
theorem dX5_leastBy_20 : decode cX5_leastBy 20 = .ok (.aload_n 1, 1) := dq_43 dp_cX5_leastBy rfl
theorem dX5_leastBy_21 : decode cX5_leastBy 21 = .ok (.getfield 46, 3) := dq_180 dp_cX5_leastBy rfl
theorem dX5_leastBy_24 : decode cX5_leastBy 24 = .ok (.iconst 5, 1) := dq_8 dp_cX5_leastBy rfl
theorem dX5_leastBy_25 : decode cX5_leastBy 25 = .ok (.if_icmp .ne 18, 3) := dq_160 (v := 18) dp_cX5_leastBy rfl rfl
theorem dX5_leastBy_28 : decode cX5_leastBy 28 = .ok (.getstatic 79, 3) := dq_178 dp_cX5_leastBy rfl
theorem dX5_leastBy_31 : decode cX5_leastBy 31 = .ok (.iload_n 2, 1) := dq_28 dp_cX5_leastBy rfl
theorem dX5_leastBy_32 : decode cX5_leastBy 32 = .ok (.iaload, 1) := dq_46 dp_cX5_leastBy rfl
theorem dX5_leastBy_33 : decode cX5_leastBy 33 = .ok (.aload_n 0, 1) := dq_42 dp_cX5_leastBy rfl
theorem dX5_leastBy_34 : decode cX5_leastBy 34 = .ok (.getfield 18, 3) := dq_180 dp_cX5_leastBy rfl
theorem dX5_leastBy_37 : decode cX5_leastBy 37 = .ok (.iconst 0, 1) := dq_3 dp_cX5_leastBy rfl
theorem dX5_leastBy_38 : decode cX5_leastBy 38 = .ok (.iaload, 1) := dq_46 dp_cX5_leastBy rfl
theorem dX5_leastBy_39 : decode cX5_leastBy 39 = .ok (.imul, 1) := dq_104 dp_cX5_leastBy rfl
theorem dX5_leastBy_40 : decode cX5_leastBy 40 = .ok (.goto 4, 3) := dq_167 (v := 4) dp_cX5_leastBy rfl rfl
theorem dX5_leastBy_43 : decode cX5_leastBy 43 = .ok (.iconst 0, 1) := dq_3 dp_cX5_leastBy rfl
theorem dX5_leastBy_44 : decode cX5_leastBy 44 = .ok (.istore 7, 2) := dq_54 dp_cX5_leastBy rfl
theorem dX5_leastBy_46 : decode cX5_leastBy 46 = .ok (.iload 5, 2) := dq_21 dp_cX5_leastBy rfl
theorem dX5_leastBy_48 : decode cX5_leastBy 48 = .ok (.ifCond .le 25, 3) := dq_158 (v := 25) dp_cX5_leastBy rfl rfl
theorem dX5_leastBy_51 : decode cX5_leastBy 51 = .ok (.iload 7, 2) := dq_21 dp_cX5_leastBy rfl
theorem dX5_leastBy_53 : decode cX5_leastBy 53 = .ok (.iload 5, 2) := dq_21 dp_cX5_leastBy rfl
theorem dX5_leastBy_55 : decode cX5_leastBy 55 = .ok (.aload_n 0, 1) := dq_42 dp_cX5_leastBy rfl
theorem dX5_leastBy_56 : decode cX5_leastBy 56 = .ok (.iload_n 2, 1) := dq_28 dp_cX5_leastBy rfl
theorem dX5_leastBy_57 : decode cX5_leastBy 57 = .ok (.iconst 1, 1) := dq_4 dp_cX5_leastBy rfl
theorem dX5_leastBy_58 : decode cX5_leastBy 58 = .ok (.isub, 1) := dq_100 dp_cX5_leastBy rfl
theorem dX5_leastBy_59 : decode cX5_leastBy 59 = .ok (.aload_n 1, 1) := dq_43 dp_cX5_leastBy rfl
theorem dX5_leastBy_60 : decode cX5_leastBy 60 = .ok (.iload_n 3, 1) := dq_29 dp_cX5_leastBy rfl
theorem dX5_leastBy_61 : decode cX5_leastBy 61 = .ok (.invokevirtual 93, 3) := dq_182 dp_cX5_leastBy rfl
theorem dX5_leastBy_64 : decode cX5_leastBy 64 = .ok (.iload 6, 2) := dq_21 dp_cX5_leastBy rfl
theorem dX5_leastBy_66 : decode cX5_leastBy 66 = .ok (.invokevirtual 117, 3) := dq_182 dp_cX5_leastBy rfl
theorem dX5_leastBy_69 : decode cX5_leastBy 69 = .ok (.imul, 1) := dq_104 dp_cX5_leastBy rfl
theorem dX5_leastBy_70 : decode cX5_leastBy 70 = .ok (.iadd, 1) := dq_96 dp_cX5_leastBy rfl
theorem dX5_leastBy_71 : decode cX5_leastBy 71 = .ok (.istore 7, 2) := dq_54 dp_cX5_leastBy rfl
theorem dX5_leastBy_73 : decode cX5_leastBy 73 = .ok (.iload 5, 2) := dq_21 dp_cX5_leastBy rfl
theorem dX5_leastBy_75 : decode cX5_leastBy 75 = .ok (.bipush 12, 2) := dq_16 (v := 12) dp_cX5_leastBy rfl rfl
theorem dX5_leastBy_77 : decode cX5_leastBy 77 = .ok (.if_icmp .ge 32, 3) := dq_162 (v := 32) dp_cX5_leastBy rfl rfl
theorem dX5_leastBy_80 : decode cX5_leastBy 80 = .ok (.iload 7, 2) := dq_21 dp_cX5_leastBy rfl
theorem dX5_leastBy_82 : decode cX5_leastBy 82 = .ok (.bipush 12, 2) := dq_16 (v := 12) dp_cX5_leastBy rfl rfl
theorem dX5_leastBy_84 : decode cX5_leastBy 84 = .ok (.iload 5, 2) := dq_21 dp_cX5_leastBy rfl
theorem dX5_leastBy_86 : decode cX5_leastBy 86 = .ok (.isub, 1) := dq_100 dp_cX5_leastBy rfl
theorem dX5_leastBy_87 : decode cX5_leastBy 87 = .ok (.aload_n 0, 1) := dq_42 dp_cX5_leastBy rfl
theorem dX5_leastBy_88 : decode cX5_leastBy 88 = .ok (.iload_n 2, 1) := dq_28 dp_cX5_leastBy rfl
theorem dX5_leastBy_89 : decode cX5_leastBy 89 = .ok (.iconst 1, 1) := dq_4 dp_cX5_leastBy rfl
theorem dX5_leastBy_90 : decode cX5_leastBy 90 = .ok (.isub, 1) := dq_100 dp_cX5_leastBy rfl
theorem dX5_leastBy_91 : decode cX5_leastBy 91 = .ok (.aload_n 1, 1) := dq_43 dp_cX5_leastBy rfl
theorem dX5_leastBy_92 : decode cX5_leastBy 92 = .ok (.iload_n 3, 1) := dq_29 dp_cX5_leastBy rfl
theorem dX5_leastBy_93 : decode cX5_leastBy 93 = .ok (.aload_n 0, 1) := dq_42 dp_cX5_leastBy rfl
theorem dX5_leastBy_94 : decode cX5_leastBy 94 = .ok (.getfield 31, 3) := dq_180 dp_cX5_leastBy rfl
theorem dX5_leastBy_97 : decode cX5_leastBy 97 = .ok (.invokevirtual 101, 3) := dq_182 dp_cX5_leastBy rfl
theorem dX5_leastBy_100 : decode cX5_leastBy 100 = .ok (.iload 6, 2) := dq_21 dp_cX5_leastBy rfl
theorem dX5_leastBy_102 : decode cX5_leastBy 102 = .ok (.invokevirtual 117, 3) := dq_182 dp_cX5_leastBy rfl
theorem dX5_leastBy_105 : decode cX5_leastBy 105 = .ok (.imul, 1) := dq_104 dp_cX5_leastBy rfl
theorem dX5_leastBy_106 : decode cX5_leastBy 106 = .ok (.iadd, 1) := dq_96 dp_cX5_leastBy rfl
theorem dX5_leastBy_107 : decode cX5_leastBy 107 = .ok (.istore 7, 2) := dq_54 dp_cX5_leastBy rfl
theorem dX5_leastBy_109 : decode cX5_leastBy 109 = .ok (.iload 7, 2) := dq_21 dp_cX5_leastBy rfl
theorem dX5_leastBy_111 : decode cX5_leastBy 111 = .ok (.ireturn, 1) := dq_172 dp_cX5_leastBy rfl
set_option maxRecDepth 20000 in
theorem gl_X5_first_X50 : GoodIn wsX5_first wsX50 := (dg_t (dg_l (dg_r gw_wsX50)))
theorem gl_X5_first_X20 : GoodIn wsX5_first wsX20 := (dg_t (dg_r gw_wsX20))
theorem ggX5_first_X5_least : GoodIn wsX5_first wsX5_least := (dg_c 6 rfl rfl (goodIn_app (goodIn_app (goodIn_app (dg_c 7 rfl rfl (dg_c 8 rfl rfl (dg_c 1 rfl rfl (dg_c 9 rfl rfl (dg_c 10 rfl rfl (dg_c 11 rfl rfl (dg_c 12 rfl rfl (dg_c 13 rfl rfl (dg_c 14 rfl rfl (dg_c 15 rfl rfl (dg_c 5 rfl rfl (dg_c 16 rfl rfl (dg_c 17 rfl rfl (dg_c 18 rfl rfl (dg_c 19 rfl rfl (dg_c 20 rfl rfl (dg_c 21 rfl rfl (dg_c 22 rfl rfl (dg_c 23 rfl rfl (dg_c 24 rfl rfl (dg_c 25 rfl rfl (dg_c 26 rfl rfl (dg_c 27 rfl rfl (dg_c 28 rfl rfl dg_0)))))))))))))))))))))))) (goodIn_app (dg_c 29 rfl rfl (dg_c 30 rfl rfl (dg_c 31 rfl rfl (dg_c 32 rfl rfl (dg_c 33 rfl rfl (dg_c 34 rfl rfl (dg_c 35 rfl rfl (dg_c 36 rfl rfl (dg_c 37 rfl rfl (dg_c 38 rfl rfl (dg_c 39 rfl rfl (dg_c 40 rfl rfl (dg_c 41 rfl rfl (dg_c 42 rfl rfl (dg_c 43 rfl rfl (dg_c 44 rfl rfl (dg_c 45 rfl rfl (dg_c 46 rfl rfl (dg_c 47 rfl rfl (dg_c 48 rfl rfl (dg_c 49 rfl rfl (dg_c 50 rfl rfl (dg_c 51 rfl rfl (dg_c 52 rfl rfl dg_0)))))))))))))))))))))))) (dg_c 53 rfl rfl (dg_c 54 rfl rfl (dg_c 55 rfl rfl (dg_c 56 rfl rfl (dg_c 57 rfl rfl (dg_c 58 rfl rfl (dg_c 59 rfl rfl (dg_c 60 rfl rfl (dg_c 61 rfl rfl (dg_c 62 rfl rfl (dg_c 63 rfl rfl (dg_c 64 rfl rfl (dg_c 65 rfl rfl (dg_c 2 rfl rfl (dg_c 3 rfl rfl (dg_c 4 rfl rfl (dg_c 66 rfl rfl (dg_c 67 rfl rfl (dg_c 68 rfl rfl (dg_c 69 rfl rfl dg_0)))))))))))))))))))))) gl_X5_first_X50) gl_X5_first_X20))
set_option maxRecDepth 20000 in
theorem gX5_first_X5_least : GoodIn wsX5_first (wsV RX5 117 RX5 yX5_least wsX5_least) := goodIn_app (dg_c 2 rfl rfl (dg_c 3 rfl rfl (dg_c 4 rfl rfl (dg_c 5 rfl rfl dg_0)))) ggX5_first_X5_least
set_option maxRecDepth 20000 in
theorem ggX5_first_X5_mayBeAt : GoodIn wsX5_first wsX5_mayBeAt := (dg_c 26 rfl rfl (dg_c 27 rfl rfl (dg_c 28 rfl rfl (dg_c 29 rfl rfl (dg_c 30 rfl rfl (dg_c 31 rfl rfl (dg_c 32 rfl rfl (dg_c 33 rfl rfl (dg_c 34 rfl rfl (dg_c 35 rfl rfl (dg_c 36 rfl rfl (goodIn_app gl_X5_first_X50 gl_X5_first_X20))))))))))))
set_option maxRecDepth 20000 in
theorem gX5_first_X5_mayBeAt : GoodIn wsX5_first (wsV RX5 82 RX5 yX5_mayBeAt wsX5_mayBeAt) := goodIn_app (dg_c 23 rfl rfl (dg_c 24 rfl rfl (dg_c 25 rfl rfl (dg_c 5 rfl rfl dg_0)))) ggX5_first_X5_mayBeAt
set_option maxRecDepth 20000 in
theorem ggX5_first_X5_leastBy : GoodIn wsX5_first wsX5_leastBy := (dg_c 40 rfl rfl (goodIn_app (goodIn_app (goodIn_app (dg_c 41 rfl rfl (dg_c 42 rfl rfl (dg_c 43 rfl rfl (dg_c 17 rfl rfl (dg_c 18 rfl rfl (dg_c 44 rfl rfl (dg_c 45 rfl rfl (dg_c 46 rfl rfl (dg_c 34 rfl rfl (dg_c 47 rfl rfl (dg_c 48 rfl rfl (dg_c 49 rfl rfl (dg_c 10 rfl rfl (dg_c 11 rfl rfl (dg_c 12 rfl rfl (dg_c 50 rfl rfl (dg_c 51 rfl rfl (dg_c 52 rfl rfl (dg_c 53 rfl rfl (dg_c 54 rfl rfl (dg_c 55 rfl rfl (dg_c 56 rfl rfl (dg_c 57 rfl rfl (dg_c 58 rfl rfl dg_0)))))))))))))))))))))))) (goodIn_app (dg_c 59 rfl rfl (dg_c 60 rfl rfl (dg_c 61 rfl rfl (dg_c 62 rfl rfl (dg_c 63 rfl rfl (dg_c 64 rfl rfl (dg_c 65 rfl rfl (dg_c 2 rfl rfl (dg_c 3 rfl rfl (dg_c 4 rfl rfl (dg_c 5 rfl rfl (dg_c 66 rfl rfl (dg_c 67 rfl rfl (dg_c 68 rfl rfl (dg_c 69 rfl rfl (dg_c 6 rfl rfl (dg_c 7 rfl rfl (dg_c 8 rfl rfl (dg_c 1 rfl rfl (dg_c 9 rfl rfl (dg_c 13 rfl rfl (dg_c 14 rfl rfl (dg_c 15 rfl rfl (dg_c 16 rfl rfl dg_0)))))))))))))))))))))))) (dg_c 19 rfl rfl (dg_c 20 rfl rfl (dg_c 21 rfl rfl (dg_c 22 rfl rfl (dg_c 23 rfl rfl (dg_c 24 rfl rfl (dg_c 25 rfl rfl (dg_c 26 rfl rfl (dg_c 27 rfl rfl (dg_c 28 rfl rfl (dg_c 29 rfl rfl (dg_c 30 rfl rfl (dg_c 31 rfl rfl (dg_c 32 rfl rfl (dg_c 33 rfl rfl (dg_c 35 rfl rfl (dg_c 36 rfl rfl (dg_c 37 rfl rfl (dg_c 38 rfl rfl (dg_c 39 rfl rfl dg_0)))))))))))))))))))))) gl_X5_first_X50) gl_X5_first_X20))
set_option maxRecDepth 20000 in
theorem gX5_first_X5_leastBy : GoodIn wsX5_first (wsV RX5 107 RX5 yX5_leastBy wsX5_leastBy) := goodIn_app (dg_c 37 rfl rfl (dg_c 38 rfl rfl (dg_c 39 rfl rfl (dg_c 5 rfl rfl dg_0)))) ggX5_first_X5_leastBy
set_option maxRecDepth 20000 in
theorem ggX5_first_X5_headIsCheapest : GoodIn wsX5_first wsX5_headIsCheapest := (dg_c 22 rfl rfl (dg_c 18 rfl rfl gl_X5_first_X50))
set_option maxRecDepth 20000 in
theorem gX5_first_X5_headIsCheapest : GoodIn wsX5_first (wsV RX5 113 RX5 yX5_headIsCheapest wsX5_headIsCheapest) := goodIn_app (dg_c 19 rfl rfl (dg_c 20 rfl rfl (dg_c 21 rfl rfl (dg_c 5 rfl rfl dg_0)))) ggX5_first_X5_headIsCheapest
theorem dX5_first_0 : decode cX5_first 0 = .ok (.iload_n 2, 1) := dq_28 dp_cX5_first rfl
theorem dX5_first_1 : decode cX5_first 1 = .ok (.ifCond .ne 5, 3) := dq_154 (v := 5) dp_cX5_first rfl rfl
theorem dX5_first_4 : decode cX5_first 4 = .ok (.iconst (-1), 1) := dq_2 dp_cX5_first rfl
theorem dX5_first_5 : decode cX5_first 5 = .ok (.ireturn, 1) := dq_172 dp_cX5_first rfl
theorem dX5_first_6 : decode cX5_first 6 = .ok (.aload_n 0, 1) := dq_42 dp_cX5_first rfl
theorem dX5_first_7 : decode cX5_first 7 = .ok (.iload_n 1, 1) := dq_27 dp_cX5_first rfl
theorem dX5_first_8 : decode cX5_first 8 = .ok (.iload_n 2, 1) := dq_28 dp_cX5_first rfl
theorem dX5_first_9 : decode cX5_first 9 = .ok (.iload_n 3, 1) := dq_29 dp_cX5_first rfl
theorem dX5_first_10 : decode cX5_first 10 = .ok (.invokevirtual 117, 3) := dq_182 dp_cX5_first rfl
theorem dX5_first_13 : decode cX5_first 13 = .ok (.istore 4, 2) := dq_54 dp_cX5_first rfl
theorem dX5_first_15 : decode cX5_first 15 = .ok (.iconst 0, 1) := dq_3 dp_cX5_first rfl
theorem dX5_first_16 : decode cX5_first 16 = .ok (.istore 5, 2) := dq_54 dp_cX5_first rfl
theorem dX5_first_18 : decode cX5_first 18 = .ok (.iload 5, 2) := dq_21 dp_cX5_first rfl
theorem dX5_first_20 : decode cX5_first 20 = .ok (.aload_n 0, 1) := dq_42 dp_cX5_first rfl
theorem dX5_first_21 : decode cX5_first 21 = .ok (.getfield 27, 3) := dq_180 dp_cX5_first rfl
theorem dX5_first_24 : decode cX5_first 24 = .ok (.if_icmp .ge 45, 3) := dq_162 (v := 45) dp_cX5_first rfl rfl
theorem dX5_first_27 : decode cX5_first 27 = .ok (.iload_n 1, 1) := dq_27 dp_cX5_first rfl
theorem dX5_first_28 : decode cX5_first 28 = .ok (.ifCond .le 41, 3) := dq_158 (v := 41) dp_cX5_first rfl rfl
theorem dX5_first_31 : decode cX5_first 31 = .ok (.aload_n 0, 1) := dq_42 dp_cX5_first rfl
theorem dX5_first_32 : decode cX5_first 32 = .ok (.iload 5, 2) := dq_21 dp_cX5_first rfl
theorem dX5_first_34 : decode cX5_first 34 = .ok (.iload_n 2, 1) := dq_28 dp_cX5_first rfl
theorem dX5_first_35 : decode cX5_first 35 = .ok (.iload_n 3, 1) := dq_29 dp_cX5_first rfl
theorem dX5_first_36 : decode cX5_first 36 = .ok (.invokevirtual 82, 3) := dq_182 dp_cX5_first rfl
theorem dX5_first_39 : decode cX5_first 39 = .ok (.astore 6, 2) := dq_58 dp_cX5_first rfl
theorem dX5_first_41 : decode cX5_first 41 = .ok (.aload 6, 2) := dq_25 dp_cX5_first rfl
theorem dX5_first_43 : decode cX5_first 43 = .ok (.ifnull 20, 3) := dq_198 (v := 20) dp_cX5_first rfl rfl
theorem dX5_first_46 : decode cX5_first 46 = .ok (.aload_n 0, 1) := dq_42 dp_cX5_first rfl
theorem dX5_first_47 : decode cX5_first 47 = .ok (.aload 6, 2) := dq_25 dp_cX5_first rfl
theorem dX5_first_49 : decode cX5_first 49 = .ok (.iload_n 1, 1) := dq_27 dp_cX5_first rfl
theorem dX5_first_50 : decode cX5_first 50 = .ok (.iload_n 2, 1) := dq_28 dp_cX5_first rfl
theorem dX5_first_51 : decode cX5_first 51 = .ok (.iload_n 3, 1) := dq_29 dp_cX5_first rfl
theorem dX5_first_52 : decode cX5_first 52 = .ok (.invokevirtual 107, 3) := dq_182 dp_cX5_first rfl
theorem dX5_first_55 : decode cX5_first 55 = .ok (.iload 4, 2) := dq_21 dp_cX5_first rfl
theorem dX5_first_57 : decode cX5_first 57 = .ok (.if_icmp .ne 6, 3) := dq_160 (v := 6) dp_cX5_first rfl rfl
theorem dX5_first_60 : decode cX5_first 60 = .ok (.iload 5, 2) := dq_21 dp_cX5_first rfl
theorem dX5_first_62 : decode cX5_first 62 = .ok (.ireturn, 1) := dq_172 dp_cX5_first rfl
theorem dX5_first_63 : decode cX5_first 63 = .ok (.iinc 5 1, 3) := dq_132 (v := 1) dp_cX5_first rfl (by decide) rfl
theorem dX5_first_66 : decode cX5_first 66 = .ok (.goto (-48), 3) := dq_167 (v := 65488) dp_cX5_first rfl rfl
theorem dX5_first_69 : decode cX5_first 69 = .ok (.aload_n 0, 1) := dq_42 dp_cX5_first rfl
theorem dX5_first_70 : decode cX5_first 70 = .ok (.iload_n 3, 1) := dq_29 dp_cX5_first rfl
theorem dX5_first_71 : decode cX5_first 71 = .ok (.invokevirtual 113, 3) := dq_182 dp_cX5_first rfl
theorem dX5_first_74 : decode cX5_first 74 = .ok (.ifCond .eq 8, 3) := dq_153 (v := 8) dp_cX5_first rfl rfl
theorem dX5_first_77 : decode cX5_first 77 = .ok (.bipush 101, 2) := dq_16 (v := 101) dp_cX5_first rfl rfl
theorem dX5_first_79 : decode cX5_first 79 = .ok (.goto 5, 3) := dq_167 (v := 5) dp_cX5_first rfl rfl
theorem dX5_first_82 : decode cX5_first 82 = .ok (.bipush 100, 2) := dq_16 (v := 100) dp_cX5_first rfl rfl
theorem dX5_first_84 : decode cX5_first 84 = .ok (.ireturn, 1) := dq_172 dp_cX5_first rfl
end
section
theorem hi_X5_least_5 : ∀ w ∈ u_ws RX5 TX5 7, w ∈ wsX5_least := fun w h => (gl_X5_least_X50 w h).1
theorem hi_X5_leastBy_5 : ∀ w ∈ u_ws RX5 TX5 7, w ∈ wsX5_leastBy := fun w h => (gl_X5_leastBy_X50 w h).1
theorem hi_X5_leastBy_2 : ∀ w ∈ u_ws RX2 TX2 3, w ∈ wsX5_leastBy := fun w h => (gl_X5_leastBy_X20 w h).1
end
section
theorem hi_X5_next_5 : ∀ w ∈ u_ws RX5 TX5 7, w ∈ wsX5_next := fun w h => (gl_X5_next_X50 w h).1
theorem hi_X5_first_5 : ∀ w ∈ u_ws RX5 TX5 7, w ∈ wsX5_first := fun w h => (gl_X5_first_X50 w h).1
end
section
theorem zp_any {D : va_G} {tys : List (ClassId × FieldType)} {s : State} {H : Heap} {v : Nat} {vs : List Value} (hK : va_K D vwCl tys s) (hPv : va_P D vwCl [(v, .inr (2, vs))] H) : va_Any RX2 s H v := by
  obtain ⟨cell, h1, h2, h3⟩ := va_recv hK hPv (ci := 2) (q0 := 0) rfl rfl
  obtain ⟨kC, hkC, -⟩ := Vm.findClass_spec h3
  refine ⟨cell, h1, h2, ⟨kC, hkC⟩, fun comp h => ?_⟩
  have e : comp = cell.cls := Option.some.inj (h.symm.trans h3)
  rw [e]
  exact va_asg _ _
theorem zRg_cpy {f g : Nat → Int32} {lo hi : Int} {sp dp n : Nat} (hf : zRg f lo hi) (hg : zRg g lo hi) : zRg (va_cpy f g sp dp n) lo hi := by
  intro j
  unfold va_cpy
  split
  · exact hf _
  · exact hg _
end
section
def wsX1_ownBody : List Cond := (.code yX1_ownBody cX1_ownBody 2 (some .int)) :: []
def wsX1_note : List Cond := (.code yX1_note cX1_note 2 none) :: (.fieldLink RX1 15 "TheLiningsInIt$Moves" "ran" "I") :: (.fieldLink RX1 11 "TheLiningsInIt$Moves" "bodies" "[I") :: wsX10
def wsX1_bodyAt : List Cond := (.code yX1_bodyAt cX1_bodyAt 2 (some .int)) :: (.fieldLink RX1 15 "TheLiningsInIt$Moves" "ran" "I") :: (.methodLink RX1 38 Lib.Math.min.name) :: (.static Lib.Math.min.name) :: (.initialized "java/lang/Math") :: (.code Lib.Math.min.name Lib.Math.min.code 2 (some .int)) :: (.fieldLink RX1 11 "TheLiningsInIt$Moves" "bodies" "[I") :: (.static yX7_within) :: (.initialized RX7) :: (.code yX7_within cX7_within 3 (some .boolean)) :: wsX10
def wsJ7_fill_53178 : List Cond := (.code yJ7_fill_53178 cJ7_fill_53178 4 none) :: []
def wsX5_look_r1 : List Cond := (Cond.fieldLink RX5 37 "TheLiningsInIt$Jacket" "pullCount" "I") :: (Cond.fieldLink RX5 27 "TheLiningsInIt$Ways" "count" "I") :: (Cond.fieldLink RX5 31 "TheLiningsInIt$Ways" "hurry" "I") :: (Cond.fieldLink RX5 34 "TheLiningsInIt$Ways" "longest" "I") :: (Cond.fieldLink RX5 46 "TheLiningsInIt$Pull" "kind" "I") :: (Cond.fieldLink RX5 23 "TheLiningsInIt$Ways" "pulls" "[LTheLiningsInIt$Pull;") :: (Cond.fieldLink RX5 49 "TheLiningsInIt$Pull" "takes" "I") :: (Cond.methodLink RX5 52 Lib.Math.max.name) :: (Cond.static Lib.Math.max.name) :: (Cond.initialized "java/lang/Math") :: (Cond.code Lib.Math.max.name Lib.Math.max.code 2 (some .int)) :: (Cond.fieldLink RX5 58 "TheLiningsInIt$Jacket" "costs" "[I") :: (Cond.fieldLink RX5 18 "TheLiningsInIt$Ways" "costs" "[I") :: (Cond.methodLink RX5 59 arraycopyName) :: (Cond.native arraycopyName) :: (Cond.static arraycopyName) :: (Cond.initialized "java/lang/System") :: (Cond.fieldLink RX5 9 "TheLiningsInIt$Ways" "knownMost" "[I") :: (Cond.fieldLink RX5 15 "TheLiningsInIt$Ways" "knownLeast" "[I") :: (Cond.methodLink RX5 42 yX0_pullAt) :: (Cond.instanceMethod yX0_pullAt) :: (Cond.selects RX0 yX0_pullAt yX0_pullAt) :: (Cond.initialized RX0) :: (Cond.code yX0_pullAt cX0_pullAt 2 (some (.object "TheLiningsInIt$Pull"))) :: []
def wsX5_look_r2 : List Cond := (Cond.fieldLink RX0 28 "TheLiningsInIt$Jacket" "pullCount" "I") :: (Cond.fieldLink RX0 20 "TheLiningsInIt$Jacket" "pulls" "[LTheLiningsInIt$Pull;") :: (Cond.static yX7_within) :: (Cond.initialized RX7) :: (Cond.code yX7_within cX7_within 3 (some .boolean)) :: (Cond.methodLink RX5 65 yJ7_fill_53178) :: (Cond.static yJ7_fill_53178) :: (Cond.initialized RJ7) :: (Cond.code yJ7_fill_53178 cJ7_fill_53178 4 none) :: []
def wsX5_look : List Cond := (.code yX5_look cX5_look 7 none) :: ((wsX5_look_r1 ++ wsX5_look_r2) ++ wsX00 ++ wsX50 ++ wsX20)
set_option maxRecDepth 20000 in
theorem ggX1_bodyAt_X7_within : GoodIn wsX1_bodyAt wsX7_within := (dg_c 9 rfl rfl dg_0)
set_option maxRecDepth 20000 in
theorem gX1_bodyAt_X7_within_n44 : GoodIn wsX1_bodyAt (wsX7_within) := ggX1_bodyAt_X7_within
theorem dX1_bodyAt_0 : decode cX1_bodyAt 0 = .ok (.iload_n 1, 1) := dq_27 dp_cX1_bodyAt rfl
theorem dX1_bodyAt_1 : decode cX1_bodyAt 1 = .ok (.iconst 0, 1) := dq_3 dp_cX1_bodyAt rfl
theorem dX1_bodyAt_2 : decode cX1_bodyAt 2 = .ok (.aload_n 0, 1) := dq_42 dp_cX1_bodyAt rfl
theorem dX1_bodyAt_3 : decode cX1_bodyAt 3 = .ok (.getfield 15, 3) := dq_180 dp_cX1_bodyAt rfl
theorem dX1_bodyAt_6 : decode cX1_bodyAt 6 = .ok (.bipush 20, 2) := dq_16 (v := 20) dp_cX1_bodyAt rfl rfl
theorem dX1_bodyAt_8 : decode cX1_bodyAt 8 = .ok (.invokestatic 38, 3) := dq_184 dp_cX1_bodyAt rfl
theorem dX1_bodyAt_11 : decode cX1_bodyAt 11 = .ok (.iconst 1, 1) := dq_4 dp_cX1_bodyAt rfl
theorem dX1_bodyAt_12 : decode cX1_bodyAt 12 = .ok (.isub, 1) := dq_100 dp_cX1_bodyAt rfl
theorem dX1_bodyAt_13 : decode cX1_bodyAt 13 = .ok (.invokestatic 44, 3) := dq_184 dp_cX1_bodyAt rfl
theorem dX1_bodyAt_16 : decode cX1_bodyAt 16 = .ok (.ifCond .eq 12, 3) := dq_153 (v := 12) dp_cX1_bodyAt rfl rfl
theorem dX1_bodyAt_19 : decode cX1_bodyAt 19 = .ok (.aload_n 0, 1) := dq_42 dp_cX1_bodyAt rfl
theorem dX1_bodyAt_20 : decode cX1_bodyAt 20 = .ok (.getfield 11, 3) := dq_180 dp_cX1_bodyAt rfl
theorem dX1_bodyAt_23 : decode cX1_bodyAt 23 = .ok (.iload_n 1, 1) := dq_27 dp_cX1_bodyAt rfl
theorem dX1_bodyAt_24 : decode cX1_bodyAt 24 = .ok (.iaload, 1) := dq_46 dp_cX1_bodyAt rfl
theorem dX1_bodyAt_25 : decode cX1_bodyAt 25 = .ok (.goto 4, 3) := dq_167 (v := 4) dp_cX1_bodyAt rfl rfl
theorem dX1_bodyAt_28 : decode cX1_bodyAt 28 = .ok (.iconst (-1), 1) := dq_2 dp_cX1_bodyAt rfl
theorem dX1_bodyAt_29 : decode cX1_bodyAt 29 = .ok (.ireturn, 1) := dq_172 dp_cX1_bodyAt rfl
theorem dX1_note_0 : decode cX1_note 0 = .ok (.aload_n 0, 1) := dq_42 dp_cX1_note rfl
theorem dX1_note_1 : decode cX1_note 1 = .ok (.getfield 15, 3) := dq_180 dp_cX1_note rfl
theorem dX1_note_4 : decode cX1_note 4 = .ok (.bipush 20, 2) := dq_16 (v := 20) dp_cX1_note rfl rfl
theorem dX1_note_6 : decode cX1_note 6 = .ok (.if_icmp .ge 13, 3) := dq_162 (v := 13) dp_cX1_note rfl rfl
theorem dX1_note_9 : decode cX1_note 9 = .ok (.aload_n 0, 1) := dq_42 dp_cX1_note rfl
theorem dX1_note_10 : decode cX1_note 10 = .ok (.getfield 11, 3) := dq_180 dp_cX1_note rfl
theorem dX1_note_13 : decode cX1_note 13 = .ok (.aload_n 0, 1) := dq_42 dp_cX1_note rfl
theorem dX1_note_14 : decode cX1_note 14 = .ok (.getfield 15, 3) := dq_180 dp_cX1_note rfl
theorem dX1_note_17 : decode cX1_note 17 = .ok (.iload_n 1, 1) := dq_27 dp_cX1_note rfl
theorem dX1_note_18 : decode cX1_note 18 = .ok (.iastore, 1) := dq_79 dp_cX1_note rfl
theorem dX1_note_19 : decode cX1_note 19 = .ok (.aload_n 0, 1) := dq_42 dp_cX1_note rfl
theorem dX1_note_20 : decode cX1_note 20 = .ok (.dup, 1) := dq_89 dp_cX1_note rfl
theorem dX1_note_21 : decode cX1_note 21 = .ok (.getfield 15, 3) := dq_180 dp_cX1_note rfl
theorem dX1_note_24 : decode cX1_note 24 = .ok (.iconst 1, 1) := dq_4 dp_cX1_note rfl
theorem dX1_note_25 : decode cX1_note 25 = .ok (.iadd, 1) := dq_96 dp_cX1_note rfl
theorem dX1_note_26 : decode cX1_note 26 = .ok (.putfield 15, 3) := dq_181 dp_cX1_note rfl
theorem dX1_note_29 : decode cX1_note 29 = .ok (.return_, 1) := dq_177 dp_cX1_note rfl
theorem dX1_ownBody_0 : decode cX1_ownBody 0 = .ok (.iload_n 0, 1) := dq_26 dp_cX1_ownBody rfl
theorem dX1_ownBody_1 : decode cX1_ownBody 1 = .ok (.tableswitch 112 0 5 #[39, 44, 55, 67, 79, 100], 39) := by decide +kernel
theorem dX1_ownBody_40 : decode cX1_ownBody 40 = .ok (.bipush 10, 2) := dq_16 (v := 10) dp_cX1_ownBody rfl rfl
theorem dX1_ownBody_42 : decode cX1_ownBody 42 = .ok (.iload_n 1, 1) := dq_27 dp_cX1_ownBody rfl
theorem dX1_ownBody_43 : decode cX1_ownBody 43 = .ok (.iadd, 1) := dq_96 dp_cX1_ownBody rfl
theorem dX1_ownBody_44 : decode cX1_ownBody 44 = .ok (.ireturn, 1) := dq_172 dp_cX1_ownBody rfl
theorem dX1_ownBody_45 : decode cX1_ownBody 45 = .ok (.iload_n 1, 1) := dq_27 dp_cX1_ownBody rfl
theorem dX1_ownBody_46 : decode cX1_ownBody 46 = .ok (.ifCond .ne 8, 3) := dq_154 (v := 8) dp_cX1_ownBody rfl rfl
theorem dX1_ownBody_49 : decode cX1_ownBody 49 = .ok (.bipush 20, 2) := dq_16 (v := 20) dp_cX1_ownBody rfl rfl
theorem dX1_ownBody_51 : decode cX1_ownBody 51 = .ok (.goto 4, 3) := dq_167 (v := 4) dp_cX1_ownBody rfl rfl
theorem dX1_ownBody_54 : decode cX1_ownBody 54 = .ok (.iconst (-1), 1) := dq_2 dp_cX1_ownBody rfl
theorem dX1_ownBody_55 : decode cX1_ownBody 55 = .ok (.ireturn, 1) := dq_172 dp_cX1_ownBody rfl
theorem dX1_ownBody_56 : decode cX1_ownBody 56 = .ok (.iload_n 1, 1) := dq_27 dp_cX1_ownBody rfl
theorem dX1_ownBody_57 : decode cX1_ownBody 57 = .ok (.iconst 1, 1) := dq_4 dp_cX1_ownBody rfl
theorem dX1_ownBody_58 : decode cX1_ownBody 58 = .ok (.if_icmp .ne 8, 3) := dq_160 (v := 8) dp_cX1_ownBody rfl rfl
theorem dX1_ownBody_61 : decode cX1_ownBody 61 = .ok (.bipush 30, 2) := dq_16 (v := 30) dp_cX1_ownBody rfl rfl
theorem dX1_ownBody_63 : decode cX1_ownBody 63 = .ok (.goto 4, 3) := dq_167 (v := 4) dp_cX1_ownBody rfl rfl
theorem dX1_ownBody_66 : decode cX1_ownBody 66 = .ok (.iconst (-1), 1) := dq_2 dp_cX1_ownBody rfl
theorem dX1_ownBody_67 : decode cX1_ownBody 67 = .ok (.ireturn, 1) := dq_172 dp_cX1_ownBody rfl
theorem dX1_ownBody_68 : decode cX1_ownBody 68 = .ok (.iload_n 1, 1) := dq_27 dp_cX1_ownBody rfl
theorem dX1_ownBody_69 : decode cX1_ownBody 69 = .ok (.iconst 1, 1) := dq_4 dp_cX1_ownBody rfl
theorem dX1_ownBody_70 : decode cX1_ownBody 70 = .ok (.if_icmp .ne 8, 3) := dq_160 (v := 8) dp_cX1_ownBody rfl rfl
theorem dX1_ownBody_73 : decode cX1_ownBody 73 = .ok (.bipush 40, 2) := dq_16 (v := 40) dp_cX1_ownBody rfl rfl
theorem dX1_ownBody_75 : decode cX1_ownBody 75 = .ok (.goto 4, 3) := dq_167 (v := 4) dp_cX1_ownBody rfl rfl
theorem dX1_ownBody_78 : decode cX1_ownBody 78 = .ok (.iconst (-1), 1) := dq_2 dp_cX1_ownBody rfl
theorem dX1_ownBody_79 : decode cX1_ownBody 79 = .ok (.ireturn, 1) := dq_172 dp_cX1_ownBody rfl
theorem dX1_ownBody_80 : decode cX1_ownBody 80 = .ok (.iload_n 1, 1) := dq_27 dp_cX1_ownBody rfl
theorem dX1_ownBody_81 : decode cX1_ownBody 81 = .ok (.iconst 2, 1) := dq_5 dp_cX1_ownBody rfl
theorem dX1_ownBody_82 : decode cX1_ownBody 82 = .ok (.if_icmp .ne 8, 3) := dq_160 (v := 8) dp_cX1_ownBody rfl rfl
theorem dX1_ownBody_85 : decode cX1_ownBody 85 = .ok (.bipush 50, 2) := dq_16 (v := 50) dp_cX1_ownBody rfl rfl
theorem dX1_ownBody_87 : decode cX1_ownBody 87 = .ok (.goto 13, 3) := dq_167 (v := 13) dp_cX1_ownBody rfl rfl
theorem dX1_ownBody_90 : decode cX1_ownBody 90 = .ok (.iload_n 1, 1) := dq_27 dp_cX1_ownBody rfl
theorem dX1_ownBody_91 : decode cX1_ownBody 91 = .ok (.ifCond .ne 8, 3) := dq_154 (v := 8) dp_cX1_ownBody rfl rfl
theorem dX1_ownBody_94 : decode cX1_ownBody 94 = .ok (.bipush 51, 2) := dq_16 (v := 51) dp_cX1_ownBody rfl rfl
theorem dX1_ownBody_96 : decode cX1_ownBody 96 = .ok (.goto 4, 3) := dq_167 (v := 4) dp_cX1_ownBody rfl rfl
theorem dX1_ownBody_99 : decode cX1_ownBody 99 = .ok (.iconst (-1), 1) := dq_2 dp_cX1_ownBody rfl
theorem dX1_ownBody_100 : decode cX1_ownBody 100 = .ok (.ireturn, 1) := dq_172 dp_cX1_ownBody rfl
theorem dX1_ownBody_101 : decode cX1_ownBody 101 = .ok (.iload_n 1, 1) := dq_27 dp_cX1_ownBody rfl
theorem dX1_ownBody_102 : decode cX1_ownBody 102 = .ok (.iconst 2, 1) := dq_5 dp_cX1_ownBody rfl
theorem dX1_ownBody_103 : decode cX1_ownBody 103 = .ok (.if_icmp .ne 8, 3) := dq_160 (v := 8) dp_cX1_ownBody rfl rfl
theorem dX1_ownBody_106 : decode cX1_ownBody 106 = .ok (.bipush 60, 2) := dq_16 (v := 60) dp_cX1_ownBody rfl rfl
theorem dX1_ownBody_108 : decode cX1_ownBody 108 = .ok (.goto 4, 3) := dq_167 (v := 4) dp_cX1_ownBody rfl rfl
theorem dX1_ownBody_111 : decode cX1_ownBody 111 = .ok (.iconst (-1), 1) := dq_2 dp_cX1_ownBody rfl
theorem dX1_ownBody_112 : decode cX1_ownBody 112 = .ok (.ireturn, 1) := dq_172 dp_cX1_ownBody rfl
theorem dX1_ownBody_113 : decode cX1_ownBody 113 = .ok (.iload_n 1, 1) := dq_27 dp_cX1_ownBody rfl
theorem dX1_ownBody_114 : decode cX1_ownBody 114 = .ok (.ifCond .ne 8, 3) := dq_154 (v := 8) dp_cX1_ownBody rfl rfl
theorem dX1_ownBody_117 : decode cX1_ownBody 117 = .ok (.bipush 70, 2) := dq_16 (v := 70) dp_cX1_ownBody rfl rfl
theorem dX1_ownBody_119 : decode cX1_ownBody 119 = .ok (.goto 14, 3) := dq_167 (v := 14) dp_cX1_ownBody rfl rfl
theorem dX1_ownBody_122 : decode cX1_ownBody 122 = .ok (.iload_n 1, 1) := dq_27 dp_cX1_ownBody rfl
theorem dX1_ownBody_123 : decode cX1_ownBody 123 = .ok (.iconst 1, 1) := dq_4 dp_cX1_ownBody rfl
theorem dX1_ownBody_124 : decode cX1_ownBody 124 = .ok (.if_icmp .ne 8, 3) := dq_160 (v := 8) dp_cX1_ownBody rfl rfl
theorem dX1_ownBody_127 : decode cX1_ownBody 127 = .ok (.bipush 71, 2) := dq_16 (v := 71) dp_cX1_ownBody rfl rfl
theorem dX1_ownBody_129 : decode cX1_ownBody 129 = .ok (.goto 4, 3) := dq_167 (v := 4) dp_cX1_ownBody rfl rfl
theorem dX1_ownBody_132 : decode cX1_ownBody 132 = .ok (.iconst (-1), 1) := dq_2 dp_cX1_ownBody rfl
theorem dX1_ownBody_133 : decode cX1_ownBody 133 = .ok (.ireturn, 1) := dq_172 dp_cX1_ownBody rfl
set_option maxRecDepth 20000 in
theorem gl_X5_look_X00 : GoodIn wsX5_look wsX00 := (dg_t (dg_l (dg_l (dg_r gw_wsX00))))
theorem ggX5_look_X0_pullAt : GoodIn wsX5_look wsX0_pullAt := (dg_c 24 rfl rfl (dg_c 25 rfl rfl (dg_c 26 rfl rfl (dg_c 27 rfl rfl (dg_c 28 rfl rfl (dg_c 29 rfl rfl gl_X5_look_X00))))))
set_option maxRecDepth 20000 in
theorem gX5_look_X0_pullAt : GoodIn wsX5_look (wsV RX5 42 RX0 yX0_pullAt wsX0_pullAt) := goodIn_app (dg_c 20 rfl rfl (dg_c 21 rfl rfl (dg_c 22 rfl rfl (dg_c 23 rfl rfl dg_0)))) ggX5_look_X0_pullAt
set_option maxRecDepth 20000 in
theorem ggX5_look_J7_fill_53178 : GoodIn wsX5_look wsJ7_fill_53178 := (dg_c 33 rfl rfl dg_0)
set_option maxRecDepth 20000 in
theorem gX5_look_J7_fill_53178 : GoodIn wsX5_look (va_wsS RX5 65 yJ7_fill_53178 wsJ7_fill_53178) := goodIn_app (dg_c 30 rfl rfl (dg_c 31 rfl rfl (dg_c 32 rfl rfl dg_0))) ggX5_look_J7_fill_53178
theorem dX5_look_0 : decode cX5_look 0 = .ok (.aload_n 0, 1) := dq_42 dp_cX5_look rfl
theorem dX5_look_1 : decode cX5_look 1 = .ok (.aload_n 1, 1) := dq_43 dp_cX5_look rfl
theorem dX5_look_2 : decode cX5_look 2 = .ok (.getfield 37, 3) := dq_180 dp_cX5_look rfl
theorem dX5_look_5 : decode cX5_look 5 = .ok (.putfield 27, 3) := dq_181 dp_cX5_look rfl
theorem dX5_look_8 : decode cX5_look 8 = .ok (.aload_n 0, 1) := dq_42 dp_cX5_look rfl
theorem dX5_look_9 : decode cX5_look 9 = .ok (.iload_n 2, 1) := dq_28 dp_cX5_look rfl
theorem dX5_look_10 : decode cX5_look 10 = .ok (.putfield 31, 3) := dq_181 dp_cX5_look rfl
theorem dX5_look_13 : decode cX5_look 13 = .ok (.aload_n 0, 1) := dq_42 dp_cX5_look rfl
theorem dX5_look_14 : decode cX5_look 14 = .ok (.iconst 0, 1) := dq_3 dp_cX5_look rfl
theorem dX5_look_15 : decode cX5_look 15 = .ok (.putfield 34, 3) := dq_181 dp_cX5_look rfl
theorem dX5_look_18 : decode cX5_look 18 = .ok (.iconst 0, 1) := dq_3 dp_cX5_look rfl
theorem dX5_look_19 : decode cX5_look 19 = .ok (.istore 4, 2) := dq_54 dp_cX5_look rfl
theorem dX5_look_21 : decode cX5_look 21 = .ok (.iload 4, 2) := dq_21 dp_cX5_look rfl
theorem dX5_look_23 : decode cX5_look 23 = .ok (.aload_n 0, 1) := dq_42 dp_cX5_look rfl
theorem dX5_look_24 : decode cX5_look 24 = .ok (.getfield 27, 3) := dq_180 dp_cX5_look rfl
theorem dX5_look_27 : decode cX5_look 27 = .ok (.if_icmp .ge 95, 3) := dq_162 (v := 95) dp_cX5_look rfl rfl
theorem dX5_look_30 : decode cX5_look 30 = .ok (.iload 4, 2) := dq_21 dp_cX5_look rfl
theorem dX5_look_32 : decode cX5_look 32 = .ok (.bipush 8, 2) := dq_16 (v := 8) dp_cX5_look rfl rfl
theorem dX5_look_34 : decode cX5_look 34 = .ok (.if_icmp .ge 88, 3) := dq_162 (v := 88) dp_cX5_look rfl rfl
theorem dX5_look_37 : decode cX5_look 37 = .ok (.aload_n 1, 1) := dq_43 dp_cX5_look rfl
theorem dX5_look_38 : decode cX5_look 38 = .ok (.iload 4, 2) := dq_21 dp_cX5_look rfl
theorem dX5_look_40 : decode cX5_look 40 = .ok (.invokevirtual 42, 3) := dq_182 dp_cX5_look rfl
theorem dX5_look_43 : decode cX5_look 43 = .ok (.astore 5, 2) := dq_58 dp_cX5_look rfl
theorem dX5_look_45 : decode cX5_look 45 = .ok (.aload 5, 2) := dq_25 dp_cX5_look rfl
theorem dX5_look_47 : decode cX5_look 47 = .ok (.ifnull 20, 3) := dq_198 (v := 20) dp_cX5_look rfl rfl
theorem dX5_look_50 : decode cX5_look 50 = .ok (.iload_n 3, 1) := dq_29 dp_cX5_look rfl
theorem dX5_look_51 : decode cX5_look 51 = .ok (.ifCond .ne 12, 3) := dq_154 (v := 12) dp_cX5_look rfl rfl
theorem dX5_look_54 : decode cX5_look 54 = .ok (.aload 5, 2) := dq_25 dp_cX5_look rfl
theorem dX5_look_56 : decode cX5_look 56 = .ok (.getfield 46, 3) := dq_180 dp_cX5_look rfl
theorem dX5_look_59 : decode cX5_look 59 = .ok (.iconst 5, 1) := dq_8 dp_cX5_look rfl
theorem dX5_look_60 : decode cX5_look 60 = .ok (.if_icmp .eq 7, 3) := dq_159 (v := 7) dp_cX5_look rfl rfl
theorem dX5_look_63 : decode cX5_look 63 = .ok (.iconst 1, 1) := dq_4 dp_cX5_look rfl
theorem dX5_look_64 : decode cX5_look 64 = .ok (.goto 4, 3) := dq_167 (v := 4) dp_cX5_look rfl rfl
theorem dX5_look_67 : decode cX5_look 67 = .ok (.iconst 0, 1) := dq_3 dp_cX5_look rfl
theorem dX5_look_68 : decode cX5_look 68 = .ok (.istore 6, 2) := dq_54 dp_cX5_look rfl
theorem dX5_look_70 : decode cX5_look 70 = .ok (.aload_n 0, 1) := dq_42 dp_cX5_look rfl
theorem dX5_look_71 : decode cX5_look 71 = .ok (.getfield 23, 3) := dq_180 dp_cX5_look rfl
theorem dX5_look_74 : decode cX5_look 74 = .ok (.iload 4, 2) := dq_21 dp_cX5_look rfl
theorem dX5_look_76 : decode cX5_look 76 = .ok (.iload 6, 2) := dq_21 dp_cX5_look rfl
theorem dX5_look_78 : decode cX5_look 78 = .ok (.ifCond .eq 8, 3) := dq_153 (v := 8) dp_cX5_look rfl rfl
theorem dX5_look_81 : decode cX5_look 81 = .ok (.aload 5, 2) := dq_25 dp_cX5_look rfl
theorem dX5_look_83 : decode cX5_look 83 = .ok (.goto 4, 3) := dq_167 (v := 4) dp_cX5_look rfl rfl
theorem dX5_look_86 : decode cX5_look 86 = .ok (.aconst_null, 1) := dq_1 dp_cX5_look rfl
theorem dX5_look_87 : decode cX5_look 87 = .ok (.aastore, 1) := dq_83 dp_cX5_look rfl
theorem dX5_look_88 : decode cX5_look 88 = .ok (.aload_n 0, 1) := dq_42 dp_cX5_look rfl
theorem dX5_look_89 : decode cX5_look 89 = .ok (.iload 6, 2) := dq_21 dp_cX5_look rfl
theorem dX5_look_91 : decode cX5_look 91 = .ok (.ifCond .eq 18, 3) := dq_153 (v := 18) dp_cX5_look rfl rfl
theorem dX5_look_94 : decode cX5_look 94 = .ok (.aload_n 0, 1) := dq_42 dp_cX5_look rfl
theorem dX5_look_95 : decode cX5_look 95 = .ok (.getfield 34, 3) := dq_180 dp_cX5_look rfl
theorem dX5_look_98 : decode cX5_look 98 = .ok (.aload 5, 2) := dq_25 dp_cX5_look rfl
theorem dX5_look_100 : decode cX5_look 100 = .ok (.getfield 49, 3) := dq_180 dp_cX5_look rfl
theorem dX5_look_103 : decode cX5_look 103 = .ok (.invokestatic 52, 3) := dq_184 dp_cX5_look rfl
theorem dX5_look_106 : decode cX5_look 106 = .ok (.goto 7, 3) := dq_167 (v := 7) dp_cX5_look rfl rfl
theorem dX5_look_109 : decode cX5_look 109 = .ok (.aload_n 0, 1) := dq_42 dp_cX5_look rfl
theorem dX5_look_110 : decode cX5_look 110 = .ok (.getfield 34, 3) := dq_180 dp_cX5_look rfl
theorem dX5_look_113 : decode cX5_look 113 = .ok (.putfield 34, 3) := dq_181 dp_cX5_look rfl
theorem dX5_look_116 : decode cX5_look 116 = .ok (.iinc 4 1, 3) := dq_132 (v := 1) dp_cX5_look rfl (by decide) rfl
theorem dX5_look_119 : decode cX5_look 119 = .ok (.goto (-98), 3) := dq_167 (v := 65438) dp_cX5_look rfl rfl
theorem dX5_look_122 : decode cX5_look 122 = .ok (.aload_n 1, 1) := dq_43 dp_cX5_look rfl
theorem dX5_look_123 : decode cX5_look 123 = .ok (.getfield 58, 3) := dq_180 dp_cX5_look rfl
theorem dX5_look_126 : decode cX5_look 126 = .ok (.iconst 0, 1) := dq_3 dp_cX5_look rfl
theorem dX5_look_127 : decode cX5_look 127 = .ok (.aload_n 0, 1) := dq_42 dp_cX5_look rfl
theorem dX5_look_128 : decode cX5_look 128 = .ok (.getfield 18, 3) := dq_180 dp_cX5_look rfl
theorem dX5_look_131 : decode cX5_look 131 = .ok (.iconst 0, 1) := dq_3 dp_cX5_look rfl
theorem dX5_look_132 : decode cX5_look 132 = .ok (.iconst 3, 1) := dq_6 dp_cX5_look rfl
theorem dX5_look_133 : decode cX5_look 133 = .ok (.invokestatic 59, 3) := dq_184 dp_cX5_look rfl
theorem dX5_look_136 : decode cX5_look 136 = .ok (.aload_n 0, 1) := dq_42 dp_cX5_look rfl
theorem dX5_look_137 : decode cX5_look 137 = .ok (.getfield 9, 3) := dq_180 dp_cX5_look rfl
theorem dX5_look_140 : decode cX5_look 140 = .ok (.iconst (-1), 1) := dq_2 dp_cX5_look rfl
theorem dX5_look_141 : decode cX5_look 141 = .ok (.invokestatic 65, 3) := dq_184 dp_cX5_look rfl
theorem dX5_look_144 : decode cX5_look 144 = .ok (.aload_n 0, 1) := dq_42 dp_cX5_look rfl
theorem dX5_look_145 : decode cX5_look 145 = .ok (.getfield 15, 3) := dq_180 dp_cX5_look rfl
theorem dX5_look_148 : decode cX5_look 148 = .ok (.iconst (-1), 1) := dq_2 dp_cX5_look rfl
theorem dX5_look_149 : decode cX5_look 149 = .ok (.invokestatic 65, 3) := dq_184 dp_cX5_look rfl
theorem dX5_look_152 : decode cX5_look 152 = .ok (.return_, 1) := dq_177 dp_cX5_look rfl
theorem dJ7_fill_53178_0 : decode cJ7_fill_53178 0 = .ok (.iconst 0, 1) := dq_3 dp_cJ7_fill_53178 rfl
theorem dJ7_fill_53178_1 : decode cJ7_fill_53178 1 = .ok (.istore_n 2, 1) := dq_61 dp_cJ7_fill_53178 rfl
theorem dJ7_fill_53178_2 : decode cJ7_fill_53178 2 = .ok (.aload_n 0, 1) := dq_42 dp_cJ7_fill_53178 rfl
theorem dJ7_fill_53178_3 : decode cJ7_fill_53178 3 = .ok (.arraylength, 1) := dq_190 dp_cJ7_fill_53178 rfl
theorem dJ7_fill_53178_4 : decode cJ7_fill_53178 4 = .ok (.istore_n 3, 1) := dq_62 dp_cJ7_fill_53178 rfl
theorem dJ7_fill_53178_5 : decode cJ7_fill_53178 5 = .ok (.iload_n 2, 1) := dq_28 dp_cJ7_fill_53178 rfl
theorem dJ7_fill_53178_6 : decode cJ7_fill_53178 6 = .ok (.iload_n 3, 1) := dq_29 dp_cJ7_fill_53178 rfl
theorem dJ7_fill_53178_7 : decode cJ7_fill_53178 7 = .ok (.if_icmp .ge 13, 3) := dq_162 (v := 13) dp_cJ7_fill_53178 rfl rfl
theorem dJ7_fill_53178_10 : decode cJ7_fill_53178 10 = .ok (.aload_n 0, 1) := dq_42 dp_cJ7_fill_53178 rfl
theorem dJ7_fill_53178_11 : decode cJ7_fill_53178 11 = .ok (.iload_n 2, 1) := dq_28 dp_cJ7_fill_53178 rfl
theorem dJ7_fill_53178_12 : decode cJ7_fill_53178 12 = .ok (.iload_n 1, 1) := dq_27 dp_cJ7_fill_53178 rfl
theorem dJ7_fill_53178_13 : decode cJ7_fill_53178 13 = .ok (.iastore, 1) := dq_79 dp_cJ7_fill_53178 rfl
theorem dJ7_fill_53178_14 : decode cJ7_fill_53178 14 = .ok (.iinc 2 1, 3) := dq_132 (v := 1) dp_cJ7_fill_53178 rfl (by decide) rfl
theorem dJ7_fill_53178_17 : decode cJ7_fill_53178 17 = .ok (.goto (-12), 3) := dq_167 (v := 65524) dp_cJ7_fill_53178 rfl rfl
theorem dJ7_fill_53178_20 : decode cJ7_fill_53178 20 = .ok (.return_, 1) := dq_177 dp_cJ7_fill_53178 rfl
end
section
theorem hi_X5_look_0 : ∀ w ∈ u_ws RX0 TX0 9, w ∈ wsX5_look := fun w h => (gl_X5_look_X00 w h).1
theorem gl_X5_look_X50 : GoodIn wsX5_look wsX50 := (dg_t (dg_l (dg_r gw_wsX50)))
theorem hi_X5_look_5 : ∀ w ∈ u_ws RX5 TX5 7, w ∈ wsX5_look := fun w h => (gl_X5_look_X50 w h).1
theorem gl_X5_look_X20 : GoodIn wsX5_look wsX20 := (dg_t (dg_r gw_wsX20))
theorem hi_X5_look_2 : ∀ w ∈ u_ws RX2 TX2 3, w ∈ wsX5_look := fun w h => (gl_X5_look_X20 w h).1
end
section
theorem gl_X1_bodyAt_X10 : GoodIn wsX1_bodyAt wsX10 := (dg_t (dg_t (dg_t (dg_t (dg_t (dg_t (dg_t (dg_t (dg_t (dg_t gw_wsX10))))))))))
theorem hi_X1_bodyAt_1 : ∀ w ∈ u_ws RX1 TX1 5, w ∈ wsX1_bodyAt := fun w h => (gl_X1_bodyAt_X10 w h).1
set_option maxHeartbeats 4000000 in
set_option maxRecDepth 100000 in
theorem c_M_bodyAt (l : Launch) (D : va_G) (cI cJ cZ cP cS : ClassId) (po : zPool) (mv mb : Nat) (mr mk mm mq : Int32) (fb : Nat → Int32) (i : Int32) (hy0 : 0 ≤ mr.toInt) (hy1 : mr.toInt ≤ 100000) : Met l yX1_bodyAt wsX1_bodyAt ({ frames := 1, cells := 0, slots := 0, locals := 22 }) (va_Pc [.ref mv, .int i] (zR D (zKT cI cJ cZ cP cS) po [(mv, .inr (1, [.ref mb, .int mr, .int mk, .int mm, .int mq])), (mb, .inl (cI, 20, .inl fb))])) (vp_Si (fun r => True)) 0 0 (fun _ => False) := by
  refine Met.ofW (cc := cX1_bodyAt) (maxL := 2) (ret := (some .int)) (by decide) rfl ?_
  intro p e s m args below meth c s₁ B hml hv
  obtain ⟨rfl, hP, hK, hN, hZ⟩ := hv
  have hx := B.exec
  have hb := B.bytes
  have hr := B.returns
  have hts := atoms_spec (ws := wsX1_bodyAt) B.pre
  have hown : s.vm.findClass RX1 = some m.cls := findClass_of_methodNamed B.named
  have hlocks := B.notSynchronized
  have hl := lv_entry ([.ref mv, .int i]) (n := 2) (Nat.le_of_ble_eq_true rfl)
  rw [lg_entry_eq]
  generalize (lg_sl ([.ref mv, .int i]) ++ List.replicate (2 - (lg_sl ([.ref mv, .int i])).length) Slot.unset).toArray = ls at hl ⊢
  replace hl : lv_has ls 2 [(0, .ref mv), (1, .int i)] := hl
  refine lv_iload_n hx hb dX1_bodyAt_0 rfl (lv_at hl 1 rfl) ?_
  refine lv_iconst (v := 0) hx hb dX1_bodyAt_1 (by decide) ?_
  refine lv_aload_n hx hb dX1_bodyAt_2 rfl (lv_at hl 0 rfl) ?_
  refine va_get (D := D) (ci := 1) (v := .int mr) (C := RX1) (T := TX1) (N := 5) hx hb hts hi_X1_bodyAt_1 hown hK hP 0 rfl rfl 1 (by decide) (hts (.fieldLink RX1 15 "TheLiningsInIt$Moves" "ran" "I") (List.mem_of_getElem? (i := 1) rfl)) (fun _ h9 => h9) rfl dX1_bodyAt_3 ?_
  refine lv_bipush (v := 20) hx hb dX1_bodyAt_6 (by decide) ?_
  refine va_mmin hx hb (hml.trans hl.1.symm) hown (hts (.methodLink RX1 38 Lib.Math.min.name) (List.mem_of_getElem? (i := 2) rfl)) (hts _ (List.mem_of_getElem? (i := 3) rfl)) (hts _ (List.mem_of_getElem? (i := 4) rfl)) (hts _ (List.mem_of_getElem? (i := 5) rfl)) (Nat.le_of_ble_eq_true rfl) (Nat.le_of_ble_eq_true rfl) (Nat.le_of_ble_eq_true rfl) (Nat.le_of_ble_eq_true rfl) dX1_bodyAt_8 ?_
  refine lv_topi (fun x_1 ex_1 => ?_)
  have qx_1 := zf_min ex_1 (x1 := mr.toInt) (y1 := 20) rfl (by decide)
  refine lv_iconst (v := 1) hx hb dX1_bodyAt_11 (by decide) ?_
  refine lv_isub hx hb dX1_bodyAt_12 ?_
  refine lv_topi (fun x_2 ex_2 => ?_)
  have qx_2 : x_2.toInt = x_1.toInt - 1 := by rw [ex_2]; exact zf_sub rfl (by decide) (by omega) (by omega)
  have kc0 : (0 : Int32).toInt = 0 := by decide
  refine zc_SN (As := [.int i, .int 0, .int x_2]) (rest := []) ⟨hx, hb, hml, hown, hts⟩ (c_within l D cI cJ cZ cP cS po (i) (0) (x_2) ) ⟨(va_cnB 3 hts gX1_bodyAt_X7_within_n44 rfl rfl rfl (hN.1 (RX1, 44, yX7_within) (List.mem_of_getElem? (i := 13) rfl)) (hts _ (List.mem_of_getElem? (i := 8) rfl)) dh_X7_within ⟨Nat.le_of_ble_eq_true rfl, Nat.le_of_ble_eq_true rfl⟩), (hts _ (List.mem_of_getElem? (i := 7) rfl)), trivial⟩ hK hN hZ rfl hl.1 rfl (Nat.le_of_ble_eq_true rfl) dX1_bodyAt_13 ⟨Nat.le_of_ble_eq_true rfl, Nat.le_of_ble_eq_true rfl⟩ (fun r_3 hr_3 => ?_)
  rcases hr_3 with ⟨rfl, g_4⟩ | ⟨rfl, g_5, g_6⟩ | ⟨rfl, g_7, g_8⟩
  · refine lv_if_eq (tgt := 28) hx hb dX1_bodyAt_16 (by decide) (fun c_9 => ?_) (fun c_9 => ?_)
    · refine lv_iconst (v := (-1)) hx hb dX1_bodyAt_28 (by decide) ?_
      exact W.iret (v := (-1)) hx hb hr (fun t ht hW => ⟨(-1), rfl, trivial, ht⟩) (fun q hq => by cases hq) dX1_bodyAt_29
    · exact absurd c_9 (by decide)
  · refine lv_if_eq (tgt := 28) hx hb dX1_bodyAt_16 (by decide) (fun c_10 => ?_) (fun c_10 => ?_)
    · refine lv_iconst (v := (-1)) hx hb dX1_bodyAt_28 (by decide) ?_
      exact W.iret (v := (-1)) hx hb hr (fun t ht hW => ⟨(-1), rfl, trivial, ht⟩) (fun q hq => by cases hq) dX1_bodyAt_29
    · exact absurd c_10 (by decide)
  · refine lv_if_eq (tgt := 28) hx hb dX1_bodyAt_16 (by decide) (fun c_11 => ?_) (fun c_11 => ?_)
    · exact absurd c_11 (by decide)
    · refine lv_aload_n hx hb dX1_bodyAt_19 rfl (lv_at hl 0 rfl) ?_
      refine va_get (D := D) (ci := 1) (v := .ref mb) (C := RX1) (T := TX1) (N := 5) hx hb hts hi_X1_bodyAt_1 hown hK hP 0 rfl rfl 0 (by decide) (hts (.fieldLink RX1 11 "TheLiningsInIt$Moves" "bodies" "[I") (List.mem_of_getElem? (i := 6) rfl)) (fun _ h9 => h9) rfl dX1_bodyAt_20 ?_
      refine lv_iload_n hx hb dX1_bodyAt_23 rfl (lv_at hl 1 rfl) ?_
      refine va_iald hx hb hK hP 1 0 rfl rfl (zf_in (by omega) (by omega)) dX1_bodyAt_24 ?_
      refine lv_topi (fun x_12 ex_12 => ?_)
      refine lv_goto (tgt := 29) hx hb dX1_bodyAt_25 (by decide) ?_
      exact W.iret (v := x_12) hx hb hr (fun t ht hW => ⟨x_12, rfl, trivial, ht⟩) (fun q hq => by cases hq) dX1_bodyAt_29
theorem gl_X1_note_X10 : GoodIn wsX1_note wsX10 := (dg_t (dg_t (dg_t gw_wsX10)))
theorem hi_X1_note_1 : ∀ w ∈ u_ws RX1 TX1 5, w ∈ wsX1_note := fun w h => (gl_X1_note_X10 w h).1
set_option maxHeartbeats 4000000 in
set_option maxRecDepth 100000 in
theorem c_M_note (l : Launch) (D : va_G) (cI cJ cZ cP cS : ClassId) (po : zPool) (mv mb : Nat) (mr mk mm mq : Int32) (fb : Nat → Int32) (bo : Int32) (hy0 : 0 ≤ mr.toInt) (hy1 : mr.toInt ≤ 100000) (hpz : Nat) : Met l yX1_note wsX1_note ({ frames := 0, cells := 0, slots := 0, locals := 0 }) (va_Pc [.ref mv, .int bo] (zW D (zKT cI cJ cZ cP cS) po [(mv, .inr (1, [.ref mb, .int mr, .int mk, .int mm, .int mq])), (mb, .inl (cI, 20, .inl fb))] hpz)) (va_Qv (fun (u : (Int32) × (Nat → Int32)) => u.1.toInt = mr.toInt + 1 ∧ (True)) (zB D [(mv, .inr (1, [.ref mb, .int mr, .int mk, .int mm, .int mq])), (mb, .inl (cI, 20, .inl fb))] hpz (fun (u : (Int32) × (Nat → Int32)) => [(mv, .inr (1, [.ref mb, .int u.1, .int mk, .int mm, .int mq])), (mb, .inl (cI, 20, .inl u.2))])) (va_A [(mv, .inr (1, [.ref mb, .int mr, .int mk, .int mm, .int mq])), (mb, .inl (cI, 20, .inl fb))] hpz)) 0 0 (va_A [(mv, .inr (1, [.ref mb, .int mr, .int mk, .int mm, .int mq])), (mb, .inl (cI, 20, .inl fb))] hpz) := by
  refine Met.ofW (cc := cX1_note) (maxL := 2) (ret := none) (by decide) rfl ?_
  intro p e s m args below meth c s₁ B hml hv
  obtain ⟨rfl, hsz, hP, hK, hD0, hN, hZ⟩ := hv
  have hx := B.exec
  have hb := B.bytes
  have hr := B.returns
  have hts := atoms_spec (ws := wsX1_note) B.pre
  have hown : s.vm.findClass RX1 = some m.cls := findClass_of_methodNamed B.named
  have hlocks := B.notSynchronized
  subst hsz
  have hD := hD0.self (sz := s.heap.size)
  have hA := zA_of hD
  have hl := lv_entry ([.ref mv, .int bo]) (n := 2) (Nat.le_of_ble_eq_true rfl)
  rw [lg_entry_eq]
  generalize (lg_sl ([.ref mv, .int bo]) ++ List.replicate (2 - (lg_sl ([.ref mv, .int bo])).length) Slot.unset).toArray = ls at hl ⊢
  replace hl : lv_has ls 2 [(0, .ref mv), (1, .int bo)] := hl
  refine zw_begin hP hD (fun H locs hP1 hS => ?_)
  clear hP
  have hP := hP1
  clear hP1
  refine lv_aload_n hx hb dX1_note_0 rfl (lv_at hl 0 rfl) ?_
  refine va_get (D := D) (ci := 1) (v := .int mr) (C := RX1) (T := TX1) (N := 5) hx hb hts hi_X1_note_1 hown hK hP 0 rfl rfl 1 (by decide) (hts (.fieldLink RX1 15 "TheLiningsInIt$Moves" "ran" "I") (List.mem_of_getElem? (i := 1) rfl)) (fun _ h9 => h9) rfl dX1_note_1 ?_
  refine lv_bipush (v := 20) hx hb dX1_note_4 (by decide) ?_
  refine lv_icmp_ge (tgt := 19) hx hb dX1_note_6 (by decide) (fun c_1 => ?_) (fun c_1 => ?_)
  · have fc_1 : 20 ≤ mr.toInt := zf_le c_1 (by decide) rfl
    refine lv_aload_n hx hb dX1_note_19 rfl (lv_at hl 0 rfl) ?_
    refine lv_dup hx hb dX1_note_20 rfl ?_
    refine va_get (D := D) (ci := 1) (v := .int mr) (C := RX1) (T := TX1) (N := 5) hx hb hts hi_X1_note_1 hown hK hP 0 rfl rfl 1 (by decide) (hts (.fieldLink RX1 15 "TheLiningsInIt$Moves" "ran" "I") (List.mem_of_getElem? (i := 1) rfl)) (fun _ h9 => h9) rfl dX1_note_21 ?_
    refine lv_iconst (v := 1) hx hb dX1_note_24 (by decide) ?_
    refine lv_iadd hx hb dX1_note_25 ?_
    refine lv_topi (fun x_2 ex_2 => ?_)
    have qx_2 : x_2.toInt = mr.toInt + 1 := by rw [ex_2]; exact zf_add rfl (by decide) (by omega) (by omega)
    refine va_put (D := D) (ci := 1) (v := .int x_2) (ty := .int) (C := RX1) (T := TX1) (N := 5) hx hb hts hi_X1_note_1 tyX1 tyX1_ok nmX1 hown hK hP hD hS 0 rfl rfl 1 (by decide) (hts (.fieldLink RX1 15 "TheLiningsInIt$Moves" "ran" "I") (List.mem_of_getElem? (i := 1) rfl)) (fun _ h9 => h9) rfl (tyX1_ok 1 (Nat.le_of_ble_eq_true rfl)) rfl rfl (Nat.le_of_ble_eq_true rfl) dX1_note_26 (fun H locs hP hD hS => ?_)
    have h9R := zRe (ws' := [(mv, .inr (1, [.ref mb, .int x_2, .int mk, .int mm, .int mq])), (mb, .inl (cI, 20, .inl fb))]) hP hD rfl
    clear hP hD
    obtain ⟨hP, hD⟩ := h9R
    exact W.vret hx hb hr (fun t ht hW => ⟨⟨(x_2, fb), rfl, ⟨(show x_2.toInt = mr.toInt + 1 from by omega), trivial⟩, zRet ht hP hD [0, 1] (by decide) rfl⟩, hS.F ht⟩) hS.2.2 dX1_note_29
  · have fc_1 : mr.toInt < 20 := zf_nle c_1 (by decide) rfl
    refine lv_aload_n hx hb dX1_note_9 rfl (lv_at hl 0 rfl) ?_
    refine va_get (D := D) (ci := 1) (v := .ref mb) (C := RX1) (T := TX1) (N := 5) hx hb hts hi_X1_note_1 hown hK hP 0 rfl rfl 0 (by decide) (hts (.fieldLink RX1 11 "TheLiningsInIt$Moves" "bodies" "[I") (List.mem_of_getElem? (i := 2) rfl)) (fun _ h9 => h9) rfl dX1_note_10 ?_
    refine lv_aload_n hx hb dX1_note_13 rfl (lv_at hl 0 rfl) ?_
    refine va_get (D := D) (ci := 1) (v := .int mr) (C := RX1) (T := TX1) (N := 5) hx hb hts hi_X1_note_1 hown hK hP 0 rfl rfl 1 (by decide) (hts (.fieldLink RX1 15 "TheLiningsInIt$Moves" "ran" "I") (List.mem_of_getElem? (i := 1) rfl)) (fun _ h9 => h9) rfl dX1_note_14 ?_
    refine lv_iload_n hx hb dX1_note_17 rfl (lv_at hl 1 rfl) ?_
    refine va_iast hx hb hK hP hD hS 1 0 rfl rfl (zf_in (by omega) (by omega)) dX1_note_18 (fun H locs hP hD hS => ?_)
    obtain ⟨g_3, hg_3⟩ : ∃ g : Nat → Int32, g = upd fb mr.toNatClampNeg bo := ⟨_, rfl⟩
    rw [← hg_3] at hP hD
    clear hg_3
    have h9R := zRe (ws' := [(mv, .inr (1, [.ref mb, .int mr, .int mk, .int mm, .int mq])), (mb, .inl (cI, 20, .inl g_3))]) hP hD rfl
    clear hP hD
    obtain ⟨hP, hD⟩ := h9R
    refine lv_aload_n hx hb dX1_note_19 rfl (lv_at hl 0 rfl) ?_
    refine lv_dup hx hb dX1_note_20 rfl ?_
    refine va_get (D := D) (ci := 1) (v := .int mr) (C := RX1) (T := TX1) (N := 5) hx hb hts hi_X1_note_1 hown hK hP 0 rfl rfl 1 (by decide) (hts (.fieldLink RX1 15 "TheLiningsInIt$Moves" "ran" "I") (List.mem_of_getElem? (i := 1) rfl)) (fun _ h9 => h9) rfl dX1_note_21 ?_
    refine lv_iconst (v := 1) hx hb dX1_note_24 (by decide) ?_
    refine lv_iadd hx hb dX1_note_25 ?_
    refine lv_topi (fun x_4 ex_4 => ?_)
    have qx_4 : x_4.toInt = mr.toInt + 1 := dw_incK ex_4 fc_1 (by decide)
    refine va_put (D := D) (ci := 1) (v := .int x_4) (ty := .int) (C := RX1) (T := TX1) (N := 5) hx hb hts hi_X1_note_1 tyX1 tyX1_ok nmX1 hown hK hP hD hS 0 rfl rfl 1 (by decide) (hts (.fieldLink RX1 15 "TheLiningsInIt$Moves" "ran" "I") (List.mem_of_getElem? (i := 1) rfl)) (fun _ h9 => h9) rfl (tyX1_ok 1 (Nat.le_of_ble_eq_true rfl)) rfl rfl (Nat.le_of_ble_eq_true rfl) dX1_note_26 (fun H locs hP hD hS => ?_)
    have h9R := zRe (ws' := [(mv, .inr (1, [.ref mb, .int x_4, .int mk, .int mm, .int mq])), (mb, .inl (cI, 20, .inl g_3))]) hP hD rfl
    clear hP hD
    obtain ⟨hP, hD⟩ := h9R
    exact W.vret hx hb hr (fun t ht hW => ⟨⟨(x_4, g_3), rfl, ⟨(show x_4.toInt = mr.toInt + 1 from by omega), trivial⟩, zRet ht hP hD [0, 1] (by decide) rfl⟩, hS.F ht⟩) hS.2.2 dX1_note_29
end
section
def wsX0_pullFreeInTruth_r1 : List Cond := (Cond.fieldLink RX0 32 "TheLiningsInIt$Jacket" "depth" "I") :: (Cond.fieldLink RX0 38 "TheLiningsInIt$Jacket" "seconds" "I") :: (Cond.methodLink RX0 122 yX5_next) :: (Cond.instanceMethod yX5_next) :: (Cond.selects RX5 yX5_next yX5_next) :: (Cond.initialized RX5) :: (Cond.code yX5_next cX5_next 9 (some .int)) :: (Cond.fieldLink RX5 27 "TheLiningsInIt$Ways" "count" "I") :: (Cond.methodLink RX5 82 yX5_mayBeAt) :: (Cond.instanceMethod yX5_mayBeAt) :: (Cond.selects RX5 yX5_mayBeAt yX5_mayBeAt) :: (Cond.code yX5_mayBeAt cX5_mayBeAt 5 (some (.object "TheLiningsInIt$Pull"))) :: (Cond.fieldLink RX5 23 "TheLiningsInIt$Ways" "pulls" "[LTheLiningsInIt$Pull;") :: (Cond.static yX7_within) :: (Cond.initialized RX7) :: (Cond.code yX7_within cX7_within 3 (some .boolean)) :: (Cond.methodLink RX5 75 yX2_mayBe) :: (Cond.instanceMethod yX2_mayBe) :: (Cond.selects RX2 yX2_mayBe yX2_mayBe) :: (Cond.initialized RX2) :: (Cond.code yX2_mayBe cX2_mayBe 3 (some .boolean)) :: (Cond.fieldLink RX2 18 "TheLiningsInIt$Pull" "takes" "I") :: (Cond.methodLink RX5 86 yX5_mostBy) :: (Cond.instanceMethod yX5_mostBy) :: []
def wsX0_pullFreeInTruth_r2 : List Cond := (Cond.selects RX5 yX5_mostBy yX5_mostBy) :: (Cond.code yX5_mostBy cX5_mostBy 8 (some .int)) :: (Cond.fieldLink RX5 31 "TheLiningsInIt$Ways" "hurry" "I") :: (Cond.fieldLink RX5 49 "TheLiningsInIt$Pull" "takes" "I") :: (Cond.methodLink RX5 90 yX2_waysAt) :: (Cond.instanceMethod yX2_waysAt) :: (Cond.selects RX2 yX2_waysAt yX2_waysAt) :: (Cond.code yX2_waysAt cX2_waysAt 3 (some .int)) :: (Cond.fieldLink RX2 9 "TheLiningsInIt$Pull" "kind" "I") :: (Cond.methodLink RX2 33 Lib.Math.min.name) :: (Cond.static Lib.Math.min.name) :: (Cond.initialized "java/lang/Math") :: (Cond.code Lib.Math.min.name Lib.Math.min.code 2 (some .int)) :: (Cond.methodLink RX2 39 Lib.Math.max.name) :: (Cond.static Lib.Math.max.name) :: (Cond.code Lib.Math.max.name Lib.Math.max.code 2 (some .int)) :: (Cond.methodLink RX2 29 yX2_calmWaysAt) :: (Cond.instanceMethod yX2_calmWaysAt) :: (Cond.selects RX2 yX2_calmWaysAt yX2_calmWaysAt) :: (Cond.code yX2_calmWaysAt cX2_calmWaysAt 2 (some .int)) :: (Cond.fieldLink RX2 15 "TheLiningsInIt$Pull" "a" "I") :: (Cond.methodLink RX5 93 yX2_shallower) :: (Cond.instanceMethod yX2_shallower) :: (Cond.selects RX2 yX2_shallower yX2_shallower) :: []
def wsX0_pullFreeInTruth_r3 : List Cond := (Cond.code yX2_shallower cX2_shallower 2 (some .int)) :: (Cond.methodLink RX2 42 yX2_step) :: (Cond.instanceMethod yX2_step) :: (Cond.selects RX2 yX2_step yX2_step) :: (Cond.code yX2_step cX2_step 1 (some .int)) :: (Cond.methodLink RX5 97 yX5_most) :: (Cond.instanceMethod yX5_most) :: (Cond.selects RX5 yX5_most yX5_most) :: (Cond.methodLink RX5 101 yX2_deeper) :: (Cond.instanceMethod yX2_deeper) :: (Cond.selects RX2 yX2_deeper yX2_deeper) :: (Cond.code yX2_deeper cX2_deeper 4 (some .int)) :: (Cond.code yX5_most cX5_most 9 (some .int)) :: (Cond.fieldLink RX5 79 "TheLiningsInIt$Ways" "POWERS" "[I") :: (Cond.fieldLink RX5 34 "TheLiningsInIt$Ways" "longest" "I") :: (Cond.fieldLink RX5 9 "TheLiningsInIt$Ways" "knownMost" "[I") :: (Cond.methodLink RX5 52 Lib.Math.max.name) :: (Cond.methodLink RX0 77 yX0_pullAt) :: (Cond.instanceMethod yX0_pullAt) :: (Cond.selects RX0 yX0_pullAt yX0_pullAt) :: (Cond.initialized RX0) :: (Cond.code yX0_pullAt cX0_pullAt 2 (some (.object "TheLiningsInIt$Pull"))) :: (Cond.fieldLink RX0 28 "TheLiningsInIt$Jacket" "pullCount" "I") :: (Cond.fieldLink RX0 20 "TheLiningsInIt$Jacket" "pulls" "[LTheLiningsInIt$Pull;") :: []
def wsX0_pullFreeInTruth_r4 : List Cond := (Cond.methodLink RX0 128 yX0_pullInTruth) :: (Cond.instanceMethod yX0_pullInTruth) :: (Cond.selects RX0 yX0_pullInTruth yX0_pullInTruth) :: (Cond.code yX0_pullInTruth cX0_pullInTruth 3 none) :: (Cond.fieldLink RX0 41 "TheLiningsInIt$Jacket" "hurry" "I") :: (Cond.fieldLink RX0 99 "TheLiningsInIt$Pull" "takes" "I") :: (Cond.fieldLink RX0 102 "TheLiningsInIt$Pull" "kind" "I") :: (Cond.fieldLink RX0 35 "TheLiningsInIt$Jacket" "torn" "I") :: (Cond.methodLink RX0 85 yX0_draw) :: (Cond.instanceMethod yX0_draw) :: (Cond.selects RX0 yX0_draw yX0_draw) :: (Cond.code yX0_draw cX0_draw 2 (some .int)) :: (Cond.fieldLink RX0 44 "TheLiningsInIt$Jacket" "seedNow" "I") :: (Cond.constant RX0 84 (1103515245)) :: (Cond.methodLink RX0 89 yX2_waysAt) :: (Cond.methodLink RX0 93 yX2_shallower) :: (Cond.methodLink RX0 96 yX2_deeper) :: []
def wsX0_pullFreeInTruth : List Cond := (.code yX0_pullFreeInTruth cX0_pullFreeInTruth 4 none) :: ((wsX0_pullFreeInTruth_r1 ++ (wsX0_pullFreeInTruth_r2 ++ (wsX0_pullFreeInTruth_r3 ++ wsX0_pullFreeInTruth_r4))) ++ wsX00 ++ wsX50 ++ wsX20)
def wsX0_dayInTruth_r1 : List Cond := (Cond.fieldLink RX0 12 "TheLiningsInIt$Jacket" "zip" "LTheLiningsInIt$Zip;") :: (Cond.fieldLink RX0 63 "TheLiningsInIt$Zip" "at" "I") :: (Cond.fieldLink RX0 32 "TheLiningsInIt$Jacket" "depth" "I") :: (Cond.fieldLink RX0 38 "TheLiningsInIt$Jacket" "seconds" "I") :: (Cond.fieldLink RX0 57 "TheLiningsInIt$Zip" "size" "I") :: (Cond.methodLink RX0 115 yX0_closeInTruth) :: (Cond.instanceMethod yX0_closeInTruth) :: (Cond.selects RX0 yX0_closeInTruth yX0_closeInTruth) :: (Cond.initialized RX0) :: (Cond.code yX0_closeInTruth cX0_closeInTruth 2 none) :: (Cond.fieldLink RX0 109 "TheLiningsInIt$Zip" "slacks" "[I") :: (Cond.fieldLink RX0 60 "TheLiningsInIt$Zip" "gap" "I") :: (Cond.methodLink RX0 105 yX6_catchesAt) :: (Cond.instanceMethod yX6_catchesAt) :: (Cond.selects RX6 yX6_catchesAt yX6_catchesAt) :: (Cond.initialized RX6) :: (Cond.code yX6_catchesAt cX6_catchesAt 2 (some .boolean)) :: (Cond.fieldLink RX6 9 "TheLiningsInIt$Zip" "lacking" "[Z") :: (Cond.fieldLink RX6 15 "TheLiningsInIt$Zip" "slacks" "[I") :: (Cond.fieldLink RX6 26 "TheLiningsInIt$Zip" "gap" "I") :: (Cond.methodLink RX6 29 yX6_has) :: (Cond.instanceMethod yX6_has) :: (Cond.selects RX6 yX6_has yX6_has) :: (Cond.code yX6_has cX6_has 2 (some .boolean)) :: []
def wsX0_dayInTruth_r2 : List Cond := (Cond.fieldLink RX6 19 "TheLiningsInIt$Zip" "size" "I") :: (Cond.methodLink RX0 85 yX0_draw) :: (Cond.instanceMethod yX0_draw) :: (Cond.selects RX0 yX0_draw yX0_draw) :: (Cond.code yX0_draw cX0_draw 2 (some .int)) :: (Cond.fieldLink RX0 44 "TheLiningsInIt$Jacket" "seedNow" "I") :: (Cond.constant RX0 84 (1103515245)) :: (Cond.methodLink RX0 112 yX6_lacksThreeFrom) :: (Cond.instanceMethod yX6_lacksThreeFrom) :: (Cond.selects RX6 yX6_lacksThreeFrom yX6_lacksThreeFrom) :: (Cond.code yX6_lacksThreeFrom cX6_lacksThreeFrom 2 (some .boolean)) :: (Cond.methodLink RX6 33 yX6_lacksAt) :: (Cond.instanceMethod yX6_lacksAt) :: (Cond.selects RX6 yX6_lacksAt yX6_lacksAt) :: (Cond.code yX6_lacksAt cX6_lacksAt 2 (some .boolean)) :: (Cond.methodLink RX0 118 yX0_pullFreeInTruth) :: (Cond.instanceMethod yX0_pullFreeInTruth) :: (Cond.selects RX0 yX0_pullFreeInTruth yX0_pullFreeInTruth) :: (Cond.code yX0_pullFreeInTruth cX0_pullFreeInTruth 4 none) :: (Cond.methodLink RX0 122 yX5_next) :: (Cond.instanceMethod yX5_next) :: (Cond.selects RX5 yX5_next yX5_next) :: (Cond.initialized RX5) :: (Cond.code yX5_next cX5_next 9 (some .int)) :: []
def wsX0_dayInTruth_r3 : List Cond := (Cond.fieldLink RX5 27 "TheLiningsInIt$Ways" "count" "I") :: (Cond.methodLink RX5 82 yX5_mayBeAt) :: (Cond.instanceMethod yX5_mayBeAt) :: (Cond.selects RX5 yX5_mayBeAt yX5_mayBeAt) :: (Cond.code yX5_mayBeAt cX5_mayBeAt 5 (some (.object "TheLiningsInIt$Pull"))) :: (Cond.fieldLink RX5 23 "TheLiningsInIt$Ways" "pulls" "[LTheLiningsInIt$Pull;") :: (Cond.static yX7_within) :: (Cond.initialized RX7) :: (Cond.code yX7_within cX7_within 3 (some .boolean)) :: (Cond.methodLink RX5 75 yX2_mayBe) :: (Cond.instanceMethod yX2_mayBe) :: (Cond.selects RX2 yX2_mayBe yX2_mayBe) :: (Cond.initialized RX2) :: (Cond.code yX2_mayBe cX2_mayBe 3 (some .boolean)) :: (Cond.fieldLink RX2 18 "TheLiningsInIt$Pull" "takes" "I") :: (Cond.methodLink RX5 86 yX5_mostBy) :: (Cond.instanceMethod yX5_mostBy) :: (Cond.selects RX5 yX5_mostBy yX5_mostBy) :: (Cond.code yX5_mostBy cX5_mostBy 8 (some .int)) :: (Cond.fieldLink RX5 31 "TheLiningsInIt$Ways" "hurry" "I") :: (Cond.fieldLink RX5 49 "TheLiningsInIt$Pull" "takes" "I") :: (Cond.methodLink RX5 90 yX2_waysAt) :: (Cond.instanceMethod yX2_waysAt) :: (Cond.selects RX2 yX2_waysAt yX2_waysAt) :: []
def wsX0_dayInTruth_r4 : List Cond := (Cond.code yX2_waysAt cX2_waysAt 3 (some .int)) :: (Cond.fieldLink RX2 9 "TheLiningsInIt$Pull" "kind" "I") :: (Cond.methodLink RX2 33 Lib.Math.min.name) :: (Cond.static Lib.Math.min.name) :: (Cond.initialized "java/lang/Math") :: (Cond.code Lib.Math.min.name Lib.Math.min.code 2 (some .int)) :: (Cond.methodLink RX2 39 Lib.Math.max.name) :: (Cond.static Lib.Math.max.name) :: (Cond.code Lib.Math.max.name Lib.Math.max.code 2 (some .int)) :: (Cond.methodLink RX2 29 yX2_calmWaysAt) :: (Cond.instanceMethod yX2_calmWaysAt) :: (Cond.selects RX2 yX2_calmWaysAt yX2_calmWaysAt) :: (Cond.code yX2_calmWaysAt cX2_calmWaysAt 2 (some .int)) :: (Cond.fieldLink RX2 15 "TheLiningsInIt$Pull" "a" "I") :: (Cond.methodLink RX5 93 yX2_shallower) :: (Cond.instanceMethod yX2_shallower) :: (Cond.selects RX2 yX2_shallower yX2_shallower) :: (Cond.code yX2_shallower cX2_shallower 2 (some .int)) :: (Cond.methodLink RX2 42 yX2_step) :: (Cond.instanceMethod yX2_step) :: (Cond.selects RX2 yX2_step yX2_step) :: (Cond.code yX2_step cX2_step 1 (some .int)) :: (Cond.methodLink RX5 97 yX5_most) :: (Cond.instanceMethod yX5_most) :: []
def wsX0_dayInTruth_r5 : List Cond := (Cond.selects RX5 yX5_most yX5_most) :: (Cond.methodLink RX5 101 yX2_deeper) :: (Cond.instanceMethod yX2_deeper) :: (Cond.selects RX2 yX2_deeper yX2_deeper) :: (Cond.code yX2_deeper cX2_deeper 4 (some .int)) :: (Cond.code yX5_most cX5_most 9 (some .int)) :: (Cond.fieldLink RX5 79 "TheLiningsInIt$Ways" "POWERS" "[I") :: (Cond.fieldLink RX5 34 "TheLiningsInIt$Ways" "longest" "I") :: (Cond.fieldLink RX5 9 "TheLiningsInIt$Ways" "knownMost" "[I") :: (Cond.methodLink RX5 52 Lib.Math.max.name) :: (Cond.methodLink RX0 77 yX0_pullAt) :: (Cond.instanceMethod yX0_pullAt) :: (Cond.selects RX0 yX0_pullAt yX0_pullAt) :: (Cond.code yX0_pullAt cX0_pullAt 2 (some (.object "TheLiningsInIt$Pull"))) :: (Cond.fieldLink RX0 28 "TheLiningsInIt$Jacket" "pullCount" "I") :: (Cond.fieldLink RX0 20 "TheLiningsInIt$Jacket" "pulls" "[LTheLiningsInIt$Pull;") :: (Cond.methodLink RX0 128 yX0_pullInTruth) :: (Cond.instanceMethod yX0_pullInTruth) :: (Cond.selects RX0 yX0_pullInTruth yX0_pullInTruth) :: (Cond.code yX0_pullInTruth cX0_pullInTruth 3 none) :: (Cond.fieldLink RX0 41 "TheLiningsInIt$Jacket" "hurry" "I") :: (Cond.fieldLink RX0 99 "TheLiningsInIt$Pull" "takes" "I") :: (Cond.fieldLink RX0 102 "TheLiningsInIt$Pull" "kind" "I") :: (Cond.fieldLink RX0 35 "TheLiningsInIt$Jacket" "torn" "I") :: []
def wsX0_dayInTruth_r6 : List Cond := (Cond.methodLink RX0 89 yX2_waysAt) :: (Cond.methodLink RX0 93 yX2_shallower) :: (Cond.methodLink RX0 96 yX2_deeper) :: []
def wsX0_dayInTruth : List Cond := (.code yX0_dayInTruth cX0_dayInTruth 3 (some .boolean)) :: ((wsX0_dayInTruth_r1 ++ (wsX0_dayInTruth_r2 ++ (wsX0_dayInTruth_r3 ++ (wsX0_dayInTruth_r4 ++ (wsX0_dayInTruth_r5 ++ wsX0_dayInTruth_r6))))) ++ wsX00 ++ wsX60 ++ wsX50 ++ wsX20)
set_option maxRecDepth 20000 in
theorem gl_X0_dayInTruth_X00 : GoodIn wsX0_dayInTruth wsX00 := (dg_t (dg_l (dg_l (dg_l (dg_r gw_wsX00)))))
theorem gl_X0_dayInTruth_X60 : GoodIn wsX0_dayInTruth wsX60 := (dg_t (dg_l (dg_l (dg_r gw_wsX60))))
theorem ggX0_dayInTruth_X0_closeInTruth : GoodIn wsX0_dayInTruth wsX0_closeInTruth := (dg_c 10 rfl rfl (goodIn_app (goodIn_app (goodIn_app (dg_c 1 rfl rfl (dg_c 2 rfl rfl (dg_c 5 rfl rfl (dg_c 11 rfl rfl (dg_c 12 rfl rfl (dg_c 3 rfl rfl (dg_c 13 rfl rfl (dg_c 14 rfl rfl (dg_c 15 rfl rfl (dg_c 16 rfl rfl (dg_c 17 rfl rfl (dg_c 18 rfl rfl (dg_c 19 rfl rfl (dg_c 20 rfl rfl (dg_c 21 rfl rfl (dg_c 22 rfl rfl (dg_c 23 rfl rfl (dg_c 24 rfl rfl (dg_c 25 rfl rfl (dg_c 26 rfl rfl (dg_c 27 rfl rfl (dg_c 28 rfl rfl (dg_c 9 rfl rfl (dg_c 29 rfl rfl dg_0)))))))))))))))))))))))) (dg_c 30 rfl rfl (dg_c 31 rfl rfl (dg_c 32 rfl rfl (dg_c 33 rfl rfl (dg_c 34 rfl rfl (dg_c 35 rfl rfl (dg_c 36 rfl rfl (dg_c 37 rfl rfl (dg_c 38 rfl rfl (dg_c 39 rfl rfl dg_0))))))))))) gl_X0_dayInTruth_X00) gl_X0_dayInTruth_X60))
set_option maxRecDepth 20000 in
theorem gX0_dayInTruth_X0_closeInTruth : GoodIn wsX0_dayInTruth (wsV RX0 115 RX0 yX0_closeInTruth wsX0_closeInTruth) := goodIn_app (dg_c 6 rfl rfl (dg_c 7 rfl rfl (dg_c 8 rfl rfl (dg_c 9 rfl rfl dg_0)))) ggX0_dayInTruth_X0_closeInTruth
set_option maxRecDepth 20000 in
theorem gl_X0_dayInTruth_X50 : GoodIn wsX0_dayInTruth wsX50 := (dg_t (dg_l (dg_r gw_wsX50)))
theorem gl_X0_dayInTruth_X20 : GoodIn wsX0_dayInTruth wsX20 := (dg_t (dg_r gw_wsX20))
theorem ggX0_dayInTruth_X0_pullFreeInTruth : GoodIn wsX0_dayInTruth wsX0_pullFreeInTruth := (dg_c 43 rfl rfl (goodIn_app (goodIn_app (goodIn_app (goodIn_app (dg_c 3 rfl rfl (dg_c 4 rfl rfl (dg_c 44 rfl rfl (dg_c 45 rfl rfl (dg_c 46 rfl rfl (dg_c 47 rfl rfl (dg_c 48 rfl rfl (dg_c 49 rfl rfl (dg_c 50 rfl rfl (dg_c 51 rfl rfl (dg_c 52 rfl rfl (dg_c 53 rfl rfl (dg_c 54 rfl rfl (dg_c 55 rfl rfl (dg_c 56 rfl rfl (dg_c 57 rfl rfl (dg_c 58 rfl rfl (dg_c 59 rfl rfl (dg_c 60 rfl rfl (dg_c 61 rfl rfl (dg_c 62 rfl rfl (dg_c 63 rfl rfl (dg_c 64 rfl rfl (dg_c 65 rfl rfl dg_0)))))))))))))))))))))))) (goodIn_app (dg_c 66 rfl rfl (dg_c 67 rfl rfl (dg_c 68 rfl rfl (dg_c 69 rfl rfl (dg_c 70 rfl rfl (dg_c 71 rfl rfl (dg_c 72 rfl rfl (dg_c 73 rfl rfl (dg_c 74 rfl rfl (dg_c 75 rfl rfl (dg_c 76 rfl rfl (dg_c 77 rfl rfl (dg_c 78 rfl rfl (dg_c 79 rfl rfl (dg_c 80 rfl rfl (dg_c 81 rfl rfl (dg_c 82 rfl rfl (dg_c 83 rfl rfl (dg_c 84 rfl rfl (dg_c 85 rfl rfl (dg_c 86 rfl rfl (dg_c 87 rfl rfl (dg_c 88 rfl rfl (dg_c 89 rfl rfl dg_0)))))))))))))))))))))))) (goodIn_app (dg_c 90 rfl rfl (dg_c 91 rfl rfl (dg_c 92 rfl rfl (dg_c 93 rfl rfl (dg_c 94 rfl rfl (dg_c 95 rfl rfl (dg_c 96 rfl rfl (dg_c 97 rfl rfl (dg_c 98 rfl rfl (dg_c 99 rfl rfl (dg_c 100 rfl rfl (dg_c 101 rfl rfl (dg_c 102 rfl rfl (dg_c 103 rfl rfl (dg_c 104 rfl rfl (dg_c 105 rfl rfl (dg_c 106 rfl rfl (dg_c 107 rfl rfl (dg_c 108 rfl rfl (dg_c 109 rfl rfl (dg_c 9 rfl rfl (dg_c 110 rfl rfl (dg_c 111 rfl rfl (dg_c 112 rfl rfl dg_0)))))))))))))))))))))))) (dg_c 113 rfl rfl (dg_c 114 rfl rfl (dg_c 115 rfl rfl (dg_c 116 rfl rfl (dg_c 117 rfl rfl (dg_c 118 rfl rfl (dg_c 119 rfl rfl (dg_c 120 rfl rfl (dg_c 26 rfl rfl (dg_c 27 rfl rfl (dg_c 28 rfl rfl (dg_c 29 rfl rfl (dg_c 30 rfl rfl (dg_c 31 rfl rfl (dg_c 121 rfl rfl (dg_c 122 rfl rfl (dg_c 123 rfl rfl dg_0)))))))))))))))))))) gl_X0_dayInTruth_X00) gl_X0_dayInTruth_X50) gl_X0_dayInTruth_X20))
set_option maxRecDepth 20000 in
theorem gX0_dayInTruth_X0_pullFreeInTruth : GoodIn wsX0_dayInTruth (wsV RX0 118 RX0 yX0_pullFreeInTruth wsX0_pullFreeInTruth) := goodIn_app (dg_c 40 rfl rfl (dg_c 41 rfl rfl (dg_c 42 rfl rfl (dg_c 9 rfl rfl dg_0)))) ggX0_dayInTruth_X0_pullFreeInTruth
theorem dX0_dayInTruth_0 : decode cX0_dayInTruth 0 = .ok (.aload_n 0, 1) := dq_42 dp_cX0_dayInTruth rfl
theorem dX0_dayInTruth_1 : decode cX0_dayInTruth 1 = .ok (.getfield 12, 3) := dq_180 dp_cX0_dayInTruth rfl
theorem dX0_dayInTruth_4 : decode cX0_dayInTruth 4 = .ok (.iconst 0, 1) := dq_3 dp_cX0_dayInTruth rfl
theorem dX0_dayInTruth_5 : decode cX0_dayInTruth 5 = .ok (.putfield 63, 3) := dq_181 dp_cX0_dayInTruth rfl
theorem dX0_dayInTruth_8 : decode cX0_dayInTruth 8 = .ok (.aload_n 0, 1) := dq_42 dp_cX0_dayInTruth rfl
theorem dX0_dayInTruth_9 : decode cX0_dayInTruth 9 = .ok (.iconst 0, 1) := dq_3 dp_cX0_dayInTruth rfl
theorem dX0_dayInTruth_10 : decode cX0_dayInTruth 10 = .ok (.putfield 32, 3) := dq_181 dp_cX0_dayInTruth rfl
theorem dX0_dayInTruth_13 : decode cX0_dayInTruth 13 = .ok (.aload_n 0, 1) := dq_42 dp_cX0_dayInTruth rfl
theorem dX0_dayInTruth_14 : decode cX0_dayInTruth 14 = .ok (.bipush 60, 2) := dq_16 (v := 60) dp_cX0_dayInTruth rfl rfl
theorem dX0_dayInTruth_16 : decode cX0_dayInTruth 16 = .ok (.putfield 38, 3) := dq_181 dp_cX0_dayInTruth rfl
theorem dX0_dayInTruth_19 : decode cX0_dayInTruth 19 = .ok (.iconst 0, 1) := dq_3 dp_cX0_dayInTruth rfl
theorem dX0_dayInTruth_20 : decode cX0_dayInTruth 20 = .ok (.istore_n 2, 1) := dq_61 dp_cX0_dayInTruth rfl
theorem dX0_dayInTruth_21 : decode cX0_dayInTruth 21 = .ok (.iload_n 2, 1) := dq_28 dp_cX0_dayInTruth rfl
theorem dX0_dayInTruth_22 : decode cX0_dayInTruth 22 = .ok (.iconst 3, 1) := dq_6 dp_cX0_dayInTruth rfl
theorem dX0_dayInTruth_23 : decode cX0_dayInTruth 23 = .ok (.if_icmp .ge 44, 3) := dq_162 (v := 44) dp_cX0_dayInTruth rfl rfl
theorem dX0_dayInTruth_26 : decode cX0_dayInTruth 26 = .ok (.aload_n 0, 1) := dq_42 dp_cX0_dayInTruth rfl
theorem dX0_dayInTruth_27 : decode cX0_dayInTruth 27 = .ok (.getfield 32, 3) := dq_180 dp_cX0_dayInTruth rfl
theorem dX0_dayInTruth_30 : decode cX0_dayInTruth 30 = .ok (.ifCond .ne 37, 3) := dq_154 (v := 37) dp_cX0_dayInTruth rfl rfl
theorem dX0_dayInTruth_33 : decode cX0_dayInTruth 33 = .ok (.aload_n 0, 1) := dq_42 dp_cX0_dayInTruth rfl
theorem dX0_dayInTruth_34 : decode cX0_dayInTruth 34 = .ok (.invokevirtual 115, 3) := dq_182 dp_cX0_dayInTruth rfl
theorem dX0_dayInTruth_37 : decode cX0_dayInTruth 37 = .ok (.aload_n 0, 1) := dq_42 dp_cX0_dayInTruth rfl
theorem dX0_dayInTruth_38 : decode cX0_dayInTruth 38 = .ok (.getfield 12, 3) := dq_180 dp_cX0_dayInTruth rfl
theorem dX0_dayInTruth_41 : decode cX0_dayInTruth 41 = .ok (.getfield 63, 3) := dq_180 dp_cX0_dayInTruth rfl
theorem dX0_dayInTruth_44 : decode cX0_dayInTruth 44 = .ok (.aload_n 0, 1) := dq_42 dp_cX0_dayInTruth rfl
theorem dX0_dayInTruth_45 : decode cX0_dayInTruth 45 = .ok (.getfield 12, 3) := dq_180 dp_cX0_dayInTruth rfl
theorem dX0_dayInTruth_48 : decode cX0_dayInTruth 48 = .ok (.getfield 57, 3) := dq_180 dp_cX0_dayInTruth rfl
theorem dX0_dayInTruth_51 : decode cX0_dayInTruth 51 = .ok (.if_icmp .ne 5, 3) := dq_160 (v := 5) dp_cX0_dayInTruth rfl rfl
theorem dX0_dayInTruth_54 : decode cX0_dayInTruth 54 = .ok (.iconst 1, 1) := dq_4 dp_cX0_dayInTruth rfl
theorem dX0_dayInTruth_55 : decode cX0_dayInTruth 55 = .ok (.ireturn, 1) := dq_172 dp_cX0_dayInTruth rfl
theorem dX0_dayInTruth_56 : decode cX0_dayInTruth 56 = .ok (.aload_n 0, 1) := dq_42 dp_cX0_dayInTruth rfl
theorem dX0_dayInTruth_57 : decode cX0_dayInTruth 57 = .ok (.aload_n 1, 1) := dq_43 dp_cX0_dayInTruth rfl
theorem dX0_dayInTruth_58 : decode cX0_dayInTruth 58 = .ok (.invokevirtual 118, 3) := dq_182 dp_cX0_dayInTruth rfl
theorem dX0_dayInTruth_61 : decode cX0_dayInTruth 61 = .ok (.iinc 2 1, 3) := dq_132 (v := 1) dp_cX0_dayInTruth rfl (by decide) rfl
theorem dX0_dayInTruth_64 : decode cX0_dayInTruth 64 = .ok (.goto (-43), 3) := dq_167 (v := 65493) dp_cX0_dayInTruth rfl rfl
theorem dX0_dayInTruth_67 : decode cX0_dayInTruth 67 = .ok (.iconst 0, 1) := dq_3 dp_cX0_dayInTruth rfl
theorem dX0_dayInTruth_68 : decode cX0_dayInTruth 68 = .ok (.ireturn, 1) := dq_172 dp_cX0_dayInTruth rfl
set_option maxRecDepth 20000 in
theorem gl_X0_pullFreeInTruth_X50 : GoodIn wsX0_pullFreeInTruth wsX50 := (dg_t (dg_l (dg_r gw_wsX50)))
theorem gl_X0_pullFreeInTruth_X20 : GoodIn wsX0_pullFreeInTruth wsX20 := (dg_t (dg_r gw_wsX20))
theorem ggX0_pullFreeInTruth_X5_next : GoodIn wsX0_pullFreeInTruth wsX5_next := (dg_c 7 rfl rfl (goodIn_app (goodIn_app (goodIn_app (dg_c 8 rfl rfl (dg_c 9 rfl rfl (dg_c 10 rfl rfl (dg_c 11 rfl rfl (dg_c 6 rfl rfl (dg_c 12 rfl rfl (dg_c 13 rfl rfl (dg_c 14 rfl rfl (dg_c 15 rfl rfl (dg_c 16 rfl rfl (dg_c 17 rfl rfl (dg_c 18 rfl rfl (dg_c 19 rfl rfl (dg_c 20 rfl rfl (dg_c 21 rfl rfl (dg_c 22 rfl rfl (dg_c 23 rfl rfl (dg_c 24 rfl rfl (dg_c 25 rfl rfl (dg_c 26 rfl rfl (dg_c 27 rfl rfl (dg_c 28 rfl rfl (dg_c 29 rfl rfl (dg_c 30 rfl rfl dg_0)))))))))))))))))))))))) (goodIn_app (dg_c 31 rfl rfl (dg_c 32 rfl rfl (dg_c 33 rfl rfl (dg_c 34 rfl rfl (dg_c 35 rfl rfl (dg_c 36 rfl rfl (dg_c 37 rfl rfl (dg_c 38 rfl rfl (dg_c 39 rfl rfl (dg_c 40 rfl rfl (dg_c 41 rfl rfl (dg_c 42 rfl rfl (dg_c 43 rfl rfl (dg_c 44 rfl rfl (dg_c 45 rfl rfl (dg_c 46 rfl rfl (dg_c 47 rfl rfl (dg_c 48 rfl rfl (dg_c 49 rfl rfl (dg_c 50 rfl rfl (dg_c 51 rfl rfl (dg_c 52 rfl rfl (dg_c 53 rfl rfl (dg_c 54 rfl rfl dg_0)))))))))))))))))))))))) (dg_c 55 rfl rfl (dg_c 56 rfl rfl (dg_c 57 rfl rfl (dg_c 58 rfl rfl (dg_c 59 rfl rfl (dg_c 60 rfl rfl (dg_c 61 rfl rfl (dg_c 62 rfl rfl (dg_c 63 rfl rfl (dg_c 64 rfl rfl (dg_c 65 rfl rfl dg_0))))))))))))) gl_X0_pullFreeInTruth_X50) gl_X0_pullFreeInTruth_X20))
set_option maxRecDepth 20000 in
theorem gX0_pullFreeInTruth_X5_next : GoodIn wsX0_pullFreeInTruth (wsV RX0 122 RX5 yX5_next wsX5_next) := goodIn_app (dg_c 3 rfl rfl (dg_c 4 rfl rfl (dg_c 5 rfl rfl (dg_c 6 rfl rfl dg_0)))) ggX0_pullFreeInTruth_X5_next
set_option maxRecDepth 20000 in
theorem gl_X0_pullFreeInTruth_X00 : GoodIn wsX0_pullFreeInTruth wsX00 := (dg_t (dg_l (dg_l (dg_r gw_wsX00))))
theorem ggX0_pullFreeInTruth_X0_pullAt : GoodIn wsX0_pullFreeInTruth wsX0_pullAt := (dg_c 70 rfl rfl (dg_c 71 rfl rfl (dg_c 72 rfl rfl (dg_c 14 rfl rfl (dg_c 15 rfl rfl (dg_c 16 rfl rfl gl_X0_pullFreeInTruth_X00))))))
set_option maxRecDepth 20000 in
theorem gX0_pullFreeInTruth_X0_pullAt : GoodIn wsX0_pullFreeInTruth (wsV RX0 77 RX0 yX0_pullAt wsX0_pullAt) := goodIn_app (dg_c 66 rfl rfl (dg_c 67 rfl rfl (dg_c 68 rfl rfl (dg_c 69 rfl rfl dg_0)))) ggX0_pullFreeInTruth_X0_pullAt
set_option maxRecDepth 20000 in
theorem ggX0_pullFreeInTruth_X0_pullInTruth : GoodIn wsX0_pullFreeInTruth wsX0_pullInTruth := (dg_c 76 rfl rfl (goodIn_app (goodIn_app (goodIn_app (dg_c 1 rfl rfl (dg_c 77 rfl rfl (dg_c 2 rfl rfl (dg_c 78 rfl rfl (dg_c 79 rfl rfl (dg_c 80 rfl rfl (dg_c 81 rfl rfl (dg_c 82 rfl rfl (dg_c 83 rfl rfl (dg_c 69 rfl rfl (dg_c 84 rfl rfl (dg_c 85 rfl rfl (dg_c 86 rfl rfl (dg_c 87 rfl rfl (dg_c 30 rfl rfl (dg_c 31 rfl rfl (dg_c 20 rfl rfl (dg_c 32 rfl rfl (dg_c 33 rfl rfl (dg_c 34 rfl rfl (dg_c 35 rfl rfl (dg_c 36 rfl rfl (dg_c 37 rfl rfl (dg_c 38 rfl rfl dg_0)))))))))))))))))))))))) (dg_c 39 rfl rfl (dg_c 40 rfl rfl (dg_c 41 rfl rfl (dg_c 42 rfl rfl (dg_c 43 rfl rfl (dg_c 44 rfl rfl (dg_c 45 rfl rfl (dg_c 88 rfl rfl (dg_c 47 rfl rfl (dg_c 48 rfl rfl (dg_c 49 rfl rfl (dg_c 50 rfl rfl (dg_c 51 rfl rfl (dg_c 52 rfl rfl (dg_c 53 rfl rfl (dg_c 89 rfl rfl (dg_c 58 rfl rfl (dg_c 59 rfl rfl (dg_c 60 rfl rfl dg_0)))))))))))))))))))) gl_X0_pullFreeInTruth_X00) gl_X0_pullFreeInTruth_X20))
set_option maxRecDepth 20000 in
theorem gX0_pullFreeInTruth_X0_pullInTruth : GoodIn wsX0_pullFreeInTruth (wsV RX0 128 RX0 yX0_pullInTruth wsX0_pullInTruth) := goodIn_app (dg_c 73 rfl rfl (dg_c 74 rfl rfl (dg_c 75 rfl rfl (dg_c 69 rfl rfl dg_0)))) ggX0_pullFreeInTruth_X0_pullInTruth
theorem dX0_pullFreeInTruth_0 : decode cX0_pullFreeInTruth 0 = .ok (.iconst 0, 1) := dq_3 dp_cX0_pullFreeInTruth rfl
theorem dX0_pullFreeInTruth_1 : decode cX0_pullFreeInTruth 1 = .ok (.istore_n 2, 1) := dq_61 dp_cX0_pullFreeInTruth rfl
theorem dX0_pullFreeInTruth_2 : decode cX0_pullFreeInTruth 2 = .ok (.iload_n 2, 1) := dq_28 dp_cX0_pullFreeInTruth rfl
theorem dX0_pullFreeInTruth_3 : decode cX0_pullFreeInTruth 3 = .ok (.bipush 12, 2) := dq_16 (v := 12) dp_cX0_pullFreeInTruth rfl rfl
theorem dX0_pullFreeInTruth_5 : decode cX0_pullFreeInTruth 5 = .ok (.if_icmp .ge 44, 3) := dq_162 (v := 44) dp_cX0_pullFreeInTruth rfl rfl
theorem dX0_pullFreeInTruth_8 : decode cX0_pullFreeInTruth 8 = .ok (.aload_n 0, 1) := dq_42 dp_cX0_pullFreeInTruth rfl
theorem dX0_pullFreeInTruth_9 : decode cX0_pullFreeInTruth 9 = .ok (.getfield 32, 3) := dq_180 dp_cX0_pullFreeInTruth rfl
theorem dX0_pullFreeInTruth_12 : decode cX0_pullFreeInTruth 12 = .ok (.ifCond .eq 37, 3) := dq_153 (v := 37) dp_cX0_pullFreeInTruth rfl rfl
theorem dX0_pullFreeInTruth_15 : decode cX0_pullFreeInTruth 15 = .ok (.aload_n 0, 1) := dq_42 dp_cX0_pullFreeInTruth rfl
theorem dX0_pullFreeInTruth_16 : decode cX0_pullFreeInTruth 16 = .ok (.aload_n 1, 1) := dq_43 dp_cX0_pullFreeInTruth rfl
theorem dX0_pullFreeInTruth_17 : decode cX0_pullFreeInTruth 17 = .ok (.iconst 2, 1) := dq_5 dp_cX0_pullFreeInTruth rfl
theorem dX0_pullFreeInTruth_18 : decode cX0_pullFreeInTruth 18 = .ok (.aload_n 0, 1) := dq_42 dp_cX0_pullFreeInTruth rfl
theorem dX0_pullFreeInTruth_19 : decode cX0_pullFreeInTruth 19 = .ok (.getfield 32, 3) := dq_180 dp_cX0_pullFreeInTruth rfl
theorem dX0_pullFreeInTruth_22 : decode cX0_pullFreeInTruth 22 = .ok (.aload_n 0, 1) := dq_42 dp_cX0_pullFreeInTruth rfl
theorem dX0_pullFreeInTruth_23 : decode cX0_pullFreeInTruth 23 = .ok (.getfield 38, 3) := dq_180 dp_cX0_pullFreeInTruth rfl
theorem dX0_pullFreeInTruth_26 : decode cX0_pullFreeInTruth 26 = .ok (.invokevirtual 122, 3) := dq_182 dp_cX0_pullFreeInTruth rfl
theorem dX0_pullFreeInTruth_29 : decode cX0_pullFreeInTruth 29 = .ok (.invokevirtual 77, 3) := dq_182 dp_cX0_pullFreeInTruth rfl
theorem dX0_pullFreeInTruth_32 : decode cX0_pullFreeInTruth 32 = .ok (.astore_n 3, 1) := dq_78 dp_cX0_pullFreeInTruth rfl
theorem dX0_pullFreeInTruth_33 : decode cX0_pullFreeInTruth 33 = .ok (.aload_n 3, 1) := dq_45 dp_cX0_pullFreeInTruth rfl
theorem dX0_pullFreeInTruth_34 : decode cX0_pullFreeInTruth 34 = .ok (.ifnonnull 4, 3) := dq_199 (v := 4) dp_cX0_pullFreeInTruth rfl rfl
theorem dX0_pullFreeInTruth_37 : decode cX0_pullFreeInTruth 37 = .ok (.return_, 1) := dq_177 dp_cX0_pullFreeInTruth rfl
theorem dX0_pullFreeInTruth_38 : decode cX0_pullFreeInTruth 38 = .ok (.aload_n 0, 1) := dq_42 dp_cX0_pullFreeInTruth rfl
theorem dX0_pullFreeInTruth_39 : decode cX0_pullFreeInTruth 39 = .ok (.aload_n 3, 1) := dq_45 dp_cX0_pullFreeInTruth rfl
theorem dX0_pullFreeInTruth_40 : decode cX0_pullFreeInTruth 40 = .ok (.invokevirtual 128, 3) := dq_182 dp_cX0_pullFreeInTruth rfl
theorem dX0_pullFreeInTruth_43 : decode cX0_pullFreeInTruth 43 = .ok (.iinc 2 1, 3) := dq_132 (v := 1) dp_cX0_pullFreeInTruth rfl (by decide) rfl
theorem dX0_pullFreeInTruth_46 : decode cX0_pullFreeInTruth 46 = .ok (.goto (-44), 3) := dq_167 (v := 65492) dp_cX0_pullFreeInTruth rfl rfl
theorem dX0_pullFreeInTruth_49 : decode cX0_pullFreeInTruth 49 = .ok (.return_, 1) := dq_177 dp_cX0_pullFreeInTruth rfl
end
section
theorem hi_X0_pullFreeInTruth_0 : ∀ w ∈ u_ws RX0 TX0 9, w ∈ wsX0_pullFreeInTruth := fun w h => (gl_X0_pullFreeInTruth_X00 w h).1
theorem hi_X0_dayInTruth_0 : ∀ w ∈ u_ws RX0 TX0 9, w ∈ wsX0_dayInTruth := fun w h => (gl_X0_dayInTruth_X00 w h).1
theorem hi_X0_dayInTruth_6 : ∀ w ∈ u_ws RX6 TX6 5, w ∈ wsX0_dayInTruth := fun w h => (gl_X0_dayInTruth_X60 w h).1
end
section
def wsX6_init : List Cond := (.code yX6_init cX6_init 1 none) :: (.methodLink RX6 3 objectInit) :: (.instanceMethod objectInit) :: (.code objectInit ⟨#[0xb1]⟩ 1 none) :: (.arrayClass .boolean) :: (.fieldLink RX6 9 "TheLiningsInIt$Zip" "lacking" "[Z") :: (.arrayClass .int) :: (.fieldLink RX6 15 "TheLiningsInIt$Zip" "slacks" "[I") :: (.fieldLink RX6 19 "TheLiningsInIt$Zip" "size" "I") :: (.fieldLink RX6 23 "TheLiningsInIt$Zip" "at" "I") :: (.fieldLink RX6 26 "TheLiningsInIt$Zip" "gap" "I") :: wsX60
def wsX0_init_r1 : List Cond := (Cond.methodLink RX0 3 objectInit) :: (Cond.instanceMethod objectInit) :: (Cond.code objectInit ⟨#[0xb1]⟩ 1 none) :: (Cond.classLink RX0 9 RX6) :: (Cond.instantiable RX6 5) :: (Cond.initialized RX6) :: (Cond.fieldLink RX0 12 "TheLiningsInIt$Jacket" "zip" "LTheLiningsInIt$Zip;") :: (Cond.classLink RX0 18 RX2) :: (Cond.fieldLink RX0 20 "TheLiningsInIt$Jacket" "pulls" "[LTheLiningsInIt$Pull;") :: (Cond.arrayClass .int) :: (Cond.fieldLink RX0 24 "TheLiningsInIt$Jacket" "costs" "[I") :: (Cond.fieldLink RX0 28 "TheLiningsInIt$Jacket" "pullCount" "I") :: (Cond.fieldLink RX0 32 "TheLiningsInIt$Jacket" "depth" "I") :: (Cond.fieldLink RX0 35 "TheLiningsInIt$Jacket" "torn" "I") :: (Cond.fieldLink RX0 38 "TheLiningsInIt$Jacket" "seconds" "I") :: (Cond.fieldLink RX0 41 "TheLiningsInIt$Jacket" "hurry" "I") :: (Cond.fieldLink RX0 44 "TheLiningsInIt$Jacket" "seedNow" "I") :: (Cond.instanceMethod yX6_init) :: (Cond.code yX6_init cX6_init 1 none) :: (Cond.methodLink RX6 3 objectInit) :: (Cond.arrayClass .boolean) :: (Cond.fieldLink RX6 9 "TheLiningsInIt$Zip" "lacking" "[Z") :: (Cond.fieldLink RX6 15 "TheLiningsInIt$Zip" "slacks" "[I") :: (Cond.fieldLink RX6 19 "TheLiningsInIt$Zip" "size" "I") :: []
def wsX0_init_r2 : List Cond := (Cond.fieldLink RX6 23 "TheLiningsInIt$Zip" "at" "I") :: (Cond.fieldLink RX6 26 "TheLiningsInIt$Zip" "gap" "I") :: []
def wsX0_init : List Cond := (.code yX0_init cX0_init 1 none) :: ((wsX0_init_r1 ++ wsX0_init_r2) ++ wsX60 ++ wsX00)
def wsX1_init : List Cond := (.code yX1_init cX1_init 1 none) :: (.methodLink RX1 3 objectInit) :: (.instanceMethod objectInit) :: (.code objectInit ⟨#[0xb1]⟩ 1 none) :: (.arrayClass .int) :: (.fieldLink RX1 11 "TheLiningsInIt$Moves" "bodies" "[I") :: (.fieldLink RX1 15 "TheLiningsInIt$Moves" "ran" "I") :: (.fieldLink RX1 19 "TheLiningsInIt$Moves" "kind" "I") :: (.fieldLink RX1 22 "TheLiningsInIt$Moves" "m" "I") :: (.fieldLink RX1 25 "TheLiningsInIt$Moves" "k" "I") :: wsX10
def wsX3_init : List Cond := (.code yX3_init cX3_init 1 none) :: (.methodLink RX3 3 objectInit) :: (.instanceMethod objectInit) :: (.code objectInit ⟨#[0xb1]⟩ 1 none) :: (.arrayClass .int) :: (.fieldLink RX3 11 "TheLiningsInIt$Reader" "items" "[I") :: (.fieldLink RX3 15 "TheLiningsInIt$Reader" "letters" "[I") :: (.fieldLink RX3 18 "TheLiningsInIt$Reader" "size" "I") :: (.fieldLink RX3 22 "TheLiningsInIt$Reader" "count" "I") :: (.fieldLink RX3 25 "TheLiningsInIt$Reader" "place" "I") :: (.fieldLink RX3 28 "TheLiningsInIt$Reader" "fault" "I") :: (.fieldLink RX3 31 "TheLiningsInIt$Reader" "teeth" "I") :: (.fieldLink RX3 34 "TheLiningsInIt$Reader" "pulls" "I") :: wsX30
def wsX4_init : List Cond := (.code yX4_init cX4_init 1 none) :: (.methodLink RX4 3 objectInit) :: (.instanceMethod objectInit) :: (.code objectInit ⟨#[0xb1]⟩ 1 none) :: (.arrayClass .long) :: (.fieldLink RX4 9 "TheLiningsInIt$Shelf" "elements" "[J") :: (.fieldLink RX4 15 "TheLiningsInIt$Shelf" "held" "I") :: (.fieldLink RX4 19 "TheLiningsInIt$Shelf" "size" "I") :: wsX40
def wsX5_init : List Cond := (.code yX5_init cX5_init 1 none) :: (.methodLink RX5 3 objectInit) :: (.instanceMethod objectInit) :: (.code objectInit ⟨#[0xb1]⟩ 1 none) :: (.arrayClass .int) :: (.fieldLink RX5 9 "TheLiningsInIt$Ways" "knownMost" "[I") :: (.fieldLink RX5 15 "TheLiningsInIt$Ways" "knownLeast" "[I") :: (.fieldLink RX5 18 "TheLiningsInIt$Ways" "costs" "[I") :: (.classLink RX5 21 RX2) :: (.fieldLink RX5 23 "TheLiningsInIt$Ways" "pulls" "[LTheLiningsInIt$Pull;") :: (.fieldLink RX5 27 "TheLiningsInIt$Ways" "count" "I") :: (.fieldLink RX5 31 "TheLiningsInIt$Ways" "hurry" "I") :: (.fieldLink RX5 34 "TheLiningsInIt$Ways" "longest" "I") :: wsX50
def wsX7_init_r1 : List Cond := (Cond.methodLink RX7 1 objectInit) :: (Cond.instanceMethod objectInit) :: (Cond.code objectInit ⟨#[0xb1]⟩ 1 none) :: (Cond.classLink RX7 9 RX4) :: (Cond.fieldLink RX7 11 "TheLiningsInIt" "shelves" "[LTheLiningsInIt$Shelf;") :: (Cond.classLink RX7 15 RX0) :: (Cond.instantiable RX0 9) :: (Cond.initialized RX0) :: (Cond.fieldLink RX7 18 "TheLiningsInIt" "now" "LTheLiningsInIt$Jacket;") :: (Cond.fieldLink RX7 22 "TheLiningsInIt" "kept" "LTheLiningsInIt$Jacket;") :: (Cond.classLink RX7 25 RX5) :: (Cond.instantiable RX5 7) :: (Cond.initialized RX5) :: (Cond.fieldLink RX7 28 "TheLiningsInIt" "ways" "LTheLiningsInIt$Ways;") :: (Cond.classLink RX7 32 RX3) :: (Cond.instantiable RX3 8) :: (Cond.initialized RX3) :: (Cond.fieldLink RX7 35 "TheLiningsInIt" "reader" "LTheLiningsInIt$Reader;") :: (Cond.classLink RX7 39 RX1) :: (Cond.instantiable RX1 5) :: (Cond.initialized RX1) :: (Cond.fieldLink RX7 42 "TheLiningsInIt" "moves" "LTheLiningsInIt$Moves;") :: (Cond.arrayClass .int) :: (Cond.fieldLink RX7 46 "TheLiningsInIt" "refusals" "[I") :: []
def wsX7_init_r2 : List Cond := (Cond.fieldLink RX7 50 "TheLiningsInIt" "imaged" "Z") :: (Cond.fieldLink RX7 54 "TheLiningsInIt" "latestFault" "I") :: (Cond.instantiable RX4 3) :: (Cond.initialized RX4) :: (Cond.instanceMethod yX0_init) :: (Cond.code yX0_init cX0_init 1 none) :: (Cond.methodLink RX0 3 objectInit) :: (Cond.classLink RX0 9 RX6) :: (Cond.instantiable RX6 5) :: (Cond.initialized RX6) :: (Cond.fieldLink RX0 12 "TheLiningsInIt$Jacket" "zip" "LTheLiningsInIt$Zip;") :: (Cond.classLink RX0 18 RX2) :: (Cond.fieldLink RX0 20 "TheLiningsInIt$Jacket" "pulls" "[LTheLiningsInIt$Pull;") :: (Cond.fieldLink RX0 24 "TheLiningsInIt$Jacket" "costs" "[I") :: (Cond.fieldLink RX0 28 "TheLiningsInIt$Jacket" "pullCount" "I") :: (Cond.fieldLink RX0 32 "TheLiningsInIt$Jacket" "depth" "I") :: (Cond.fieldLink RX0 35 "TheLiningsInIt$Jacket" "torn" "I") :: (Cond.fieldLink RX0 38 "TheLiningsInIt$Jacket" "seconds" "I") :: (Cond.fieldLink RX0 41 "TheLiningsInIt$Jacket" "hurry" "I") :: (Cond.fieldLink RX0 44 "TheLiningsInIt$Jacket" "seedNow" "I") :: (Cond.instanceMethod yX6_init) :: (Cond.code yX6_init cX6_init 1 none) :: (Cond.methodLink RX6 3 objectInit) :: (Cond.arrayClass .boolean) :: []
def wsX7_init_r3 : List Cond := (Cond.fieldLink RX6 9 "TheLiningsInIt$Zip" "lacking" "[Z") :: (Cond.fieldLink RX6 15 "TheLiningsInIt$Zip" "slacks" "[I") :: (Cond.fieldLink RX6 19 "TheLiningsInIt$Zip" "size" "I") :: (Cond.fieldLink RX6 23 "TheLiningsInIt$Zip" "at" "I") :: (Cond.fieldLink RX6 26 "TheLiningsInIt$Zip" "gap" "I") :: (Cond.instanceMethod yX5_init) :: (Cond.code yX5_init cX5_init 1 none) :: (Cond.methodLink RX5 3 objectInit) :: (Cond.fieldLink RX5 9 "TheLiningsInIt$Ways" "knownMost" "[I") :: (Cond.fieldLink RX5 15 "TheLiningsInIt$Ways" "knownLeast" "[I") :: (Cond.fieldLink RX5 18 "TheLiningsInIt$Ways" "costs" "[I") :: (Cond.classLink RX5 21 RX2) :: (Cond.fieldLink RX5 23 "TheLiningsInIt$Ways" "pulls" "[LTheLiningsInIt$Pull;") :: (Cond.fieldLink RX5 27 "TheLiningsInIt$Ways" "count" "I") :: (Cond.fieldLink RX5 31 "TheLiningsInIt$Ways" "hurry" "I") :: (Cond.fieldLink RX5 34 "TheLiningsInIt$Ways" "longest" "I") :: (Cond.instanceMethod yX3_init) :: (Cond.code yX3_init cX3_init 1 none) :: (Cond.methodLink RX3 3 objectInit) :: (Cond.fieldLink RX3 11 "TheLiningsInIt$Reader" "items" "[I") :: (Cond.fieldLink RX3 15 "TheLiningsInIt$Reader" "letters" "[I") :: (Cond.fieldLink RX3 18 "TheLiningsInIt$Reader" "size" "I") :: (Cond.fieldLink RX3 22 "TheLiningsInIt$Reader" "count" "I") :: (Cond.fieldLink RX3 25 "TheLiningsInIt$Reader" "place" "I") :: []
def wsX7_init_r4 : List Cond := (Cond.fieldLink RX3 28 "TheLiningsInIt$Reader" "fault" "I") :: (Cond.fieldLink RX3 31 "TheLiningsInIt$Reader" "teeth" "I") :: (Cond.fieldLink RX3 34 "TheLiningsInIt$Reader" "pulls" "I") :: (Cond.instanceMethod yX1_init) :: (Cond.code yX1_init cX1_init 1 none) :: (Cond.methodLink RX1 3 objectInit) :: (Cond.fieldLink RX1 11 "TheLiningsInIt$Moves" "bodies" "[I") :: (Cond.fieldLink RX1 15 "TheLiningsInIt$Moves" "ran" "I") :: (Cond.fieldLink RX1 19 "TheLiningsInIt$Moves" "kind" "I") :: (Cond.fieldLink RX1 22 "TheLiningsInIt$Moves" "m" "I") :: (Cond.fieldLink RX1 25 "TheLiningsInIt$Moves" "k" "I") :: (Cond.instanceMethod yX4_init) :: (Cond.code yX4_init cX4_init 1 none) :: (Cond.methodLink RX4 3 objectInit) :: (Cond.arrayClass .long) :: (Cond.fieldLink RX4 9 "TheLiningsInIt$Shelf" "elements" "[J") :: (Cond.fieldLink RX4 15 "TheLiningsInIt$Shelf" "held" "I") :: (Cond.fieldLink RX4 19 "TheLiningsInIt$Shelf" "size" "I") :: []
def wsX7_init : List Cond := (.code yX7_init cX7_init 2 none) :: ((wsX7_init_r1 ++ (wsX7_init_r2 ++ (wsX7_init_r3 ++ wsX7_init_r4))) ++ wsX70 ++ wsX00 ++ wsX50 ++ wsX30 ++ wsX10 ++ wsX40 ++ wsX60)
def wsX8_init_r1 : List Cond := (Cond.methodLink RX8 1 objectInit) :: (Cond.instanceMethod objectInit) :: (Cond.code objectInit ⟨#[0xb1]⟩ 1 none) :: (Cond.fieldLink RX8 7 "TheLiningsInItModel" "teeth" "I") :: (Cond.fieldLink RX8 13 "TheLiningsInItModel" "seconds" "I") :: (Cond.fieldLink RX8 16 "TheLiningsInItModel" "gap" "I") :: (Cond.fieldLink RX8 19 "TheLiningsInItModel" "seed" "I") :: (Cond.fieldLink RX8 22 "TheLiningsInItModel" "fault" "I") :: (Cond.arrayClass .int) :: (Cond.fieldLink RX8 25 "TheLiningsInItModel" "refused" "[I") :: (Cond.fieldLink RX8 29 "TheLiningsInItModel" "kind" "[I") :: (Cond.fieldLink RX8 32 "TheLiningsInItModel" "part" "[I") :: (Cond.fieldLink RX8 35 "TheLiningsInItModel" "takes" "[I") :: (Cond.fieldLink RX8 38 "TheLiningsInItModel" "lacks" "[I") :: (Cond.fieldLink RX8 41 "TheLiningsInItModel" "slack" "[I") :: (Cond.fieldLink RX8 44 "TheLiningsInItModel" "cost" "[I") :: (Cond.fieldLink RX8 47 "TheLiningsInItModel" "held" "[I") :: (Cond.fieldLink RX8 50 "TheLiningsInItModel" "sort" "[I") :: (Cond.fieldLink RX8 53 "TheLiningsInItModel" "size" "[I") :: (Cond.fieldLink RX8 56 "TheLiningsInItModel" "shown" "[I") :: (Cond.arrayClass .long) :: (Cond.fieldLink RX8 59 "TheLiningsInItModel" "cells" "[J") :: (Cond.fieldLink RX8 63 "TheLiningsInItModel" "carried" "[J") :: (Cond.fieldLink RX8 66 "TheLiningsInItModel" "words" "[I") :: []
def wsX8_init_r2 : List Cond := (Cond.fieldLink RX8 69 "TheLiningsInItModel" "numbers" "[I") :: (Cond.fieldLink RX8 72 "TheLiningsInItModel" "tell" "[I") :: (Cond.fieldLink RX8 75 "TheLiningsInItModel" "was" "[I") :: (Cond.fieldLink RX8 78 "TheLiningsInItModel" "kept" "[I") :: (Cond.fieldLink RX8 81 "TheLiningsInItModel" "may" "[I") :: (Cond.fieldLink RX8 84 "TheLiningsInItModel" "then" "[I") :: (Cond.fieldLink RX8 87 "TheLiningsInItModel" "trace" "[I") :: []
def wsX8_init : List Cond := (.code yX8_init cX8_init 1 none) :: ((wsX8_init_r1 ++ wsX8_init_r2) ++ wsX80)
set_option maxRecDepth 20000 in
theorem gl_X0_init_X60 : GoodIn wsX0_init wsX60 := (dg_t (dg_l (dg_r gw_wsX60)))
theorem ggX0_init_X6_init : GoodIn wsX0_init wsX6_init := (dg_c 19 rfl rfl (dg_c 20 rfl rfl (dg_c 2 rfl rfl (dg_c 3 rfl rfl (dg_c 21 rfl rfl (dg_c 22 rfl rfl (dg_c 10 rfl rfl (dg_c 23 rfl rfl (dg_c 24 rfl rfl (dg_c 25 rfl rfl (dg_c 26 rfl rfl gl_X0_init_X60)))))))))))
set_option maxRecDepth 20000 in
theorem gX0_init_X6_init_n11 : GoodIn wsX0_init (wsX6_init) := ggX0_init_X6_init
theorem dX0_init_0 : decode cX0_init 0 = .ok (.aload_n 0, 1) := dq_42 dp_cX0_init rfl
theorem dX0_init_1 : decode cX0_init 1 = .ok (.invokespecial 3, 3) := dq_183 dp_cX0_init rfl
theorem dX0_init_4 : decode cX0_init 4 = .ok (.aload_n 0, 1) := dq_42 dp_cX0_init rfl
theorem dX0_init_5 : decode cX0_init 5 = .ok (.new 9, 3) := dq_187 dp_cX0_init rfl
theorem dX0_init_8 : decode cX0_init 8 = .ok (.dup, 1) := dq_89 dp_cX0_init rfl
theorem dX0_init_9 : decode cX0_init 9 = .ok (.invokespecial 11, 3) := dq_183 dp_cX0_init rfl
theorem dX0_init_12 : decode cX0_init 12 = .ok (.putfield 12, 3) := dq_181 dp_cX0_init rfl
theorem dX0_init_15 : decode cX0_init 15 = .ok (.aload_n 0, 1) := dq_42 dp_cX0_init rfl
theorem dX0_init_16 : decode cX0_init 16 = .ok (.bipush 8, 2) := dq_16 (v := 8) dp_cX0_init rfl rfl
theorem dX0_init_18 : decode cX0_init 18 = .ok (.anewarray 18, 3) := dq_189 dp_cX0_init rfl
theorem dX0_init_21 : decode cX0_init 21 = .ok (.putfield 20, 3) := dq_181 dp_cX0_init rfl
theorem dX0_init_24 : decode cX0_init 24 = .ok (.aload_n 0, 1) := dq_42 dp_cX0_init rfl
theorem dX0_init_25 : decode cX0_init 25 = .ok (.iconst 3, 1) := dq_6 dp_cX0_init rfl
theorem dX0_init_26 : decode cX0_init 26 = .ok (.newarray .int, 2) := dq_188_10 dp_cX0_init rfl
theorem dX0_init_28 : decode cX0_init 28 = .ok (.dup, 1) := dq_89 dp_cX0_init rfl
theorem dX0_init_29 : decode cX0_init 29 = .ok (.iconst 0, 1) := dq_3 dp_cX0_init rfl
theorem dX0_init_30 : decode cX0_init 30 = .ok (.iconst 5, 1) := dq_8 dp_cX0_init rfl
theorem dX0_init_31 : decode cX0_init 31 = .ok (.iastore, 1) := dq_79 dp_cX0_init rfl
theorem dX0_init_32 : decode cX0_init 32 = .ok (.dup, 1) := dq_89 dp_cX0_init rfl
theorem dX0_init_33 : decode cX0_init 33 = .ok (.iconst 1, 1) := dq_4 dp_cX0_init rfl
theorem dX0_init_34 : decode cX0_init 34 = .ok (.bipush 10, 2) := dq_16 (v := 10) dp_cX0_init rfl rfl
theorem dX0_init_36 : decode cX0_init 36 = .ok (.iastore, 1) := dq_79 dp_cX0_init rfl
theorem dX0_init_37 : decode cX0_init 37 = .ok (.dup, 1) := dq_89 dp_cX0_init rfl
theorem dX0_init_38 : decode cX0_init 38 = .ok (.iconst 2, 1) := dq_5 dp_cX0_init rfl
theorem dX0_init_39 : decode cX0_init 39 = .ok (.bipush 50, 2) := dq_16 (v := 50) dp_cX0_init rfl rfl
theorem dX0_init_41 : decode cX0_init 41 = .ok (.iastore, 1) := dq_79 dp_cX0_init rfl
theorem dX0_init_42 : decode cX0_init 42 = .ok (.putfield 24, 3) := dq_181 dp_cX0_init rfl
theorem dX0_init_45 : decode cX0_init 45 = .ok (.aload_n 0, 1) := dq_42 dp_cX0_init rfl
theorem dX0_init_46 : decode cX0_init 46 = .ok (.iconst 0, 1) := dq_3 dp_cX0_init rfl
theorem dX0_init_47 : decode cX0_init 47 = .ok (.putfield 28, 3) := dq_181 dp_cX0_init rfl
theorem dX0_init_50 : decode cX0_init 50 = .ok (.aload_n 0, 1) := dq_42 dp_cX0_init rfl
theorem dX0_init_51 : decode cX0_init 51 = .ok (.iconst 0, 1) := dq_3 dp_cX0_init rfl
theorem dX0_init_52 : decode cX0_init 52 = .ok (.putfield 32, 3) := dq_181 dp_cX0_init rfl
theorem dX0_init_55 : decode cX0_init 55 = .ok (.aload_n 0, 1) := dq_42 dp_cX0_init rfl
theorem dX0_init_56 : decode cX0_init 56 = .ok (.iconst 0, 1) := dq_3 dp_cX0_init rfl
theorem dX0_init_57 : decode cX0_init 57 = .ok (.putfield 35, 3) := dq_181 dp_cX0_init rfl
theorem dX0_init_60 : decode cX0_init 60 = .ok (.aload_n 0, 1) := dq_42 dp_cX0_init rfl
theorem dX0_init_61 : decode cX0_init 61 = .ok (.bipush 60, 2) := dq_16 (v := 60) dp_cX0_init rfl rfl
theorem dX0_init_63 : decode cX0_init 63 = .ok (.putfield 38, 3) := dq_181 dp_cX0_init rfl
theorem dX0_init_66 : decode cX0_init 66 = .ok (.aload_n 0, 1) := dq_42 dp_cX0_init rfl
theorem dX0_init_67 : decode cX0_init 67 = .ok (.iconst 0, 1) := dq_3 dp_cX0_init rfl
theorem dX0_init_68 : decode cX0_init 68 = .ok (.putfield 41, 3) := dq_181 dp_cX0_init rfl
theorem dX0_init_71 : decode cX0_init 71 = .ok (.aload_n 0, 1) := dq_42 dp_cX0_init rfl
theorem dX0_init_72 : decode cX0_init 72 = .ok (.iconst 1, 1) := dq_4 dp_cX0_init rfl
theorem dX0_init_73 : decode cX0_init 73 = .ok (.putfield 44, 3) := dq_181 dp_cX0_init rfl
theorem dX0_init_76 : decode cX0_init 76 = .ok (.return_, 1) := dq_177 dp_cX0_init rfl
theorem dX1_init_0 : decode cX1_init 0 = .ok (.aload_n 0, 1) := dq_42 dp_cX1_init rfl
theorem dX1_init_1 : decode cX1_init 1 = .ok (.invokespecial 3, 3) := dq_183 dp_cX1_init rfl
theorem dX1_init_4 : decode cX1_init 4 = .ok (.aload_n 0, 1) := dq_42 dp_cX1_init rfl
theorem dX1_init_5 : decode cX1_init 5 = .ok (.bipush 20, 2) := dq_16 (v := 20) dp_cX1_init rfl rfl
theorem dX1_init_7 : decode cX1_init 7 = .ok (.newarray .int, 2) := dq_188_10 dp_cX1_init rfl
theorem dX1_init_9 : decode cX1_init 9 = .ok (.putfield 11, 3) := dq_181 dp_cX1_init rfl
theorem dX1_init_12 : decode cX1_init 12 = .ok (.aload_n 0, 1) := dq_42 dp_cX1_init rfl
theorem dX1_init_13 : decode cX1_init 13 = .ok (.iconst 0, 1) := dq_3 dp_cX1_init rfl
theorem dX1_init_14 : decode cX1_init 14 = .ok (.putfield 15, 3) := dq_181 dp_cX1_init rfl
theorem dX1_init_17 : decode cX1_init 17 = .ok (.aload_n 0, 1) := dq_42 dp_cX1_init rfl
theorem dX1_init_18 : decode cX1_init 18 = .ok (.iconst 0, 1) := dq_3 dp_cX1_init rfl
theorem dX1_init_19 : decode cX1_init 19 = .ok (.putfield 19, 3) := dq_181 dp_cX1_init rfl
theorem dX1_init_22 : decode cX1_init 22 = .ok (.aload_n 0, 1) := dq_42 dp_cX1_init rfl
theorem dX1_init_23 : decode cX1_init 23 = .ok (.iconst 0, 1) := dq_3 dp_cX1_init rfl
theorem dX1_init_24 : decode cX1_init 24 = .ok (.putfield 22, 3) := dq_181 dp_cX1_init rfl
theorem dX1_init_27 : decode cX1_init 27 = .ok (.aload_n 0, 1) := dq_42 dp_cX1_init rfl
theorem dX1_init_28 : decode cX1_init 28 = .ok (.iconst 0, 1) := dq_3 dp_cX1_init rfl
theorem dX1_init_29 : decode cX1_init 29 = .ok (.putfield 25, 3) := dq_181 dp_cX1_init rfl
theorem dX1_init_32 : decode cX1_init 32 = .ok (.return_, 1) := dq_177 dp_cX1_init rfl
theorem dX3_init_0 : decode cX3_init 0 = .ok (.aload_n 0, 1) := dq_42 dp_cX3_init rfl
theorem dX3_init_1 : decode cX3_init 1 = .ok (.invokespecial 3, 3) := dq_183 dp_cX3_init rfl
theorem dX3_init_4 : decode cX3_init 4 = .ok (.aload_n 0, 1) := dq_42 dp_cX3_init rfl
theorem dX3_init_5 : decode cX3_init 5 = .ok (.sipush 132, 3) := dq_17 (v := 132) dp_cX3_init rfl rfl
theorem dX3_init_8 : decode cX3_init 8 = .ok (.newarray .int, 2) := dq_188_10 dp_cX3_init rfl
theorem dX3_init_10 : decode cX3_init 10 = .ok (.putfield 11, 3) := dq_181 dp_cX3_init rfl
theorem dX3_init_13 : decode cX3_init 13 = .ok (.aload_n 0, 1) := dq_42 dp_cX3_init rfl
theorem dX3_init_14 : decode cX3_init 14 = .ok (.sipush 160, 3) := dq_17 (v := 160) dp_cX3_init rfl rfl
theorem dX3_init_17 : decode cX3_init 17 = .ok (.newarray .int, 2) := dq_188_10 dp_cX3_init rfl
theorem dX3_init_19 : decode cX3_init 19 = .ok (.putfield 15, 3) := dq_181 dp_cX3_init rfl
theorem dX3_init_22 : decode cX3_init 22 = .ok (.aload_n 0, 1) := dq_42 dp_cX3_init rfl
theorem dX3_init_23 : decode cX3_init 23 = .ok (.iconst 0, 1) := dq_3 dp_cX3_init rfl
theorem dX3_init_24 : decode cX3_init 24 = .ok (.putfield 18, 3) := dq_181 dp_cX3_init rfl
theorem dX3_init_27 : decode cX3_init 27 = .ok (.aload_n 0, 1) := dq_42 dp_cX3_init rfl
theorem dX3_init_28 : decode cX3_init 28 = .ok (.iconst 0, 1) := dq_3 dp_cX3_init rfl
theorem dX3_init_29 : decode cX3_init 29 = .ok (.putfield 22, 3) := dq_181 dp_cX3_init rfl
theorem dX3_init_32 : decode cX3_init 32 = .ok (.aload_n 0, 1) := dq_42 dp_cX3_init rfl
theorem dX3_init_33 : decode cX3_init 33 = .ok (.iconst 0, 1) := dq_3 dp_cX3_init rfl
theorem dX3_init_34 : decode cX3_init 34 = .ok (.putfield 25, 3) := dq_181 dp_cX3_init rfl
theorem dX3_init_37 : decode cX3_init 37 = .ok (.aload_n 0, 1) := dq_42 dp_cX3_init rfl
theorem dX3_init_38 : decode cX3_init 38 = .ok (.iconst (-1), 1) := dq_2 dp_cX3_init rfl
theorem dX3_init_39 : decode cX3_init 39 = .ok (.putfield 28, 3) := dq_181 dp_cX3_init rfl
theorem dX3_init_42 : decode cX3_init 42 = .ok (.aload_n 0, 1) := dq_42 dp_cX3_init rfl
theorem dX3_init_43 : decode cX3_init 43 = .ok (.iconst 0, 1) := dq_3 dp_cX3_init rfl
theorem dX3_init_44 : decode cX3_init 44 = .ok (.putfield 31, 3) := dq_181 dp_cX3_init rfl
theorem dX3_init_47 : decode cX3_init 47 = .ok (.aload_n 0, 1) := dq_42 dp_cX3_init rfl
theorem dX3_init_48 : decode cX3_init 48 = .ok (.iconst 0, 1) := dq_3 dp_cX3_init rfl
theorem dX3_init_49 : decode cX3_init 49 = .ok (.putfield 34, 3) := dq_181 dp_cX3_init rfl
theorem dX3_init_52 : decode cX3_init 52 = .ok (.return_, 1) := dq_177 dp_cX3_init rfl
theorem dX4_init_0 : decode cX4_init 0 = .ok (.aload_n 0, 1) := dq_42 dp_cX4_init rfl
theorem dX4_init_1 : decode cX4_init 1 = .ok (.invokespecial 3, 3) := dq_183 dp_cX4_init rfl
theorem dX4_init_4 : decode cX4_init 4 = .ok (.aload_n 0, 1) := dq_42 dp_cX4_init rfl
theorem dX4_init_5 : decode cX4_init 5 = .ok (.sipush 160, 3) := dq_17 (v := 160) dp_cX4_init rfl rfl
theorem dX4_init_8 : decode cX4_init 8 = .ok (.newarray .long, 2) := dq_188_11 dp_cX4_init rfl
theorem dX4_init_10 : decode cX4_init 10 = .ok (.putfield 9, 3) := dq_181 dp_cX4_init rfl
theorem dX4_init_13 : decode cX4_init 13 = .ok (.aload_n 0, 1) := dq_42 dp_cX4_init rfl
theorem dX4_init_14 : decode cX4_init 14 = .ok (.iconst (-1), 1) := dq_2 dp_cX4_init rfl
theorem dX4_init_15 : decode cX4_init 15 = .ok (.putfield 15, 3) := dq_181 dp_cX4_init rfl
theorem dX4_init_18 : decode cX4_init 18 = .ok (.aload_n 0, 1) := dq_42 dp_cX4_init rfl
theorem dX4_init_19 : decode cX4_init 19 = .ok (.iconst 0, 1) := dq_3 dp_cX4_init rfl
theorem dX4_init_20 : decode cX4_init 20 = .ok (.putfield 19, 3) := dq_181 dp_cX4_init rfl
theorem dX4_init_23 : decode cX4_init 23 = .ok (.return_, 1) := dq_177 dp_cX4_init rfl
theorem dX5_init_0 : decode cX5_init 0 = .ok (.aload_n 0, 1) := dq_42 dp_cX5_init rfl
theorem dX5_init_1 : decode cX5_init 1 = .ok (.invokespecial 3, 3) := dq_183 dp_cX5_init rfl
theorem dX5_init_4 : decode cX5_init 4 = .ok (.aload_n 0, 1) := dq_42 dp_cX5_init rfl
theorem dX5_init_5 : decode cX5_init 5 = .ok (.bipush 125, 2) := dq_16 (v := 125) dp_cX5_init rfl rfl
theorem dX5_init_7 : decode cX5_init 7 = .ok (.newarray .int, 2) := dq_188_10 dp_cX5_init rfl
theorem dX5_init_9 : decode cX5_init 9 = .ok (.putfield 9, 3) := dq_181 dp_cX5_init rfl
theorem dX5_init_12 : decode cX5_init 12 = .ok (.aload_n 0, 1) := dq_42 dp_cX5_init rfl
theorem dX5_init_13 : decode cX5_init 13 = .ok (.bipush 125, 2) := dq_16 (v := 125) dp_cX5_init rfl rfl
theorem dX5_init_15 : decode cX5_init 15 = .ok (.newarray .int, 2) := dq_188_10 dp_cX5_init rfl
theorem dX5_init_17 : decode cX5_init 17 = .ok (.putfield 15, 3) := dq_181 dp_cX5_init rfl
theorem dX5_init_20 : decode cX5_init 20 = .ok (.aload_n 0, 1) := dq_42 dp_cX5_init rfl
theorem dX5_init_21 : decode cX5_init 21 = .ok (.iconst 3, 1) := dq_6 dp_cX5_init rfl
theorem dX5_init_22 : decode cX5_init 22 = .ok (.newarray .int, 2) := dq_188_10 dp_cX5_init rfl
theorem dX5_init_24 : decode cX5_init 24 = .ok (.putfield 18, 3) := dq_181 dp_cX5_init rfl
theorem dX5_init_27 : decode cX5_init 27 = .ok (.aload_n 0, 1) := dq_42 dp_cX5_init rfl
theorem dX5_init_28 : decode cX5_init 28 = .ok (.bipush 8, 2) := dq_16 (v := 8) dp_cX5_init rfl rfl
theorem dX5_init_30 : decode cX5_init 30 = .ok (.anewarray 21, 3) := dq_189 dp_cX5_init rfl
theorem dX5_init_33 : decode cX5_init 33 = .ok (.putfield 23, 3) := dq_181 dp_cX5_init rfl
theorem dX5_init_36 : decode cX5_init 36 = .ok (.aload_n 0, 1) := dq_42 dp_cX5_init rfl
theorem dX5_init_37 : decode cX5_init 37 = .ok (.iconst 0, 1) := dq_3 dp_cX5_init rfl
theorem dX5_init_38 : decode cX5_init 38 = .ok (.putfield 27, 3) := dq_181 dp_cX5_init rfl
theorem dX5_init_41 : decode cX5_init 41 = .ok (.aload_n 0, 1) := dq_42 dp_cX5_init rfl
theorem dX5_init_42 : decode cX5_init 42 = .ok (.iconst 0, 1) := dq_3 dp_cX5_init rfl
theorem dX5_init_43 : decode cX5_init 43 = .ok (.putfield 31, 3) := dq_181 dp_cX5_init rfl
theorem dX5_init_46 : decode cX5_init 46 = .ok (.aload_n 0, 1) := dq_42 dp_cX5_init rfl
theorem dX5_init_47 : decode cX5_init 47 = .ok (.iconst 0, 1) := dq_3 dp_cX5_init rfl
theorem dX5_init_48 : decode cX5_init 48 = .ok (.putfield 34, 3) := dq_181 dp_cX5_init rfl
theorem dX5_init_51 : decode cX5_init 51 = .ok (.return_, 1) := dq_177 dp_cX5_init rfl
theorem dX6_init_0 : decode cX6_init 0 = .ok (.aload_n 0, 1) := dq_42 dp_cX6_init rfl
theorem dX6_init_1 : decode cX6_init 1 = .ok (.invokespecial 3, 3) := dq_183 dp_cX6_init rfl
theorem dX6_init_4 : decode cX6_init 4 = .ok (.aload_n 0, 1) := dq_42 dp_cX6_init rfl
theorem dX6_init_5 : decode cX6_init 5 = .ok (.bipush 40, 2) := dq_16 (v := 40) dp_cX6_init rfl rfl
theorem dX6_init_7 : decode cX6_init 7 = .ok (.newarray .boolean, 2) := dq_188_4 dp_cX6_init rfl
theorem dX6_init_9 : decode cX6_init 9 = .ok (.putfield 9, 3) := dq_181 dp_cX6_init rfl
theorem dX6_init_12 : decode cX6_init 12 = .ok (.aload_n 0, 1) := dq_42 dp_cX6_init rfl
theorem dX6_init_13 : decode cX6_init 13 = .ok (.bipush 40, 2) := dq_16 (v := 40) dp_cX6_init rfl rfl
theorem dX6_init_15 : decode cX6_init 15 = .ok (.newarray .int, 2) := dq_188_10 dp_cX6_init rfl
theorem dX6_init_17 : decode cX6_init 17 = .ok (.putfield 15, 3) := dq_181 dp_cX6_init rfl
theorem dX6_init_20 : decode cX6_init 20 = .ok (.aload_n 0, 1) := dq_42 dp_cX6_init rfl
theorem dX6_init_21 : decode cX6_init 21 = .ok (.bipush 20, 2) := dq_16 (v := 20) dp_cX6_init rfl rfl
theorem dX6_init_23 : decode cX6_init 23 = .ok (.putfield 19, 3) := dq_181 dp_cX6_init rfl
theorem dX6_init_26 : decode cX6_init 26 = .ok (.aload_n 0, 1) := dq_42 dp_cX6_init rfl
theorem dX6_init_27 : decode cX6_init 27 = .ok (.iconst 0, 1) := dq_3 dp_cX6_init rfl
theorem dX6_init_28 : decode cX6_init 28 = .ok (.putfield 23, 3) := dq_181 dp_cX6_init rfl
theorem dX6_init_31 : decode cX6_init 31 = .ok (.aload_n 0, 1) := dq_42 dp_cX6_init rfl
theorem dX6_init_32 : decode cX6_init 32 = .ok (.iconst 3, 1) := dq_6 dp_cX6_init rfl
theorem dX6_init_33 : decode cX6_init 33 = .ok (.putfield 26, 3) := dq_181 dp_cX6_init rfl
theorem dX6_init_36 : decode cX6_init 36 = .ok (.return_, 1) := dq_177 dp_cX6_init rfl
set_option maxRecDepth 20000 in
theorem gl_X7_init_X60 : GoodIn wsX7_init wsX60 := (dg_t (dg_r gw_wsX60))
theorem gl_X7_init_X00 : GoodIn wsX7_init wsX00 := (dg_t (dg_l (dg_l (dg_l (dg_l (dg_l (dg_r gw_wsX00)))))))
theorem ggX7_init_X0_init : GoodIn wsX7_init wsX0_init := (dg_c 30 rfl rfl (goodIn_app (goodIn_app (goodIn_app (dg_c 31 rfl rfl (dg_c 2 rfl rfl (dg_c 3 rfl rfl (dg_c 32 rfl rfl (dg_c 33 rfl rfl (dg_c 34 rfl rfl (dg_c 35 rfl rfl (dg_c 36 rfl rfl (dg_c 37 rfl rfl (dg_c 23 rfl rfl (dg_c 38 rfl rfl (dg_c 39 rfl rfl (dg_c 40 rfl rfl (dg_c 41 rfl rfl (dg_c 42 rfl rfl (dg_c 43 rfl rfl (dg_c 44 rfl rfl (dg_c 45 rfl rfl (dg_c 46 rfl rfl (dg_c 47 rfl rfl (dg_c 48 rfl rfl (dg_c 49 rfl rfl (dg_c 50 rfl rfl (dg_c 51 rfl rfl dg_0)))))))))))))))))))))))) (dg_c 52 rfl rfl (dg_c 53 rfl rfl dg_0))) gl_X7_init_X60) gl_X7_init_X00))
set_option maxRecDepth 20000 in
theorem gX7_init_X0_init_n17 : GoodIn wsX7_init (wsX0_init) := ggX7_init_X0_init
set_option maxRecDepth 20000 in
theorem gl_X7_init_X50 : GoodIn wsX7_init wsX50 := (dg_t (dg_l (dg_l (dg_l (dg_l (dg_r gw_wsX50))))))
theorem ggX7_init_X5_init : GoodIn wsX7_init wsX5_init := (dg_c 55 rfl rfl (dg_c 56 rfl rfl (dg_c 2 rfl rfl (dg_c 3 rfl rfl (dg_c 23 rfl rfl (dg_c 57 rfl rfl (dg_c 58 rfl rfl (dg_c 59 rfl rfl (dg_c 60 rfl rfl (dg_c 61 rfl rfl (dg_c 62 rfl rfl (dg_c 63 rfl rfl (dg_c 64 rfl rfl gl_X7_init_X50)))))))))))))
set_option maxRecDepth 20000 in
theorem gX7_init_X5_init_n27 : GoodIn wsX7_init (wsX5_init) := ggX7_init_X5_init
set_option maxRecDepth 20000 in
theorem gl_X7_init_X30 : GoodIn wsX7_init wsX30 := (dg_t (dg_l (dg_l (dg_l (dg_r gw_wsX30)))))
theorem ggX7_init_X3_init : GoodIn wsX7_init wsX3_init := (dg_c 66 rfl rfl (dg_c 67 rfl rfl (dg_c 2 rfl rfl (dg_c 3 rfl rfl (dg_c 23 rfl rfl (dg_c 68 rfl rfl (dg_c 69 rfl rfl (dg_c 70 rfl rfl (dg_c 71 rfl rfl (dg_c 72 rfl rfl (dg_c 73 rfl rfl (dg_c 74 rfl rfl (dg_c 75 rfl rfl gl_X7_init_X30)))))))))))))
set_option maxRecDepth 20000 in
theorem gX7_init_X3_init_n34 : GoodIn wsX7_init (wsX3_init) := ggX7_init_X3_init
set_option maxRecDepth 20000 in
theorem gl_X7_init_X10 : GoodIn wsX7_init wsX10 := (dg_t (dg_l (dg_l (dg_r gw_wsX10))))
theorem ggX7_init_X1_init : GoodIn wsX7_init wsX1_init := (dg_c 77 rfl rfl (dg_c 78 rfl rfl (dg_c 2 rfl rfl (dg_c 3 rfl rfl (dg_c 23 rfl rfl (dg_c 79 rfl rfl (dg_c 80 rfl rfl (dg_c 81 rfl rfl (dg_c 82 rfl rfl (dg_c 83 rfl rfl gl_X7_init_X10))))))))))
set_option maxRecDepth 20000 in
theorem gX7_init_X1_init_n41 : GoodIn wsX7_init (wsX1_init) := ggX7_init_X1_init
set_option maxRecDepth 20000 in
theorem gl_X7_init_X40 : GoodIn wsX7_init wsX40 := (dg_t (dg_l (dg_r gw_wsX40)))
theorem ggX7_init_X4_init : GoodIn wsX7_init wsX4_init := (dg_c 85 rfl rfl (dg_c 86 rfl rfl (dg_c 2 rfl rfl (dg_c 3 rfl rfl (dg_c 87 rfl rfl (dg_c 88 rfl rfl (dg_c 89 rfl rfl (dg_c 90 rfl rfl gl_X7_init_X40))))))))
set_option maxRecDepth 20000 in
theorem gX7_init_X4_init_n58 : GoodIn wsX7_init (wsX4_init) := ggX7_init_X4_init
theorem dX7_init_0 : decode cX7_init 0 = .ok (.aload_n 0, 1) := dq_42 dp_cX7_init rfl
theorem dX7_init_1 : decode cX7_init 1 = .ok (.invokespecial 1, 3) := dq_183 dp_cX7_init rfl
theorem dX7_init_4 : decode cX7_init 4 = .ok (.aload_n 0, 1) := dq_42 dp_cX7_init rfl
theorem dX7_init_5 : decode cX7_init 5 = .ok (.bipush 8, 2) := dq_16 (v := 8) dp_cX7_init rfl rfl
theorem dX7_init_7 : decode cX7_init 7 = .ok (.anewarray 9, 3) := dq_189 dp_cX7_init rfl
theorem dX7_init_10 : decode cX7_init 10 = .ok (.putfield 11, 3) := dq_181 dp_cX7_init rfl
theorem dX7_init_13 : decode cX7_init 13 = .ok (.aload_n 0, 1) := dq_42 dp_cX7_init rfl
theorem dX7_init_14 : decode cX7_init 14 = .ok (.new 15, 3) := dq_187 dp_cX7_init rfl
theorem dX7_init_17 : decode cX7_init 17 = .ok (.dup, 1) := dq_89 dp_cX7_init rfl
theorem dX7_init_18 : decode cX7_init 18 = .ok (.invokespecial 17, 3) := dq_183 dp_cX7_init rfl
theorem dX7_init_21 : decode cX7_init 21 = .ok (.putfield 18, 3) := dq_181 dp_cX7_init rfl
theorem dX7_init_24 : decode cX7_init 24 = .ok (.aload_n 0, 1) := dq_42 dp_cX7_init rfl
theorem dX7_init_25 : decode cX7_init 25 = .ok (.new 15, 3) := dq_187 dp_cX7_init rfl
theorem dX7_init_28 : decode cX7_init 28 = .ok (.dup, 1) := dq_89 dp_cX7_init rfl
theorem dX7_init_29 : decode cX7_init 29 = .ok (.invokespecial 17, 3) := dq_183 dp_cX7_init rfl
theorem dX7_init_32 : decode cX7_init 32 = .ok (.putfield 22, 3) := dq_181 dp_cX7_init rfl
theorem dX7_init_35 : decode cX7_init 35 = .ok (.aload_n 0, 1) := dq_42 dp_cX7_init rfl
theorem dX7_init_36 : decode cX7_init 36 = .ok (.new 25, 3) := dq_187 dp_cX7_init rfl
theorem dX7_init_39 : decode cX7_init 39 = .ok (.dup, 1) := dq_89 dp_cX7_init rfl
theorem dX7_init_40 : decode cX7_init 40 = .ok (.invokespecial 27, 3) := dq_183 dp_cX7_init rfl
theorem dX7_init_43 : decode cX7_init 43 = .ok (.putfield 28, 3) := dq_181 dp_cX7_init rfl
theorem dX7_init_46 : decode cX7_init 46 = .ok (.aload_n 0, 1) := dq_42 dp_cX7_init rfl
theorem dX7_init_47 : decode cX7_init 47 = .ok (.new 32, 3) := dq_187 dp_cX7_init rfl
theorem dX7_init_50 : decode cX7_init 50 = .ok (.dup, 1) := dq_89 dp_cX7_init rfl
theorem dX7_init_51 : decode cX7_init 51 = .ok (.invokespecial 34, 3) := dq_183 dp_cX7_init rfl
theorem dX7_init_54 : decode cX7_init 54 = .ok (.putfield 35, 3) := dq_181 dp_cX7_init rfl
theorem dX7_init_57 : decode cX7_init 57 = .ok (.aload_n 0, 1) := dq_42 dp_cX7_init rfl
theorem dX7_init_58 : decode cX7_init 58 = .ok (.new 39, 3) := dq_187 dp_cX7_init rfl
theorem dX7_init_61 : decode cX7_init 61 = .ok (.dup, 1) := dq_89 dp_cX7_init rfl
theorem dX7_init_62 : decode cX7_init 62 = .ok (.invokespecial 41, 3) := dq_183 dp_cX7_init rfl
theorem dX7_init_65 : decode cX7_init 65 = .ok (.putfield 42, 3) := dq_181 dp_cX7_init rfl
theorem dX7_init_68 : decode cX7_init 68 = .ok (.aload_n 0, 1) := dq_42 dp_cX7_init rfl
theorem dX7_init_69 : decode cX7_init 69 = .ok (.bipush 8, 2) := dq_16 (v := 8) dp_cX7_init rfl rfl
theorem dX7_init_71 : decode cX7_init 71 = .ok (.newarray .int, 2) := dq_188_10 dp_cX7_init rfl
theorem dX7_init_73 : decode cX7_init 73 = .ok (.putfield 46, 3) := dq_181 dp_cX7_init rfl
theorem dX7_init_76 : decode cX7_init 76 = .ok (.aload_n 0, 1) := dq_42 dp_cX7_init rfl
theorem dX7_init_77 : decode cX7_init 77 = .ok (.iconst 0, 1) := dq_3 dp_cX7_init rfl
theorem dX7_init_78 : decode cX7_init 78 = .ok (.putfield 50, 3) := dq_181 dp_cX7_init rfl
theorem dX7_init_81 : decode cX7_init 81 = .ok (.aload_n 0, 1) := dq_42 dp_cX7_init rfl
theorem dX7_init_82 : decode cX7_init 82 = .ok (.iconst (-1), 1) := dq_2 dp_cX7_init rfl
theorem dX7_init_83 : decode cX7_init 83 = .ok (.putfield 54, 3) := dq_181 dp_cX7_init rfl
theorem dX7_init_86 : decode cX7_init 86 = .ok (.iconst 0, 1) := dq_3 dp_cX7_init rfl
theorem dX7_init_87 : decode cX7_init 87 = .ok (.istore_n 1, 1) := dq_60 dp_cX7_init rfl
theorem dX7_init_88 : decode cX7_init 88 = .ok (.iload_n 1, 1) := dq_27 dp_cX7_init rfl
theorem dX7_init_89 : decode cX7_init 89 = .ok (.bipush 8, 2) := dq_16 (v := 8) dp_cX7_init rfl rfl
theorem dX7_init_91 : decode cX7_init 91 = .ok (.if_icmp .ge 22, 3) := dq_162 (v := 22) dp_cX7_init rfl rfl
theorem dX7_init_94 : decode cX7_init 94 = .ok (.aload_n 0, 1) := dq_42 dp_cX7_init rfl
theorem dX7_init_95 : decode cX7_init 95 = .ok (.getfield 11, 3) := dq_180 dp_cX7_init rfl
theorem dX7_init_98 : decode cX7_init 98 = .ok (.iload_n 1, 1) := dq_27 dp_cX7_init rfl
theorem dX7_init_99 : decode cX7_init 99 = .ok (.new 9, 3) := dq_187 dp_cX7_init rfl
theorem dX7_init_102 : decode cX7_init 102 = .ok (.dup, 1) := dq_89 dp_cX7_init rfl
theorem dX7_init_103 : decode cX7_init 103 = .ok (.invokespecial 58, 3) := dq_183 dp_cX7_init rfl
theorem dX7_init_106 : decode cX7_init 106 = .ok (.aastore, 1) := dq_83 dp_cX7_init rfl
theorem dX7_init_107 : decode cX7_init 107 = .ok (.iinc 1 1, 3) := dq_132 (v := 1) dp_cX7_init rfl (by decide) rfl
theorem dX7_init_110 : decode cX7_init 110 = .ok (.goto (-22), 3) := dq_167 (v := 65514) dp_cX7_init rfl rfl
theorem dX7_init_113 : decode cX7_init 113 = .ok (.return_, 1) := dq_177 dp_cX7_init rfl
theorem dX8_init_0 : decode cX8_init 0 = .ok (.aload_n 0, 1) := dq_42 dp_cX8_init rfl
theorem dX8_init_1 : decode cX8_init 1 = .ok (.invokespecial 1, 3) := dq_183 dp_cX8_init rfl
theorem dX8_init_4 : decode cX8_init 4 = .ok (.aload_n 0, 1) := dq_42 dp_cX8_init rfl
theorem dX8_init_5 : decode cX8_init 5 = .ok (.bipush 20, 2) := dq_16 (v := 20) dp_cX8_init rfl rfl
theorem dX8_init_7 : decode cX8_init 7 = .ok (.putfield 7, 3) := dq_181 dp_cX8_init rfl
theorem dX8_init_10 : decode cX8_init 10 = .ok (.aload_n 0, 1) := dq_42 dp_cX8_init rfl
theorem dX8_init_11 : decode cX8_init 11 = .ok (.bipush 60, 2) := dq_16 (v := 60) dp_cX8_init rfl rfl
theorem dX8_init_13 : decode cX8_init 13 = .ok (.putfield 13, 3) := dq_181 dp_cX8_init rfl
theorem dX8_init_16 : decode cX8_init 16 = .ok (.aload_n 0, 1) := dq_42 dp_cX8_init rfl
theorem dX8_init_17 : decode cX8_init 17 = .ok (.iconst 3, 1) := dq_6 dp_cX8_init rfl
theorem dX8_init_18 : decode cX8_init 18 = .ok (.putfield 16, 3) := dq_181 dp_cX8_init rfl
theorem dX8_init_21 : decode cX8_init 21 = .ok (.aload_n 0, 1) := dq_42 dp_cX8_init rfl
theorem dX8_init_22 : decode cX8_init 22 = .ok (.iconst 1, 1) := dq_4 dp_cX8_init rfl
theorem dX8_init_23 : decode cX8_init 23 = .ok (.putfield 19, 3) := dq_181 dp_cX8_init rfl
theorem dX8_init_26 : decode cX8_init 26 = .ok (.aload_n 0, 1) := dq_42 dp_cX8_init rfl
theorem dX8_init_27 : decode cX8_init 27 = .ok (.iconst (-1), 1) := dq_2 dp_cX8_init rfl
theorem dX8_init_28 : decode cX8_init 28 = .ok (.putfield 22, 3) := dq_181 dp_cX8_init rfl
theorem dX8_init_31 : decode cX8_init 31 = .ok (.aload_n 0, 1) := dq_42 dp_cX8_init rfl
theorem dX8_init_32 : decode cX8_init 32 = .ok (.bipush 8, 2) := dq_16 (v := 8) dp_cX8_init rfl rfl
theorem dX8_init_34 : decode cX8_init 34 = .ok (.newarray .int, 2) := dq_188_10 dp_cX8_init rfl
theorem dX8_init_36 : decode cX8_init 36 = .ok (.putfield 25, 3) := dq_181 dp_cX8_init rfl
theorem dX8_init_39 : decode cX8_init 39 = .ok (.aload_n 0, 1) := dq_42 dp_cX8_init rfl
theorem dX8_init_40 : decode cX8_init 40 = .ok (.bipush 8, 2) := dq_16 (v := 8) dp_cX8_init rfl rfl
theorem dX8_init_42 : decode cX8_init 42 = .ok (.newarray .int, 2) := dq_188_10 dp_cX8_init rfl
theorem dX8_init_44 : decode cX8_init 44 = .ok (.putfield 29, 3) := dq_181 dp_cX8_init rfl
theorem dX8_init_47 : decode cX8_init 47 = .ok (.aload_n 0, 1) := dq_42 dp_cX8_init rfl
theorem dX8_init_48 : decode cX8_init 48 = .ok (.bipush 8, 2) := dq_16 (v := 8) dp_cX8_init rfl rfl
theorem dX8_init_50 : decode cX8_init 50 = .ok (.newarray .int, 2) := dq_188_10 dp_cX8_init rfl
theorem dX8_init_52 : decode cX8_init 52 = .ok (.putfield 32, 3) := dq_181 dp_cX8_init rfl
theorem dX8_init_55 : decode cX8_init 55 = .ok (.aload_n 0, 1) := dq_42 dp_cX8_init rfl
theorem dX8_init_56 : decode cX8_init 56 = .ok (.bipush 8, 2) := dq_16 (v := 8) dp_cX8_init rfl rfl
theorem dX8_init_58 : decode cX8_init 58 = .ok (.newarray .int, 2) := dq_188_10 dp_cX8_init rfl
theorem dX8_init_60 : decode cX8_init 60 = .ok (.putfield 35, 3) := dq_181 dp_cX8_init rfl
theorem dX8_init_63 : decode cX8_init 63 = .ok (.aload_n 0, 1) := dq_42 dp_cX8_init rfl
theorem dX8_init_64 : decode cX8_init 64 = .ok (.bipush 40, 2) := dq_16 (v := 40) dp_cX8_init rfl rfl
theorem dX8_init_66 : decode cX8_init 66 = .ok (.newarray .int, 2) := dq_188_10 dp_cX8_init rfl
theorem dX8_init_68 : decode cX8_init 68 = .ok (.putfield 38, 3) := dq_181 dp_cX8_init rfl
theorem dX8_init_71 : decode cX8_init 71 = .ok (.aload_n 0, 1) := dq_42 dp_cX8_init rfl
theorem dX8_init_72 : decode cX8_init 72 = .ok (.bipush 40, 2) := dq_16 (v := 40) dp_cX8_init rfl rfl
theorem dX8_init_74 : decode cX8_init 74 = .ok (.newarray .int, 2) := dq_188_10 dp_cX8_init rfl
theorem dX8_init_76 : decode cX8_init 76 = .ok (.putfield 41, 3) := dq_181 dp_cX8_init rfl
theorem dX8_init_79 : decode cX8_init 79 = .ok (.aload_n 0, 1) := dq_42 dp_cX8_init rfl
theorem dX8_init_80 : decode cX8_init 80 = .ok (.iconst 3, 1) := dq_6 dp_cX8_init rfl
theorem dX8_init_81 : decode cX8_init 81 = .ok (.newarray .int, 2) := dq_188_10 dp_cX8_init rfl
theorem dX8_init_83 : decode cX8_init 83 = .ok (.dup, 1) := dq_89 dp_cX8_init rfl
theorem dX8_init_84 : decode cX8_init 84 = .ok (.iconst 0, 1) := dq_3 dp_cX8_init rfl
theorem dX8_init_85 : decode cX8_init 85 = .ok (.iconst 5, 1) := dq_8 dp_cX8_init rfl
theorem dX8_init_86 : decode cX8_init 86 = .ok (.iastore, 1) := dq_79 dp_cX8_init rfl
theorem dX8_init_87 : decode cX8_init 87 = .ok (.dup, 1) := dq_89 dp_cX8_init rfl
theorem dX8_init_88 : decode cX8_init 88 = .ok (.iconst 1, 1) := dq_4 dp_cX8_init rfl
theorem dX8_init_89 : decode cX8_init 89 = .ok (.bipush 10, 2) := dq_16 (v := 10) dp_cX8_init rfl rfl
theorem dX8_init_91 : decode cX8_init 91 = .ok (.iastore, 1) := dq_79 dp_cX8_init rfl
theorem dX8_init_92 : decode cX8_init 92 = .ok (.dup, 1) := dq_89 dp_cX8_init rfl
theorem dX8_init_93 : decode cX8_init 93 = .ok (.iconst 2, 1) := dq_5 dp_cX8_init rfl
theorem dX8_init_94 : decode cX8_init 94 = .ok (.bipush 50, 2) := dq_16 (v := 50) dp_cX8_init rfl rfl
theorem dX8_init_96 : decode cX8_init 96 = .ok (.iastore, 1) := dq_79 dp_cX8_init rfl
theorem dX8_init_97 : decode cX8_init 97 = .ok (.putfield 44, 3) := dq_181 dp_cX8_init rfl
theorem dX8_init_100 : decode cX8_init 100 = .ok (.aload_n 0, 1) := dq_42 dp_cX8_init rfl
theorem dX8_init_101 : decode cX8_init 101 = .ok (.bipush 8, 2) := dq_16 (v := 8) dp_cX8_init rfl rfl
theorem dX8_init_103 : decode cX8_init 103 = .ok (.newarray .int, 2) := dq_188_10 dp_cX8_init rfl
theorem dX8_init_105 : decode cX8_init 105 = .ok (.putfield 47, 3) := dq_181 dp_cX8_init rfl
theorem dX8_init_108 : decode cX8_init 108 = .ok (.aload_n 0, 1) := dq_42 dp_cX8_init rfl
theorem dX8_init_109 : decode cX8_init 109 = .ok (.bipush 8, 2) := dq_16 (v := 8) dp_cX8_init rfl rfl
theorem dX8_init_111 : decode cX8_init 111 = .ok (.newarray .int, 2) := dq_188_10 dp_cX8_init rfl
theorem dX8_init_113 : decode cX8_init 113 = .ok (.putfield 50, 3) := dq_181 dp_cX8_init rfl
theorem dX8_init_116 : decode cX8_init 116 = .ok (.aload_n 0, 1) := dq_42 dp_cX8_init rfl
theorem dX8_init_117 : decode cX8_init 117 = .ok (.bipush 8, 2) := dq_16 (v := 8) dp_cX8_init rfl rfl
theorem dX8_init_119 : decode cX8_init 119 = .ok (.newarray .int, 2) := dq_188_10 dp_cX8_init rfl
theorem dX8_init_121 : decode cX8_init 121 = .ok (.putfield 53, 3) := dq_181 dp_cX8_init rfl
theorem dX8_init_124 : decode cX8_init 124 = .ok (.aload_n 0, 1) := dq_42 dp_cX8_init rfl
theorem dX8_init_125 : decode cX8_init 125 = .ok (.bipush 8, 2) := dq_16 (v := 8) dp_cX8_init rfl rfl
theorem dX8_init_127 : decode cX8_init 127 = .ok (.newarray .int, 2) := dq_188_10 dp_cX8_init rfl
theorem dX8_init_129 : decode cX8_init 129 = .ok (.putfield 56, 3) := dq_181 dp_cX8_init rfl
theorem dX8_init_132 : decode cX8_init 132 = .ok (.aload_n 0, 1) := dq_42 dp_cX8_init rfl
theorem dX8_init_133 : decode cX8_init 133 = .ok (.sipush 1280, 3) := dq_17 (v := 1280) dp_cX8_init rfl rfl
theorem dX8_init_136 : decode cX8_init 136 = .ok (.newarray .long, 2) := dq_188_11 dp_cX8_init rfl
theorem dX8_init_138 : decode cX8_init 138 = .ok (.putfield 59, 3) := dq_181 dp_cX8_init rfl
theorem dX8_init_141 : decode cX8_init 141 = .ok (.aload_n 0, 1) := dq_42 dp_cX8_init rfl
theorem dX8_init_142 : decode cX8_init 142 = .ok (.sipush 160, 3) := dq_17 (v := 160) dp_cX8_init rfl rfl
theorem dX8_init_145 : decode cX8_init 145 = .ok (.newarray .long, 2) := dq_188_11 dp_cX8_init rfl
theorem dX8_init_147 : decode cX8_init 147 = .ok (.putfield 63, 3) := dq_181 dp_cX8_init rfl
theorem dX8_init_150 : decode cX8_init 150 = .ok (.aload_n 0, 1) := dq_42 dp_cX8_init rfl
theorem dX8_init_151 : decode cX8_init 151 = .ok (.bipush 64, 2) := dq_16 (v := 64) dp_cX8_init rfl rfl
theorem dX8_init_153 : decode cX8_init 153 = .ok (.newarray .int, 2) := dq_188_10 dp_cX8_init rfl
theorem dX8_init_155 : decode cX8_init 155 = .ok (.dup, 1) := dq_89 dp_cX8_init rfl
theorem dX8_init_156 : decode cX8_init 156 = .ok (.iconst 0, 1) := dq_3 dp_cX8_init rfl
theorem dX8_init_157 : decode cX8_init 157 = .ok (.bipush 116, 2) := dq_16 (v := 116) dp_cX8_init rfl rfl
theorem dX8_init_159 : decode cX8_init 159 = .ok (.iastore, 1) := dq_79 dp_cX8_init rfl
theorem dX8_init_160 : decode cX8_init 160 = .ok (.dup, 1) := dq_89 dp_cX8_init rfl
theorem dX8_init_161 : decode cX8_init 161 = .ok (.iconst 1, 1) := dq_4 dp_cX8_init rfl
theorem dX8_init_162 : decode cX8_init 162 = .ok (.bipush 101, 2) := dq_16 (v := 101) dp_cX8_init rfl rfl
theorem dX8_init_164 : decode cX8_init 164 = .ok (.iastore, 1) := dq_79 dp_cX8_init rfl
theorem dX8_init_165 : decode cX8_init 165 = .ok (.dup, 1) := dq_89 dp_cX8_init rfl
theorem dX8_init_166 : decode cX8_init 166 = .ok (.iconst 2, 1) := dq_5 dp_cX8_init rfl
theorem dX8_init_167 : decode cX8_init 167 = .ok (.bipush 101, 2) := dq_16 (v := 101) dp_cX8_init rfl rfl
theorem dX8_init_169 : decode cX8_init 169 = .ok (.iastore, 1) := dq_79 dp_cX8_init rfl
theorem dX8_init_170 : decode cX8_init 170 = .ok (.dup, 1) := dq_89 dp_cX8_init rfl
theorem dX8_init_171 : decode cX8_init 171 = .ok (.iconst 3, 1) := dq_6 dp_cX8_init rfl
theorem dX8_init_172 : decode cX8_init 172 = .ok (.bipush 116, 2) := dq_16 (v := 116) dp_cX8_init rfl rfl
theorem dX8_init_174 : decode cX8_init 174 = .ok (.iastore, 1) := dq_79 dp_cX8_init rfl
theorem dX8_init_175 : decode cX8_init 175 = .ok (.dup, 1) := dq_89 dp_cX8_init rfl
theorem dX8_init_176 : decode cX8_init 176 = .ok (.iconst 4, 1) := dq_7 dp_cX8_init rfl
theorem dX8_init_177 : decode cX8_init 177 = .ok (.bipush 104, 2) := dq_16 (v := 104) dp_cX8_init rfl rfl
theorem dX8_init_179 : decode cX8_init 179 = .ok (.iastore, 1) := dq_79 dp_cX8_init rfl
theorem dX8_init_180 : decode cX8_init 180 = .ok (.dup, 1) := dq_89 dp_cX8_init rfl
theorem dX8_init_181 : decode cX8_init 181 = .ok (.iconst 5, 1) := dq_8 dp_cX8_init rfl
theorem dX8_init_182 : decode cX8_init 182 = .ok (.bipush 32, 2) := dq_16 (v := 32) dp_cX8_init rfl rfl
theorem dX8_init_184 : decode cX8_init 184 = .ok (.iastore, 1) := dq_79 dp_cX8_init rfl
theorem dX8_init_185 : decode cX8_init 185 = .ok (.dup, 1) := dq_89 dp_cX8_init rfl
theorem dX8_init_186 : decode cX8_init 186 = .ok (.bipush 6, 2) := dq_16 (v := 6) dp_cX8_init rfl rfl
theorem dX8_init_188 : decode cX8_init 188 = .ok (.iconst 0, 1) := dq_3 dp_cX8_init rfl
theorem dX8_init_189 : decode cX8_init 189 = .ok (.iastore, 1) := dq_79 dp_cX8_init rfl
theorem dX8_init_190 : decode cX8_init 190 = .ok (.dup, 1) := dq_89 dp_cX8_init rfl
theorem dX8_init_191 : decode cX8_init 191 = .ok (.bipush 7, 2) := dq_16 (v := 7) dp_cX8_init rfl rfl
theorem dX8_init_193 : decode cX8_init 193 = .ok (.bipush 108, 2) := dq_16 (v := 108) dp_cX8_init rfl rfl
theorem dX8_init_195 : decode cX8_init 195 = .ok (.iastore, 1) := dq_79 dp_cX8_init rfl
theorem dX8_init_196 : decode cX8_init 196 = .ok (.dup, 1) := dq_89 dp_cX8_init rfl
theorem dX8_init_197 : decode cX8_init 197 = .ok (.bipush 8, 2) := dq_16 (v := 8) dp_cX8_init rfl rfl
theorem dX8_init_199 : decode cX8_init 199 = .ok (.bipush 97, 2) := dq_16 (v := 97) dp_cX8_init rfl rfl
theorem dX8_init_201 : decode cX8_init 201 = .ok (.iastore, 1) := dq_79 dp_cX8_init rfl
theorem dX8_init_202 : decode cX8_init 202 = .ok (.dup, 1) := dq_89 dp_cX8_init rfl
theorem dX8_init_203 : decode cX8_init 203 = .ok (.bipush 9, 2) := dq_16 (v := 9) dp_cX8_init rfl rfl
theorem dX8_init_205 : decode cX8_init 205 = .ok (.bipush 99, 2) := dq_16 (v := 99) dp_cX8_init rfl rfl
theorem dX8_init_207 : decode cX8_init 207 = .ok (.iastore, 1) := dq_79 dp_cX8_init rfl
theorem dX8_init_208 : decode cX8_init 208 = .ok (.dup, 1) := dq_89 dp_cX8_init rfl
theorem dX8_init_209 : decode cX8_init 209 = .ok (.bipush 10, 2) := dq_16 (v := 10) dp_cX8_init rfl rfl
theorem dX8_init_211 : decode cX8_init 211 = .ok (.bipush 107, 2) := dq_16 (v := 107) dp_cX8_init rfl rfl
theorem dX8_init_213 : decode cX8_init 213 = .ok (.iastore, 1) := dq_79 dp_cX8_init rfl
theorem dX8_init_214 : decode cX8_init 214 = .ok (.dup, 1) := dq_89 dp_cX8_init rfl
theorem dX8_init_215 : decode cX8_init 215 = .ok (.bipush 11, 2) := dq_16 (v := 11) dp_cX8_init rfl rfl
theorem dX8_init_217 : decode cX8_init 217 = .ok (.bipush 32, 2) := dq_16 (v := 32) dp_cX8_init rfl rfl
theorem dX8_init_219 : decode cX8_init 219 = .ok (.iastore, 1) := dq_79 dp_cX8_init rfl
theorem dX8_init_220 : decode cX8_init 220 = .ok (.dup, 1) := dq_89 dp_cX8_init rfl
theorem dX8_init_221 : decode cX8_init 221 = .ok (.bipush 12, 2) := dq_16 (v := 12) dp_cX8_init rfl rfl
theorem dX8_init_223 : decode cX8_init 223 = .ok (.iconst 0, 1) := dq_3 dp_cX8_init rfl
theorem dX8_init_224 : decode cX8_init 224 = .ok (.iastore, 1) := dq_79 dp_cX8_init rfl
theorem dX8_init_225 : decode cX8_init 225 = .ok (.dup, 1) := dq_89 dp_cX8_init rfl
theorem dX8_init_226 : decode cX8_init 226 = .ok (.bipush 13, 2) := dq_16 (v := 13) dp_cX8_init rfl rfl
theorem dX8_init_228 : decode cX8_init 228 = .ok (.bipush 115, 2) := dq_16 (v := 115) dp_cX8_init rfl rfl
theorem dX8_init_230 : decode cX8_init 230 = .ok (.iastore, 1) := dq_79 dp_cX8_init rfl
theorem dX8_init_231 : decode cX8_init 231 = .ok (.dup, 1) := dq_89 dp_cX8_init rfl
theorem dX8_init_232 : decode cX8_init 232 = .ok (.bipush 14, 2) := dq_16 (v := 14) dp_cX8_init rfl rfl
theorem dX8_init_234 : decode cX8_init 234 = .ok (.bipush 108, 2) := dq_16 (v := 108) dp_cX8_init rfl rfl
theorem dX8_init_236 : decode cX8_init 236 = .ok (.iastore, 1) := dq_79 dp_cX8_init rfl
theorem dX8_init_237 : decode cX8_init 237 = .ok (.dup, 1) := dq_89 dp_cX8_init rfl
theorem dX8_init_238 : decode cX8_init 238 = .ok (.bipush 15, 2) := dq_16 (v := 15) dp_cX8_init rfl rfl
theorem dX8_init_240 : decode cX8_init 240 = .ok (.bipush 97, 2) := dq_16 (v := 97) dp_cX8_init rfl rfl
theorem dX8_init_242 : decode cX8_init 242 = .ok (.iastore, 1) := dq_79 dp_cX8_init rfl
theorem dX8_init_243 : decode cX8_init 243 = .ok (.dup, 1) := dq_89 dp_cX8_init rfl
theorem dX8_init_244 : decode cX8_init 244 = .ok (.bipush 16, 2) := dq_16 (v := 16) dp_cX8_init rfl rfl
theorem dX8_init_246 : decode cX8_init 246 = .ok (.bipush 99, 2) := dq_16 (v := 99) dp_cX8_init rfl rfl
theorem dX8_init_248 : decode cX8_init 248 = .ok (.iastore, 1) := dq_79 dp_cX8_init rfl
theorem dX8_init_249 : decode cX8_init 249 = .ok (.dup, 1) := dq_89 dp_cX8_init rfl
theorem dX8_init_250 : decode cX8_init 250 = .ok (.bipush 17, 2) := dq_16 (v := 17) dp_cX8_init rfl rfl
theorem dX8_init_252 : decode cX8_init 252 = .ok (.bipush 107, 2) := dq_16 (v := 107) dp_cX8_init rfl rfl
theorem dX8_init_254 : decode cX8_init 254 = .ok (.iastore, 1) := dq_79 dp_cX8_init rfl
theorem dX8_init_255 : decode cX8_init 255 = .ok (.dup, 1) := dq_89 dp_cX8_init rfl
theorem dX8_init_256 : decode cX8_init 256 = .ok (.bipush 18, 2) := dq_16 (v := 18) dp_cX8_init rfl rfl
theorem dX8_init_258 : decode cX8_init 258 = .ok (.bipush 32, 2) := dq_16 (v := 32) dp_cX8_init rfl rfl
theorem dX8_init_260 : decode cX8_init 260 = .ok (.iastore, 1) := dq_79 dp_cX8_init rfl
theorem dX8_init_261 : decode cX8_init 261 = .ok (.dup, 1) := dq_89 dp_cX8_init rfl
theorem dX8_init_262 : decode cX8_init 262 = .ok (.bipush 19, 2) := dq_16 (v := 19) dp_cX8_init rfl rfl
theorem dX8_init_264 : decode cX8_init 264 = .ok (.iconst 0, 1) := dq_3 dp_cX8_init rfl
theorem dX8_init_265 : decode cX8_init 265 = .ok (.iastore, 1) := dq_79 dp_cX8_init rfl
theorem dX8_init_266 : decode cX8_init 266 = .ok (.dup, 1) := dq_89 dp_cX8_init rfl
theorem dX8_init_267 : decode cX8_init 267 = .ok (.bipush 20, 2) := dq_16 (v := 20) dp_cX8_init rfl rfl
theorem dX8_init_269 : decode cX8_init 269 = .ok (.bipush 112, 2) := dq_16 (v := 112) dp_cX8_init rfl rfl
theorem dX8_init_271 : decode cX8_init 271 = .ok (.iastore, 1) := dq_79 dp_cX8_init rfl
theorem dX8_init_272 : decode cX8_init 272 = .ok (.dup, 1) := dq_89 dp_cX8_init rfl
theorem dX8_init_273 : decode cX8_init 273 = .ok (.bipush 21, 2) := dq_16 (v := 21) dp_cX8_init rfl rfl
theorem dX8_init_275 : decode cX8_init 275 = .ok (.bipush 117, 2) := dq_16 (v := 117) dp_cX8_init rfl rfl
theorem dX8_init_277 : decode cX8_init 277 = .ok (.iastore, 1) := dq_79 dp_cX8_init rfl
theorem dX8_init_278 : decode cX8_init 278 = .ok (.dup, 1) := dq_89 dp_cX8_init rfl
theorem dX8_init_279 : decode cX8_init 279 = .ok (.bipush 22, 2) := dq_16 (v := 22) dp_cX8_init rfl rfl
theorem dX8_init_281 : decode cX8_init 281 = .ok (.bipush 108, 2) := dq_16 (v := 108) dp_cX8_init rfl rfl
theorem dX8_init_283 : decode cX8_init 283 = .ok (.iastore, 1) := dq_79 dp_cX8_init rfl
theorem dX8_init_284 : decode cX8_init 284 = .ok (.dup, 1) := dq_89 dp_cX8_init rfl
theorem dX8_init_285 : decode cX8_init 285 = .ok (.bipush 23, 2) := dq_16 (v := 23) dp_cX8_init rfl rfl
theorem dX8_init_287 : decode cX8_init 287 = .ok (.bipush 108, 2) := dq_16 (v := 108) dp_cX8_init rfl rfl
theorem dX8_init_289 : decode cX8_init 289 = .ok (.iastore, 1) := dq_79 dp_cX8_init rfl
theorem dX8_init_290 : decode cX8_init 290 = .ok (.dup, 1) := dq_89 dp_cX8_init rfl
theorem dX8_init_291 : decode cX8_init 291 = .ok (.bipush 24, 2) := dq_16 (v := 24) dp_cX8_init rfl rfl
theorem dX8_init_293 : decode cX8_init 293 = .ok (.bipush 32, 2) := dq_16 (v := 32) dp_cX8_init rfl rfl
theorem dX8_init_295 : decode cX8_init 295 = .ok (.iastore, 1) := dq_79 dp_cX8_init rfl
theorem dX8_init_296 : decode cX8_init 296 = .ok (.dup, 1) := dq_89 dp_cX8_init rfl
theorem dX8_init_297 : decode cX8_init 297 = .ok (.bipush 25, 2) := dq_16 (v := 25) dp_cX8_init rfl rfl
theorem dX8_init_299 : decode cX8_init 299 = .ok (.iconst 0, 1) := dq_3 dp_cX8_init rfl
theorem dX8_init_300 : decode cX8_init 300 = .ok (.iastore, 1) := dq_79 dp_cX8_init rfl
theorem dX8_init_301 : decode cX8_init 301 = .ok (.dup, 1) := dq_89 dp_cX8_init rfl
theorem dX8_init_302 : decode cX8_init 302 = .ok (.bipush 26, 2) := dq_16 (v := 26) dp_cX8_init rfl rfl
theorem dX8_init_304 : decode cX8_init 304 = .ok (.bipush 100, 2) := dq_16 (v := 100) dp_cX8_init rfl rfl
theorem dX8_init_306 : decode cX8_init 306 = .ok (.iastore, 1) := dq_79 dp_cX8_init rfl
theorem dX8_init_307 : decode cX8_init 307 = .ok (.dup, 1) := dq_89 dp_cX8_init rfl
theorem dX8_init_308 : decode cX8_init 308 = .ok (.bipush 27, 2) := dq_16 (v := 27) dp_cX8_init rfl rfl
theorem dX8_init_310 : decode cX8_init 310 = .ok (.bipush 101, 2) := dq_16 (v := 101) dp_cX8_init rfl rfl
theorem dX8_init_312 : decode cX8_init 312 = .ok (.iastore, 1) := dq_79 dp_cX8_init rfl
theorem dX8_init_313 : decode cX8_init 313 = .ok (.dup, 1) := dq_89 dp_cX8_init rfl
theorem dX8_init_314 : decode cX8_init 314 = .ok (.bipush 28, 2) := dq_16 (v := 28) dp_cX8_init rfl rfl
theorem dX8_init_316 : decode cX8_init 316 = .ok (.bipush 112, 2) := dq_16 (v := 112) dp_cX8_init rfl rfl
theorem dX8_init_318 : decode cX8_init 318 = .ok (.iastore, 1) := dq_79 dp_cX8_init rfl
theorem dX8_init_319 : decode cX8_init 319 = .ok (.dup, 1) := dq_89 dp_cX8_init rfl
theorem dX8_init_320 : decode cX8_init 320 = .ok (.bipush 29, 2) := dq_16 (v := 29) dp_cX8_init rfl rfl
theorem dX8_init_322 : decode cX8_init 322 = .ok (.bipush 116, 2) := dq_16 (v := 116) dp_cX8_init rfl rfl
theorem dX8_init_324 : decode cX8_init 324 = .ok (.iastore, 1) := dq_79 dp_cX8_init rfl
theorem dX8_init_325 : decode cX8_init 325 = .ok (.dup, 1) := dq_89 dp_cX8_init rfl
theorem dX8_init_326 : decode cX8_init 326 = .ok (.bipush 30, 2) := dq_16 (v := 30) dp_cX8_init rfl rfl
theorem dX8_init_328 : decode cX8_init 328 = .ok (.bipush 104, 2) := dq_16 (v := 104) dp_cX8_init rfl rfl
theorem dX8_init_330 : decode cX8_init 330 = .ok (.iastore, 1) := dq_79 dp_cX8_init rfl
theorem dX8_init_331 : decode cX8_init 331 = .ok (.dup, 1) := dq_89 dp_cX8_init rfl
theorem dX8_init_332 : decode cX8_init 332 = .ok (.bipush 31, 2) := dq_16 (v := 31) dp_cX8_init rfl rfl
theorem dX8_init_334 : decode cX8_init 334 = .ok (.bipush 32, 2) := dq_16 (v := 32) dp_cX8_init rfl rfl
theorem dX8_init_336 : decode cX8_init 336 = .ok (.iastore, 1) := dq_79 dp_cX8_init rfl
theorem dX8_init_337 : decode cX8_init 337 = .ok (.dup, 1) := dq_89 dp_cX8_init rfl
theorem dX8_init_338 : decode cX8_init 338 = .ok (.bipush 32, 2) := dq_16 (v := 32) dp_cX8_init rfl rfl
theorem dX8_init_340 : decode cX8_init 340 = .ok (.iconst 0, 1) := dq_3 dp_cX8_init rfl
theorem dX8_init_341 : decode cX8_init 341 = .ok (.iastore, 1) := dq_79 dp_cX8_init rfl
theorem dX8_init_342 : decode cX8_init 342 = .ok (.dup, 1) := dq_89 dp_cX8_init rfl
theorem dX8_init_343 : decode cX8_init 343 = .ok (.bipush 33, 2) := dq_16 (v := 33) dp_cX8_init rfl rfl
theorem dX8_init_345 : decode cX8_init 345 = .ok (.bipush 115, 2) := dq_16 (v := 115) dp_cX8_init rfl rfl
theorem dX8_init_347 : decode cX8_init 347 = .ok (.iastore, 1) := dq_79 dp_cX8_init rfl
theorem dX8_init_348 : decode cX8_init 348 = .ok (.dup, 1) := dq_89 dp_cX8_init rfl
theorem dX8_init_349 : decode cX8_init 349 = .ok (.bipush 34, 2) := dq_16 (v := 34) dp_cX8_init rfl rfl
theorem dX8_init_351 : decode cX8_init 351 = .ok (.bipush 101, 2) := dq_16 (v := 101) dp_cX8_init rfl rfl
theorem dX8_init_353 : decode cX8_init 353 = .ok (.iastore, 1) := dq_79 dp_cX8_init rfl
theorem dX8_init_354 : decode cX8_init 354 = .ok (.dup, 1) := dq_89 dp_cX8_init rfl
theorem dX8_init_355 : decode cX8_init 355 = .ok (.bipush 35, 2) := dq_16 (v := 35) dp_cX8_init rfl rfl
theorem dX8_init_357 : decode cX8_init 357 = .ok (.bipush 99, 2) := dq_16 (v := 99) dp_cX8_init rfl rfl
theorem dX8_init_359 : decode cX8_init 359 = .ok (.iastore, 1) := dq_79 dp_cX8_init rfl
theorem dX8_init_360 : decode cX8_init 360 = .ok (.dup, 1) := dq_89 dp_cX8_init rfl
theorem dX8_init_361 : decode cX8_init 361 = .ok (.bipush 36, 2) := dq_16 (v := 36) dp_cX8_init rfl rfl
theorem dX8_init_363 : decode cX8_init 363 = .ok (.bipush 111, 2) := dq_16 (v := 111) dp_cX8_init rfl rfl
theorem dX8_init_365 : decode cX8_init 365 = .ok (.iastore, 1) := dq_79 dp_cX8_init rfl
theorem dX8_init_366 : decode cX8_init 366 = .ok (.dup, 1) := dq_89 dp_cX8_init rfl
theorem dX8_init_367 : decode cX8_init 367 = .ok (.bipush 37, 2) := dq_16 (v := 37) dp_cX8_init rfl rfl
theorem dX8_init_369 : decode cX8_init 369 = .ok (.bipush 110, 2) := dq_16 (v := 110) dp_cX8_init rfl rfl
theorem dX8_init_371 : decode cX8_init 371 = .ok (.iastore, 1) := dq_79 dp_cX8_init rfl
theorem dX8_init_372 : decode cX8_init 372 = .ok (.dup, 1) := dq_89 dp_cX8_init rfl
theorem dX8_init_373 : decode cX8_init 373 = .ok (.bipush 38, 2) := dq_16 (v := 38) dp_cX8_init rfl rfl
theorem dX8_init_375 : decode cX8_init 375 = .ok (.bipush 100, 2) := dq_16 (v := 100) dp_cX8_init rfl rfl
theorem dX8_init_377 : decode cX8_init 377 = .ok (.iastore, 1) := dq_79 dp_cX8_init rfl
theorem dX8_init_378 : decode cX8_init 378 = .ok (.dup, 1) := dq_89 dp_cX8_init rfl
theorem dX8_init_379 : decode cX8_init 379 = .ok (.bipush 39, 2) := dq_16 (v := 39) dp_cX8_init rfl rfl
theorem dX8_init_381 : decode cX8_init 381 = .ok (.bipush 115, 2) := dq_16 (v := 115) dp_cX8_init rfl rfl
theorem dX8_init_383 : decode cX8_init 383 = .ok (.iastore, 1) := dq_79 dp_cX8_init rfl
theorem dX8_init_384 : decode cX8_init 384 = .ok (.dup, 1) := dq_89 dp_cX8_init rfl
theorem dX8_init_385 : decode cX8_init 385 = .ok (.bipush 40, 2) := dq_16 (v := 40) dp_cX8_init rfl rfl
theorem dX8_init_387 : decode cX8_init 387 = .ok (.bipush 32, 2) := dq_16 (v := 32) dp_cX8_init rfl rfl
theorem dX8_init_389 : decode cX8_init 389 = .ok (.iastore, 1) := dq_79 dp_cX8_init rfl
theorem dX8_init_390 : decode cX8_init 390 = .ok (.dup, 1) := dq_89 dp_cX8_init rfl
theorem dX8_init_391 : decode cX8_init 391 = .ok (.bipush 41, 2) := dq_16 (v := 41) dp_cX8_init rfl rfl
theorem dX8_init_393 : decode cX8_init 393 = .ok (.iconst 0, 1) := dq_3 dp_cX8_init rfl
theorem dX8_init_394 : decode cX8_init 394 = .ok (.iastore, 1) := dq_79 dp_cX8_init rfl
theorem dX8_init_395 : decode cX8_init 395 = .ok (.dup, 1) := dq_89 dp_cX8_init rfl
theorem dX8_init_396 : decode cX8_init 396 = .ok (.bipush 42, 2) := dq_16 (v := 42) dp_cX8_init rfl rfl
theorem dX8_init_398 : decode cX8_init 398 = .ok (.bipush 104, 2) := dq_16 (v := 104) dp_cX8_init rfl rfl
theorem dX8_init_400 : decode cX8_init 400 = .ok (.iastore, 1) := dq_79 dp_cX8_init rfl
theorem dX8_init_401 : decode cX8_init 401 = .ok (.dup, 1) := dq_89 dp_cX8_init rfl
theorem dX8_init_402 : decode cX8_init 402 = .ok (.bipush 43, 2) := dq_16 (v := 43) dp_cX8_init rfl rfl
theorem dX8_init_404 : decode cX8_init 404 = .ok (.bipush 117, 2) := dq_16 (v := 117) dp_cX8_init rfl rfl
theorem dX8_init_406 : decode cX8_init 406 = .ok (.iastore, 1) := dq_79 dp_cX8_init rfl
theorem dX8_init_407 : decode cX8_init 407 = .ok (.dup, 1) := dq_89 dp_cX8_init rfl
theorem dX8_init_408 : decode cX8_init 408 = .ok (.bipush 44, 2) := dq_16 (v := 44) dp_cX8_init rfl rfl
theorem dX8_init_410 : decode cX8_init 410 = .ok (.bipush 114, 2) := dq_16 (v := 114) dp_cX8_init rfl rfl
theorem dX8_init_412 : decode cX8_init 412 = .ok (.iastore, 1) := dq_79 dp_cX8_init rfl
theorem dX8_init_413 : decode cX8_init 413 = .ok (.dup, 1) := dq_89 dp_cX8_init rfl
theorem dX8_init_414 : decode cX8_init 414 = .ok (.bipush 45, 2) := dq_16 (v := 45) dp_cX8_init rfl rfl
theorem dX8_init_416 : decode cX8_init 416 = .ok (.bipush 114, 2) := dq_16 (v := 114) dp_cX8_init rfl rfl
theorem dX8_init_418 : decode cX8_init 418 = .ok (.iastore, 1) := dq_79 dp_cX8_init rfl
theorem dX8_init_419 : decode cX8_init 419 = .ok (.dup, 1) := dq_89 dp_cX8_init rfl
theorem dX8_init_420 : decode cX8_init 420 = .ok (.bipush 46, 2) := dq_16 (v := 46) dp_cX8_init rfl rfl
theorem dX8_init_422 : decode cX8_init 422 = .ok (.bipush 121, 2) := dq_16 (v := 121) dp_cX8_init rfl rfl
theorem dX8_init_424 : decode cX8_init 424 = .ok (.iastore, 1) := dq_79 dp_cX8_init rfl
theorem dX8_init_425 : decode cX8_init 425 = .ok (.dup, 1) := dq_89 dp_cX8_init rfl
theorem dX8_init_426 : decode cX8_init 426 = .ok (.bipush 47, 2) := dq_16 (v := 47) dp_cX8_init rfl rfl
theorem dX8_init_428 : decode cX8_init 428 = .ok (.bipush 32, 2) := dq_16 (v := 32) dp_cX8_init rfl rfl
theorem dX8_init_430 : decode cX8_init 430 = .ok (.iastore, 1) := dq_79 dp_cX8_init rfl
theorem dX8_init_431 : decode cX8_init 431 = .ok (.dup, 1) := dq_89 dp_cX8_init rfl
theorem dX8_init_432 : decode cX8_init 432 = .ok (.bipush 48, 2) := dq_16 (v := 48) dp_cX8_init rfl rfl
theorem dX8_init_434 : decode cX8_init 434 = .ok (.iconst 0, 1) := dq_3 dp_cX8_init rfl
theorem dX8_init_435 : decode cX8_init 435 = .ok (.iastore, 1) := dq_79 dp_cX8_init rfl
theorem dX8_init_436 : decode cX8_init 436 = .ok (.dup, 1) := dq_89 dp_cX8_init rfl
theorem dX8_init_437 : decode cX8_init 437 = .ok (.bipush 49, 2) := dq_16 (v := 49) dp_cX8_init rfl rfl
theorem dX8_init_439 : decode cX8_init 439 = .ok (.bipush 103, 2) := dq_16 (v := 103) dp_cX8_init rfl rfl
theorem dX8_init_441 : decode cX8_init 441 = .ok (.iastore, 1) := dq_79 dp_cX8_init rfl
theorem dX8_init_442 : decode cX8_init 442 = .ok (.dup, 1) := dq_89 dp_cX8_init rfl
theorem dX8_init_443 : decode cX8_init 443 = .ok (.bipush 50, 2) := dq_16 (v := 50) dp_cX8_init rfl rfl
theorem dX8_init_445 : decode cX8_init 445 = .ok (.bipush 97, 2) := dq_16 (v := 97) dp_cX8_init rfl rfl
theorem dX8_init_447 : decode cX8_init 447 = .ok (.iastore, 1) := dq_79 dp_cX8_init rfl
theorem dX8_init_448 : decode cX8_init 448 = .ok (.dup, 1) := dq_89 dp_cX8_init rfl
theorem dX8_init_449 : decode cX8_init 449 = .ok (.bipush 51, 2) := dq_16 (v := 51) dp_cX8_init rfl rfl
theorem dX8_init_451 : decode cX8_init 451 = .ok (.bipush 112, 2) := dq_16 (v := 112) dp_cX8_init rfl rfl
theorem dX8_init_453 : decode cX8_init 453 = .ok (.iastore, 1) := dq_79 dp_cX8_init rfl
theorem dX8_init_454 : decode cX8_init 454 = .ok (.dup, 1) := dq_89 dp_cX8_init rfl
theorem dX8_init_455 : decode cX8_init 455 = .ok (.bipush 52, 2) := dq_16 (v := 52) dp_cX8_init rfl rfl
theorem dX8_init_457 : decode cX8_init 457 = .ok (.bipush 32, 2) := dq_16 (v := 32) dp_cX8_init rfl rfl
theorem dX8_init_459 : decode cX8_init 459 = .ok (.iastore, 1) := dq_79 dp_cX8_init rfl
theorem dX8_init_460 : decode cX8_init 460 = .ok (.dup, 1) := dq_89 dp_cX8_init rfl
theorem dX8_init_461 : decode cX8_init 461 = .ok (.bipush 53, 2) := dq_16 (v := 53) dp_cX8_init rfl rfl
theorem dX8_init_463 : decode cX8_init 463 = .ok (.iconst 0, 1) := dq_3 dp_cX8_init rfl
theorem dX8_init_464 : decode cX8_init 464 = .ok (.iastore, 1) := dq_79 dp_cX8_init rfl
theorem dX8_init_465 : decode cX8_init 465 = .ok (.dup, 1) := dq_89 dp_cX8_init rfl
theorem dX8_init_466 : decode cX8_init 466 = .ok (.bipush 54, 2) := dq_16 (v := 54) dp_cX8_init rfl rfl
theorem dX8_init_468 : decode cX8_init 468 = .ok (.bipush 99, 2) := dq_16 (v := 99) dp_cX8_init rfl rfl
theorem dX8_init_470 : decode cX8_init 470 = .ok (.iastore, 1) := dq_79 dp_cX8_init rfl
theorem dX8_init_471 : decode cX8_init 471 = .ok (.dup, 1) := dq_89 dp_cX8_init rfl
theorem dX8_init_472 : decode cX8_init 472 = .ok (.bipush 55, 2) := dq_16 (v := 55) dp_cX8_init rfl rfl
theorem dX8_init_474 : decode cX8_init 474 = .ok (.bipush 111, 2) := dq_16 (v := 111) dp_cX8_init rfl rfl
theorem dX8_init_476 : decode cX8_init 476 = .ok (.iastore, 1) := dq_79 dp_cX8_init rfl
theorem dX8_init_477 : decode cX8_init 477 = .ok (.dup, 1) := dq_89 dp_cX8_init rfl
theorem dX8_init_478 : decode cX8_init 478 = .ok (.bipush 56, 2) := dq_16 (v := 56) dp_cX8_init rfl rfl
theorem dX8_init_480 : decode cX8_init 480 = .ok (.bipush 115, 2) := dq_16 (v := 115) dp_cX8_init rfl rfl
theorem dX8_init_482 : decode cX8_init 482 = .ok (.iastore, 1) := dq_79 dp_cX8_init rfl
theorem dX8_init_483 : decode cX8_init 483 = .ok (.dup, 1) := dq_89 dp_cX8_init rfl
theorem dX8_init_484 : decode cX8_init 484 = .ok (.bipush 57, 2) := dq_16 (v := 57) dp_cX8_init rfl rfl
theorem dX8_init_486 : decode cX8_init 486 = .ok (.bipush 116, 2) := dq_16 (v := 116) dp_cX8_init rfl rfl
theorem dX8_init_488 : decode cX8_init 488 = .ok (.iastore, 1) := dq_79 dp_cX8_init rfl
theorem dX8_init_489 : decode cX8_init 489 = .ok (.dup, 1) := dq_89 dp_cX8_init rfl
theorem dX8_init_490 : decode cX8_init 490 = .ok (.bipush 58, 2) := dq_16 (v := 58) dp_cX8_init rfl rfl
theorem dX8_init_492 : decode cX8_init 492 = .ok (.bipush 32, 2) := dq_16 (v := 32) dp_cX8_init rfl rfl
theorem dX8_init_494 : decode cX8_init 494 = .ok (.iastore, 1) := dq_79 dp_cX8_init rfl
theorem dX8_init_495 : decode cX8_init 495 = .ok (.dup, 1) := dq_89 dp_cX8_init rfl
theorem dX8_init_496 : decode cX8_init 496 = .ok (.bipush 59, 2) := dq_16 (v := 59) dp_cX8_init rfl rfl
theorem dX8_init_498 : decode cX8_init 498 = .ok (.iconst 0, 1) := dq_3 dp_cX8_init rfl
theorem dX8_init_499 : decode cX8_init 499 = .ok (.iastore, 1) := dq_79 dp_cX8_init rfl
theorem dX8_init_500 : decode cX8_init 500 = .ok (.dup, 1) := dq_89 dp_cX8_init rfl
theorem dX8_init_501 : decode cX8_init 501 = .ok (.bipush 60, 2) := dq_16 (v := 60) dp_cX8_init rfl rfl
theorem dX8_init_503 : decode cX8_init 503 = .ok (.bipush 97, 2) := dq_16 (v := 97) dp_cX8_init rfl rfl
theorem dX8_init_505 : decode cX8_init 505 = .ok (.iastore, 1) := dq_79 dp_cX8_init rfl
theorem dX8_init_506 : decode cX8_init 506 = .ok (.dup, 1) := dq_89 dp_cX8_init rfl
theorem dX8_init_507 : decode cX8_init 507 = .ok (.bipush 61, 2) := dq_16 (v := 61) dp_cX8_init rfl rfl
theorem dX8_init_509 : decode cX8_init 509 = .ok (.bipush 116, 2) := dq_16 (v := 116) dp_cX8_init rfl rfl
theorem dX8_init_511 : decode cX8_init 511 = .ok (.iastore, 1) := dq_79 dp_cX8_init rfl
theorem dX8_init_512 : decode cX8_init 512 = .ok (.dup, 1) := dq_89 dp_cX8_init rfl
theorem dX8_init_513 : decode cX8_init 513 = .ok (.bipush 62, 2) := dq_16 (v := 62) dp_cX8_init rfl rfl
theorem dX8_init_515 : decode cX8_init 515 = .ok (.bipush 32, 2) := dq_16 (v := 32) dp_cX8_init rfl rfl
theorem dX8_init_517 : decode cX8_init 517 = .ok (.iastore, 1) := dq_79 dp_cX8_init rfl
theorem dX8_init_518 : decode cX8_init 518 = .ok (.dup, 1) := dq_89 dp_cX8_init rfl
theorem dX8_init_519 : decode cX8_init 519 = .ok (.bipush 63, 2) := dq_16 (v := 63) dp_cX8_init rfl rfl
theorem dX8_init_521 : decode cX8_init 521 = .ok (.iconst 0, 1) := dq_3 dp_cX8_init rfl
theorem dX8_init_522 : decode cX8_init 522 = .ok (.iastore, 1) := dq_79 dp_cX8_init rfl
theorem dX8_init_523 : decode cX8_init 523 = .ok (.putfield 66, 3) := dq_181 dp_cX8_init rfl
theorem dX8_init_526 : decode cX8_init 526 = .ok (.aload_n 0, 1) := dq_42 dp_cX8_init rfl
theorem dX8_init_527 : decode cX8_init 527 = .ok (.bipush 10, 2) := dq_16 (v := 10) dp_cX8_init rfl rfl
theorem dX8_init_529 : decode cX8_init 529 = .ok (.newarray .int, 2) := dq_188_10 dp_cX8_init rfl
theorem dX8_init_531 : decode cX8_init 531 = .ok (.dup, 1) := dq_89 dp_cX8_init rfl
theorem dX8_init_532 : decode cX8_init 532 = .ok (.iconst 0, 1) := dq_3 dp_cX8_init rfl
theorem dX8_init_533 : decode cX8_init 533 = .ok (.iconst 1, 1) := dq_4 dp_cX8_init rfl
theorem dX8_init_534 : decode cX8_init 534 = .ok (.iastore, 1) := dq_79 dp_cX8_init rfl
theorem dX8_init_535 : decode cX8_init 535 = .ok (.dup, 1) := dq_89 dp_cX8_init rfl
theorem dX8_init_536 : decode cX8_init 536 = .ok (.iconst 1, 1) := dq_4 dp_cX8_init rfl
theorem dX8_init_537 : decode cX8_init 537 = .ok (.iconst 1, 1) := dq_4 dp_cX8_init rfl
theorem dX8_init_538 : decode cX8_init 538 = .ok (.iastore, 1) := dq_79 dp_cX8_init rfl
theorem dX8_init_539 : decode cX8_init 539 = .ok (.dup, 1) := dq_89 dp_cX8_init rfl
theorem dX8_init_540 : decode cX8_init 540 = .ok (.iconst 2, 1) := dq_5 dp_cX8_init rfl
theorem dX8_init_541 : decode cX8_init 541 = .ok (.iconst 2, 1) := dq_5 dp_cX8_init rfl
theorem dX8_init_542 : decode cX8_init 542 = .ok (.iastore, 1) := dq_79 dp_cX8_init rfl
theorem dX8_init_543 : decode cX8_init 543 = .ok (.dup, 1) := dq_89 dp_cX8_init rfl
theorem dX8_init_544 : decode cX8_init 544 = .ok (.iconst 3, 1) := dq_6 dp_cX8_init rfl
theorem dX8_init_545 : decode cX8_init 545 = .ok (.iconst 3, 1) := dq_6 dp_cX8_init rfl
theorem dX8_init_546 : decode cX8_init 546 = .ok (.iastore, 1) := dq_79 dp_cX8_init rfl
theorem dX8_init_547 : decode cX8_init 547 = .ok (.dup, 1) := dq_89 dp_cX8_init rfl
theorem dX8_init_548 : decode cX8_init 548 = .ok (.iconst 4, 1) := dq_7 dp_cX8_init rfl
theorem dX8_init_549 : decode cX8_init 549 = .ok (.iconst 1, 1) := dq_4 dp_cX8_init rfl
theorem dX8_init_550 : decode cX8_init 550 = .ok (.iastore, 1) := dq_79 dp_cX8_init rfl
theorem dX8_init_551 : decode cX8_init 551 = .ok (.dup, 1) := dq_89 dp_cX8_init rfl
theorem dX8_init_552 : decode cX8_init 552 = .ok (.iconst 5, 1) := dq_8 dp_cX8_init rfl
theorem dX8_init_553 : decode cX8_init 553 = .ok (.iconst 1, 1) := dq_4 dp_cX8_init rfl
theorem dX8_init_554 : decode cX8_init 554 = .ok (.iastore, 1) := dq_79 dp_cX8_init rfl
theorem dX8_init_555 : decode cX8_init 555 = .ok (.dup, 1) := dq_89 dp_cX8_init rfl
theorem dX8_init_556 : decode cX8_init 556 = .ok (.bipush 6, 2) := dq_16 (v := 6) dp_cX8_init rfl rfl
theorem dX8_init_558 : decode cX8_init 558 = .ok (.iconst 1, 1) := dq_4 dp_cX8_init rfl
theorem dX8_init_559 : decode cX8_init 559 = .ok (.iastore, 1) := dq_79 dp_cX8_init rfl
theorem dX8_init_560 : decode cX8_init 560 = .ok (.dup, 1) := dq_89 dp_cX8_init rfl
theorem dX8_init_561 : decode cX8_init 561 = .ok (.bipush 7, 2) := dq_16 (v := 7) dp_cX8_init rfl rfl
theorem dX8_init_563 : decode cX8_init 563 = .ok (.iconst 1, 1) := dq_4 dp_cX8_init rfl
theorem dX8_init_564 : decode cX8_init 564 = .ok (.iastore, 1) := dq_79 dp_cX8_init rfl
theorem dX8_init_565 : decode cX8_init 565 = .ok (.dup, 1) := dq_89 dp_cX8_init rfl
theorem dX8_init_566 : decode cX8_init 566 = .ok (.bipush 8, 2) := dq_16 (v := 8) dp_cX8_init rfl rfl
theorem dX8_init_568 : decode cX8_init 568 = .ok (.iconst 2, 1) := dq_5 dp_cX8_init rfl
theorem dX8_init_569 : decode cX8_init 569 = .ok (.iastore, 1) := dq_79 dp_cX8_init rfl
theorem dX8_init_570 : decode cX8_init 570 = .ok (.dup, 1) := dq_89 dp_cX8_init rfl
theorem dX8_init_571 : decode cX8_init 571 = .ok (.bipush 9, 2) := dq_16 (v := 9) dp_cX8_init rfl rfl
theorem dX8_init_573 : decode cX8_init 573 = .ok (.iconst 1, 1) := dq_4 dp_cX8_init rfl
theorem dX8_init_574 : decode cX8_init 574 = .ok (.iastore, 1) := dq_79 dp_cX8_init rfl
theorem dX8_init_575 : decode cX8_init 575 = .ok (.putfield 69, 3) := dq_181 dp_cX8_init rfl
theorem dX8_init_578 : decode cX8_init 578 = .ok (.aload_n 0, 1) := dq_42 dp_cX8_init rfl
theorem dX8_init_579 : decode cX8_init 579 = .ok (.iconst 3, 1) := dq_6 dp_cX8_init rfl
theorem dX8_init_580 : decode cX8_init 580 = .ok (.newarray .int, 2) := dq_188_10 dp_cX8_init rfl
theorem dX8_init_582 : decode cX8_init 582 = .ok (.putfield 72, 3) := dq_181 dp_cX8_init rfl
theorem dX8_init_585 : decode cX8_init 585 = .ok (.aload_n 0, 1) := dq_42 dp_cX8_init rfl
theorem dX8_init_586 : decode cX8_init 586 = .ok (.sipush 130, 3) := dq_17 (v := 130) dp_cX8_init rfl rfl
theorem dX8_init_589 : decode cX8_init 589 = .ok (.newarray .int, 2) := dq_188_10 dp_cX8_init rfl
theorem dX8_init_591 : decode cX8_init 591 = .ok (.putfield 75, 3) := dq_181 dp_cX8_init rfl
theorem dX8_init_594 : decode cX8_init 594 = .ok (.aload_n 0, 1) := dq_42 dp_cX8_init rfl
theorem dX8_init_595 : decode cX8_init 595 = .ok (.sipush 130, 3) := dq_17 (v := 130) dp_cX8_init rfl rfl
theorem dX8_init_598 : decode cX8_init 598 = .ok (.newarray .int, 2) := dq_188_10 dp_cX8_init rfl
theorem dX8_init_600 : decode cX8_init 600 = .ok (.putfield 78, 3) := dq_181 dp_cX8_init rfl
theorem dX8_init_603 : decode cX8_init 603 = .ok (.aload_n 0, 1) := dq_42 dp_cX8_init rfl
theorem dX8_init_604 : decode cX8_init 604 = .ok (.iconst 3, 1) := dq_6 dp_cX8_init rfl
theorem dX8_init_605 : decode cX8_init 605 = .ok (.newarray .int, 2) := dq_188_10 dp_cX8_init rfl
theorem dX8_init_607 : decode cX8_init 607 = .ok (.putfield 81, 3) := dq_181 dp_cX8_init rfl
theorem dX8_init_610 : decode cX8_init 610 = .ok (.aload_n 0, 1) := dq_42 dp_cX8_init rfl
theorem dX8_init_611 : decode cX8_init 611 = .ok (.iconst 3, 1) := dq_6 dp_cX8_init rfl
theorem dX8_init_612 : decode cX8_init 612 = .ok (.newarray .int, 2) := dq_188_10 dp_cX8_init rfl
theorem dX8_init_614 : decode cX8_init 614 = .ok (.putfield 84, 3) := dq_181 dp_cX8_init rfl
theorem dX8_init_617 : decode cX8_init 617 = .ok (.aload_n 0, 1) := dq_42 dp_cX8_init rfl
theorem dX8_init_618 : decode cX8_init 618 = .ok (.bipush 20, 2) := dq_16 (v := 20) dp_cX8_init rfl rfl
theorem dX8_init_620 : decode cX8_init 620 = .ok (.newarray .int, 2) := dq_188_10 dp_cX8_init rfl
theorem dX8_init_622 : decode cX8_init 622 = .ok (.putfield 87, 3) := dq_181 dp_cX8_init rfl
theorem dX8_init_625 : decode cX8_init 625 = .ok (.return_, 1) := dq_177 dp_cX8_init rfl
end
