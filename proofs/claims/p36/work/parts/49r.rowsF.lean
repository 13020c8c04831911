section
def wsX7_shelfAt : List Cond := (.code yX7_shelfAt cX7_shelfAt 2 (some (.object "TheLiningsInIt$Shelf"))) :: (.fieldLink RX7 11 "TheLiningsInIt" "shelves" "[LTheLiningsInIt$Shelf;") :: (.methodLink RX7 67 yX7_within) :: (.static yX7_within) :: (.initialized RX7) :: (.code yX7_within cX7_within 3 (some .boolean)) :: wsX70
def wsX7_refuse : List Cond := (.code yX7_refuse cX7_refuse 2 (some .int)) :: (.fieldLink RX7 46 "TheLiningsInIt" "refusals" "[I") :: (.methodLink RX7 67 yX7_within) :: (.static yX7_within) :: (.initialized RX7) :: (.code yX7_within cX7_within 3 (some .boolean)) :: wsX70
def wsX7_row_r1 : List Cond := (Cond.methodLink RX7 59 yX7_shelfAt) :: (Cond.instanceMethod yX7_shelfAt) :: (Cond.selects RX7 yX7_shelfAt yX7_shelfAt) :: (Cond.initialized RX7) :: (Cond.code yX7_shelfAt cX7_shelfAt 2 (some (.object "TheLiningsInIt$Shelf"))) :: (Cond.fieldLink RX7 11 "TheLiningsInIt" "shelves" "[LTheLiningsInIt$Shelf;") :: (Cond.methodLink RX7 67 yX7_within) :: (Cond.static yX7_within) :: (Cond.code yX7_within cX7_within 3 (some .boolean)) :: (Cond.methodLink RX7 63 yX7_refuse) :: (Cond.instanceMethod yX7_refuse) :: (Cond.selects RX7 yX7_refuse yX7_refuse) :: (Cond.code yX7_refuse cX7_refuse 2 (some .int)) :: (Cond.fieldLink RX7 46 "TheLiningsInIt" "refusals" "[I") :: (Cond.methodLink RX7 71 yX4_holdRow) :: (Cond.instanceMethod yX4_holdRow) :: (Cond.selects RX4 yX4_holdRow yX4_holdRow) :: (Cond.initialized RX4) :: (Cond.code yX4_holdRow cX4_holdRow 3 none) :: (Cond.fieldLink RX4 15 "TheLiningsInIt$Shelf" "held" "I") :: (Cond.fieldLink RX4 19 "TheLiningsInIt$Shelf" "size" "I") :: (Cond.fieldLink RX4 9 "TheLiningsInIt$Shelf" "elements" "[J") :: (Cond.methodLink RX4 22 yJ7_fill_d0a16) :: (Cond.static yJ7_fill_d0a16) :: []
def wsX7_row_r2 : List Cond := (Cond.initialized RJ7) :: (Cond.code yJ7_fill_d0a16 cJ7_fill_d0a16 5 none) :: []
def wsX7_row : List Cond := (.code yX7_row cX7_row 5 (some .int)) :: ((wsX7_row_r1 ++ wsX7_row_r2) ++ wsX70 ++ wsX40)
def wsX7_set_r1 : List Cond := (Cond.methodLink RX7 59 yX7_shelfAt) :: (Cond.instanceMethod yX7_shelfAt) :: (Cond.selects RX7 yX7_shelfAt yX7_shelfAt) :: (Cond.initialized RX7) :: (Cond.code yX7_shelfAt cX7_shelfAt 2 (some (.object "TheLiningsInIt$Shelf"))) :: (Cond.fieldLink RX7 11 "TheLiningsInIt" "shelves" "[LTheLiningsInIt$Shelf;") :: (Cond.methodLink RX7 67 yX7_within) :: (Cond.static yX7_within) :: (Cond.code yX7_within cX7_within 3 (some .boolean)) :: (Cond.methodLink RX7 63 yX7_refuse) :: (Cond.instanceMethod yX7_refuse) :: (Cond.selects RX7 yX7_refuse yX7_refuse) :: (Cond.code yX7_refuse cX7_refuse 2 (some .int)) :: (Cond.fieldLink RX7 46 "TheLiningsInIt" "refusals" "[I") :: (Cond.methodLink RX7 75 yX4_noRow) :: (Cond.instanceMethod yX4_noRow) :: (Cond.selects RX4 yX4_noRow yX4_noRow) :: (Cond.initialized RX4) :: (Cond.code yX4_noRow cX4_noRow 1 (some .int)) :: (Cond.fieldLink RX4 15 "TheLiningsInIt$Shelf" "held" "I") :: (Cond.methodLink RX7 79 yX4_hasSpan) :: (Cond.instanceMethod yX4_hasSpan) :: (Cond.selects RX4 yX4_hasSpan yX4_hasSpan) :: (Cond.code yX4_hasSpan cX4_hasSpan 3 (some .boolean)) :: []
def wsX7_set_r2 : List Cond := (Cond.fieldLink RX4 19 "TheLiningsInIt$Shelf" "size" "I") :: (Cond.methodLink RX7 83 yX4_put) :: (Cond.instanceMethod yX4_put) :: (Cond.selects RX4 yX4_put yX4_put) :: (Cond.code yX4_put cX4_put 4 none) :: (Cond.fieldLink RX4 9 "TheLiningsInIt$Shelf" "elements" "[J") :: []
def wsX7_set : List Cond := (.code yX7_set cX7_set 7 (some .int)) :: ((wsX7_set_r1 ++ wsX7_set_r2) ++ wsX70 ++ wsX40)
def wsX7_copy_r1 : List Cond := (Cond.fieldLink RX7 87 "TheLiningsInIt$Shelf" "held" "I") :: (Cond.fieldLink RX7 90 "TheLiningsInIt$Shelf" "elements" "[J") :: (Cond.methodLink RX7 94 arraycopyName) :: (Cond.native arraycopyName) :: (Cond.static arraycopyName) :: (Cond.initialized "java/lang/System") :: (Cond.methodLink RX7 59 yX7_shelfAt) :: (Cond.instanceMethod yX7_shelfAt) :: (Cond.selects RX7 yX7_shelfAt yX7_shelfAt) :: (Cond.initialized RX7) :: (Cond.code yX7_shelfAt cX7_shelfAt 2 (some (.object "TheLiningsInIt$Shelf"))) :: (Cond.fieldLink RX7 11 "TheLiningsInIt" "shelves" "[LTheLiningsInIt$Shelf;") :: (Cond.methodLink RX7 67 yX7_within) :: (Cond.static yX7_within) :: (Cond.code yX7_within cX7_within 3 (some .boolean)) :: (Cond.methodLink RX7 63 yX7_refuse) :: (Cond.instanceMethod yX7_refuse) :: (Cond.selects RX7 yX7_refuse yX7_refuse) :: (Cond.code yX7_refuse cX7_refuse 2 (some .int)) :: (Cond.fieldLink RX7 46 "TheLiningsInIt" "refusals" "[I") :: (Cond.methodLink RX7 75 yX4_noRow) :: (Cond.instanceMethod yX4_noRow) :: (Cond.selects RX4 yX4_noRow yX4_noRow) :: (Cond.initialized RX4) :: []
def wsX7_copy_r2 : List Cond := (Cond.code yX4_noRow cX4_noRow 1 (some .int)) :: (Cond.fieldLink RX4 15 "TheLiningsInIt$Shelf" "held" "I") :: (Cond.methodLink RX7 79 yX4_hasSpan) :: (Cond.instanceMethod yX4_hasSpan) :: (Cond.selects RX4 yX4_hasSpan yX4_hasSpan) :: (Cond.code yX4_hasSpan cX4_hasSpan 3 (some .boolean)) :: (Cond.fieldLink RX4 19 "TheLiningsInIt$Shelf" "size" "I") :: []
def wsX7_copy : List Cond := (.code yX7_copy cX7_copy 11 (some .int)) :: ((wsX7_copy_r1 ++ wsX7_copy_r2) ++ wsX40 ++ wsX70)
def wsX7_element : List Cond := (.code yX7_element cX7_element 4 (some .long)) :: (.fieldLink RX7 90 "TheLiningsInIt$Shelf" "elements" "[J") :: (.methodLink RX7 59 yX7_shelfAt) :: (.instanceMethod yX7_shelfAt) :: (.selects RX7 yX7_shelfAt yX7_shelfAt) :: (.initialized RX7) :: (.code yX7_shelfAt cX7_shelfAt 2 (some (.object "TheLiningsInIt$Shelf"))) :: (.fieldLink RX7 11 "TheLiningsInIt" "shelves" "[LTheLiningsInIt$Shelf;") :: (.methodLink RX7 67 yX7_within) :: (.static yX7_within) :: (.code yX7_within cX7_within 3 (some .boolean)) :: (.methodLink RX7 75 yX4_noRow) :: (.instanceMethod yX4_noRow) :: (.selects RX4 yX4_noRow yX4_noRow) :: (.initialized RX4) :: (.code yX4_noRow cX4_noRow 1 (some .int)) :: (.fieldLink RX4 15 "TheLiningsInIt$Shelf" "held" "I") :: (.methodLink RX7 79 yX4_hasSpan) :: (.instanceMethod yX4_hasSpan) :: (.selects RX4 yX4_hasSpan yX4_hasSpan) :: (.code yX4_hasSpan cX4_hasSpan 3 (some .boolean)) :: (.fieldLink RX4 19 "TheLiningsInIt$Shelf" "size" "I") :: (wsX40 ++ wsX70)
def wsX7_show : List Cond := (.code yX7_show cX7_show 4 (some .int)) :: (.fieldLink RX7 18 "TheLiningsInIt" "now" "LTheLiningsInIt$Jacket;") :: (.fieldLink RX7 87 "TheLiningsInIt$Shelf" "held" "I") :: (.methodLink RX7 59 yX7_shelfAt) :: (.instanceMethod yX7_shelfAt) :: (.selects RX7 yX7_shelfAt yX7_shelfAt) :: (.initialized RX7) :: (.code yX7_shelfAt cX7_shelfAt 2 (some (.object "TheLiningsInIt$Shelf"))) :: (.fieldLink RX7 11 "TheLiningsInIt" "shelves" "[LTheLiningsInIt$Shelf;") :: (.methodLink RX7 67 yX7_within) :: (.static yX7_within) :: (.code yX7_within cX7_within 3 (some .boolean)) :: (.methodLink RX7 100 yX0_pullAt) :: (.instanceMethod yX0_pullAt) :: (.selects RX0 yX0_pullAt yX0_pullAt) :: (.initialized RX0) :: (.code yX0_pullAt cX0_pullAt 2 (some (.object "TheLiningsInIt$Pull"))) :: (.fieldLink RX0 28 "TheLiningsInIt$Jacket" "pullCount" "I") :: (.fieldLink RX0 20 "TheLiningsInIt$Jacket" "pulls" "[LTheLiningsInIt$Pull;") :: (.methodLink RX7 63 yX7_refuse) :: (.instanceMethod yX7_refuse) :: (.selects RX7 yX7_refuse yX7_refuse) :: (.code yX7_refuse cX7_refuse 2 (some .int)) :: (.fieldLink RX7 46 "TheLiningsInIt" "refusals" "[I") :: (wsX70 ++ wsX40 ++ wsX00)
def wsX7_holds : List Cond := (.code yX7_holds cX7_holds 3 (some .int)) :: (.fieldLink RX7 87 "TheLiningsInIt$Shelf" "held" "I") :: (.methodLink RX7 59 yX7_shelfAt) :: (.instanceMethod yX7_shelfAt) :: (.selects RX7 yX7_shelfAt yX7_shelfAt) :: (.initialized RX7) :: (.code yX7_shelfAt cX7_shelfAt 2 (some (.object "TheLiningsInIt$Shelf"))) :: (.fieldLink RX7 11 "TheLiningsInIt" "shelves" "[LTheLiningsInIt$Shelf;") :: (.methodLink RX7 67 yX7_within) :: (.static yX7_within) :: (.code yX7_within cX7_within 3 (some .boolean)) :: (wsX40 ++ wsX70)
def wsX7_says_r1 : List Cond := (Cond.fieldLink RX7 87 "TheLiningsInIt$Shelf" "held" "I") :: (Cond.fieldLink RX7 18 "TheLiningsInIt" "now" "LTheLiningsInIt$Jacket;") :: (Cond.fieldLink RX7 110 "TheLiningsInIt$Pull" "takes" "I") :: (Cond.fieldLink RX7 116 "TheLiningsInIt$Jacket" "hurry" "I") :: (Cond.methodLink RX7 59 yX7_shelfAt) :: (Cond.instanceMethod yX7_shelfAt) :: (Cond.selects RX7 yX7_shelfAt yX7_shelfAt) :: (Cond.initialized RX7) :: (Cond.code yX7_shelfAt cX7_shelfAt 2 (some (.object "TheLiningsInIt$Shelf"))) :: (Cond.fieldLink RX7 11 "TheLiningsInIt" "shelves" "[LTheLiningsInIt$Shelf;") :: (Cond.methodLink RX7 67 yX7_within) :: (Cond.static yX7_within) :: (Cond.code yX7_within cX7_within 3 (some .boolean)) :: (Cond.methodLink RX7 63 yX7_refuse) :: (Cond.instanceMethod yX7_refuse) :: (Cond.selects RX7 yX7_refuse yX7_refuse) :: (Cond.code yX7_refuse cX7_refuse 2 (some .int)) :: (Cond.fieldLink RX7 46 "TheLiningsInIt" "refusals" "[I") :: (Cond.methodLink RX7 100 yX0_pullAt) :: (Cond.instanceMethod yX0_pullAt) :: (Cond.selects RX0 yX0_pullAt yX0_pullAt) :: (Cond.initialized RX0) :: (Cond.code yX0_pullAt cX0_pullAt 2 (some (.object "TheLiningsInIt$Pull"))) :: (Cond.fieldLink RX0 28 "TheLiningsInIt$Jacket" "pullCount" "I") :: []
def wsX7_says_r2 : List Cond := (Cond.fieldLink RX0 20 "TheLiningsInIt$Jacket" "pulls" "[LTheLiningsInIt$Pull;") :: (Cond.methodLink RX7 104 yX2_isOf) :: (Cond.instanceMethod yX2_isOf) :: (Cond.selects RX2 yX2_isOf yX2_isOf) :: (Cond.initialized RX2) :: (Cond.code yX2_isOf cX2_isOf 4 (some .boolean)) :: (Cond.fieldLink RX2 9 "TheLiningsInIt$Pull" "kind" "I") :: (Cond.methodLink RX7 113 yX2_step) :: (Cond.instanceMethod yX2_step) :: (Cond.selects RX2 yX2_step yX2_step) :: (Cond.code yX2_step cX2_step 1 (some .int)) :: (Cond.fieldLink RX2 15 "TheLiningsInIt$Pull" "a" "I") :: (Cond.methodLink RX7 119 yX2_waysAt) :: (Cond.instanceMethod yX2_waysAt) :: (Cond.selects RX2 yX2_waysAt yX2_waysAt) :: (Cond.code yX2_waysAt cX2_waysAt 3 (some .int)) :: (Cond.methodLink RX2 33 Lib.Math.min.name) :: (Cond.static Lib.Math.min.name) :: (Cond.initialized "java/lang/Math") :: (Cond.code Lib.Math.min.name Lib.Math.min.code 2 (some .int)) :: (Cond.methodLink RX2 39 Lib.Math.max.name) :: (Cond.static Lib.Math.max.name) :: (Cond.code Lib.Math.max.name Lib.Math.max.code 2 (some .int)) :: (Cond.methodLink RX2 29 yX2_calmWaysAt) :: []
def wsX7_says_r3 : List Cond := (Cond.instanceMethod yX2_calmWaysAt) :: (Cond.selects RX2 yX2_calmWaysAt yX2_calmWaysAt) :: (Cond.code yX2_calmWaysAt cX2_calmWaysAt 2 (some .int)) :: []
def wsX7_says : List Cond := (.code yX7_says cX7_says 5 (some .int)) :: ((wsX7_says_r1 ++ (wsX7_says_r2 ++ wsX7_says_r3)) ++ wsX40 ++ wsX70 ++ wsX20 ++ wsX00)
def wsX7_pull_r1 : List Cond := (Cond.fieldLink RX7 18 "TheLiningsInIt" "now" "LTheLiningsInIt$Jacket;") :: (Cond.fieldLink RX7 123 "TheLiningsInIt$Jacket" "pullCount" "I") :: (Cond.methodLink RX7 67 yX7_within) :: (Cond.static yX7_within) :: (Cond.initialized RX7) :: (Cond.code yX7_within cX7_within 3 (some .boolean)) :: (Cond.methodLink RX7 63 yX7_refuse) :: (Cond.instanceMethod yX7_refuse) :: (Cond.selects RX7 yX7_refuse yX7_refuse) :: (Cond.code yX7_refuse cX7_refuse 2 (some .int)) :: (Cond.fieldLink RX7 46 "TheLiningsInIt" "refusals" "[I") :: (Cond.methodLink RX7 126 yX0_addPull) :: (Cond.instanceMethod yX0_addPull) :: (Cond.selects RX0 yX0_addPull yX0_addPull) :: (Cond.initialized RX0) :: (Cond.code yX0_addPull cX0_addPull 4 (some .int)) :: (Cond.fieldLink RX0 28 "TheLiningsInIt$Jacket" "pullCount" "I") :: (Cond.fieldLink RX0 20 "TheLiningsInIt$Jacket" "pulls" "[LTheLiningsInIt$Pull;") :: (Cond.classLink RX0 18 RX2) :: (Cond.instantiable RX2 3) :: (Cond.initialized RX2) :: (Cond.methodLink RX0 70 yX2_init) :: (Cond.instanceMethod yX2_init) :: (Cond.code yX2_init cX2_init 4 none) :: []
def wsX7_pull_r2 : List Cond := (Cond.methodLink RX2 3 objectInit) :: (Cond.instanceMethod objectInit) :: (Cond.code objectInit ⟨#[0xb1]⟩ 1 none) :: (Cond.fieldLink RX2 9 "TheLiningsInIt$Pull" "kind" "I") :: (Cond.fieldLink RX2 15 "TheLiningsInIt$Pull" "a" "I") :: (Cond.fieldLink RX2 18 "TheLiningsInIt$Pull" "takes" "I") :: []
def wsX7_pull : List Cond := (.code yX7_pull cX7_pull 4 (some .int)) :: ((wsX7_pull_r1 ++ wsX7_pull_r2) ++ wsX70 ++ wsX00 ++ wsX20)
def wsX7_pullOf_r1 : List Cond := (Cond.fieldLink RX7 18 "TheLiningsInIt" "now" "LTheLiningsInIt$Jacket;") :: (Cond.fieldLink RX7 130 "TheLiningsInIt$Pull" "kind" "I") :: (Cond.fieldLink RX7 133 "TheLiningsInIt$Pull" "a" "I") :: (Cond.fieldLink RX7 110 "TheLiningsInIt$Pull" "takes" "I") :: (Cond.methodLink RX7 100 yX0_pullAt) :: (Cond.instanceMethod yX0_pullAt) :: (Cond.selects RX0 yX0_pullAt yX0_pullAt) :: (Cond.initialized RX0) :: (Cond.code yX0_pullAt cX0_pullAt 2 (some (.object "TheLiningsInIt$Pull"))) :: (Cond.fieldLink RX0 28 "TheLiningsInIt$Jacket" "pullCount" "I") :: (Cond.fieldLink RX0 20 "TheLiningsInIt$Jacket" "pulls" "[LTheLiningsInIt$Pull;") :: (Cond.static yX7_within) :: (Cond.initialized RX7) :: (Cond.code yX7_within cX7_within 3 (some .boolean)) :: (Cond.methodLink RX7 63 yX7_refuse) :: (Cond.instanceMethod yX7_refuse) :: (Cond.selects RX7 yX7_refuse yX7_refuse) :: (Cond.code yX7_refuse cX7_refuse 2 (some .int)) :: (Cond.fieldLink RX7 46 "TheLiningsInIt" "refusals" "[I") :: (Cond.methodLink RX7 67 yX7_within) :: (Cond.methodLink RX7 113 yX2_step) :: (Cond.instanceMethod yX2_step) :: (Cond.selects RX2 yX2_step yX2_step) :: (Cond.initialized RX2) :: []
def wsX7_pullOf_r2 : List Cond := (Cond.code yX2_step cX2_step 1 (some .int)) :: (Cond.fieldLink RX2 9 "TheLiningsInIt$Pull" "kind" "I") :: (Cond.fieldLink RX2 15 "TheLiningsInIt$Pull" "a" "I") :: (Cond.methodLink RX7 136 yX0_mayBe) :: (Cond.instanceMethod yX0_mayBe) :: (Cond.selects RX0 yX0_mayBe yX0_mayBe) :: (Cond.code yX0_mayBe cX0_mayBe 2 (some .boolean)) :: (Cond.fieldLink RX0 32 "TheLiningsInIt$Jacket" "depth" "I") :: (Cond.fieldLink RX0 38 "TheLiningsInIt$Jacket" "seconds" "I") :: (Cond.methodLink RX0 73 yX2_mayBe) :: (Cond.instanceMethod yX2_mayBe) :: (Cond.selects RX2 yX2_mayBe yX2_mayBe) :: (Cond.code yX2_mayBe cX2_mayBe 3 (some .boolean)) :: (Cond.fieldLink RX2 18 "TheLiningsInIt$Pull" "takes" "I") :: []
def wsX7_pullOf : List Cond := (.code yX7_pullOf cX7_pullOf 4 (some .int)) :: ((wsX7_pullOf_r1 ++ wsX7_pullOf_r2) ++ wsX70 ++ wsX20 ++ wsX00)
def wsX7_teeth : List Cond := (.code yX7_teeth cX7_teeth 3 (some .int)) :: (.fieldLink RX7 18 "TheLiningsInIt" "now" "LTheLiningsInIt$Jacket;") :: (.fieldLink RX7 140 "TheLiningsInIt$Jacket" "zip" "LTheLiningsInIt$Zip;") :: (.fieldLink RX7 144 "TheLiningsInIt$Zip" "size" "I") :: (.methodLink RX7 67 yX7_within) :: (.static yX7_within) :: (.initialized RX7) :: (.code yX7_within cX7_within 3 (some .boolean)) :: (.methodLink RX7 63 yX7_refuse) :: (.instanceMethod yX7_refuse) :: (.selects RX7 yX7_refuse yX7_refuse) :: (.code yX7_refuse cX7_refuse 2 (some .int)) :: (.fieldLink RX7 46 "TheLiningsInIt" "refusals" "[I") :: (.methodLink RX7 149 yX6_renew) :: (.instanceMethod yX6_renew) :: (.selects RX6 yX6_renew yX6_renew) :: (.initialized RX6) :: (.code yX6_renew cX6_renew 3 none) :: (.fieldLink RX6 19 "TheLiningsInIt$Zip" "size" "I") :: (.fieldLink RX6 23 "TheLiningsInIt$Zip" "at" "I") :: (.fieldLink RX6 9 "TheLiningsInIt$Zip" "lacking" "[Z") :: (.fieldLink RX6 15 "TheLiningsInIt$Zip" "slacks" "[I") :: (wsX70 ++ wsX00 ++ wsX60)
def wsX7_lack : List Cond := (.code yX7_lack cX7_lack 4 (some .int)) :: (.fieldLink RX7 18 "TheLiningsInIt" "now" "LTheLiningsInIt$Jacket;") :: (.fieldLink RX7 140 "TheLiningsInIt$Jacket" "zip" "LTheLiningsInIt$Zip;") :: (.fieldLink RX7 156 "TheLiningsInIt$Zip" "lacking" "[Z") :: (.methodLink RX7 153 yX6_has) :: (.instanceMethod yX6_has) :: (.selects RX6 yX6_has yX6_has) :: (.initialized RX6) :: (.code yX6_has cX6_has 2 (some .boolean)) :: (.fieldLink RX6 19 "TheLiningsInIt$Zip" "size" "I") :: (.methodLink RX7 63 yX7_refuse) :: (.instanceMethod yX7_refuse) :: (.selects RX7 yX7_refuse yX7_refuse) :: (.initialized RX7) :: (.code yX7_refuse cX7_refuse 2 (some .int)) :: (.fieldLink RX7 46 "TheLiningsInIt" "refusals" "[I") :: (.methodLink RX7 67 yX7_within) :: (.static yX7_within) :: (.code yX7_within cX7_within 3 (some .boolean)) :: (wsX70 ++ wsX00 ++ wsX60)
def wsX7_slack : List Cond := (.code yX7_slack cX7_slack 4 (some .int)) :: (.fieldLink RX7 18 "TheLiningsInIt" "now" "LTheLiningsInIt$Jacket;") :: (.fieldLink RX7 140 "TheLiningsInIt$Jacket" "zip" "LTheLiningsInIt$Zip;") :: (.fieldLink RX7 160 "TheLiningsInIt$Zip" "slacks" "[I") :: (.methodLink RX7 153 yX6_has) :: (.instanceMethod yX6_has) :: (.selects RX6 yX6_has yX6_has) :: (.initialized RX6) :: (.code yX6_has cX6_has 2 (some .boolean)) :: (.fieldLink RX6 19 "TheLiningsInIt$Zip" "size" "I") :: (.methodLink RX7 63 yX7_refuse) :: (.instanceMethod yX7_refuse) :: (.selects RX7 yX7_refuse yX7_refuse) :: (.initialized RX7) :: (.code yX7_refuse cX7_refuse 2 (some .int)) :: (.fieldLink RX7 46 "TheLiningsInIt" "refusals" "[I") :: (.methodLink RX7 67 yX7_within) :: (.static yX7_within) :: (.code yX7_within cX7_within 3 (some .boolean)) :: (wsX70 ++ wsX00 ++ wsX60)
def wsX7_ask_r1 : List Cond := (Cond.fieldLink RX7 18 "TheLiningsInIt" "now" "LTheLiningsInIt$Jacket;") :: (Cond.methodLink RX7 67 yX7_within) :: (Cond.static yX7_within) :: (Cond.initialized RX7) :: (Cond.code yX7_within cX7_within 3 (some .boolean)) :: (Cond.methodLink RX7 163 yX0_leastOf) :: (Cond.static yX0_leastOf) :: (Cond.initialized RX0) :: (Cond.code yX0_leastOf cX0_leastOf 1 (some .int)) :: (Cond.methodLink RX7 166 yX0_mostOf) :: (Cond.instanceMethod yX0_mostOf) :: (Cond.selects RX0 yX0_mostOf yX0_mostOf) :: (Cond.code yX0_mostOf cX0_mostOf 2 (some .int)) :: (Cond.fieldLink RX0 12 "TheLiningsInIt$Jacket" "zip" "LTheLiningsInIt$Zip;") :: (Cond.fieldLink RX0 57 "TheLiningsInIt$Zip" "size" "I") :: (Cond.methodLink RX7 63 yX7_refuse) :: (Cond.instanceMethod yX7_refuse) :: (Cond.selects RX7 yX7_refuse yX7_refuse) :: (Cond.code yX7_refuse cX7_refuse 2 (some .int)) :: (Cond.fieldLink RX7 46 "TheLiningsInIt" "refusals" "[I") :: (Cond.methodLink RX7 169 yX0_number) :: (Cond.instanceMethod yX0_number) :: (Cond.selects RX0 yX0_number yX0_number) :: (Cond.code yX0_number cX0_number 2 (some .int)) :: []
def wsX7_ask_r2 : List Cond := (Cond.fieldLink RX0 32 "TheLiningsInIt$Jacket" "depth" "I") :: (Cond.fieldLink RX0 38 "TheLiningsInIt$Jacket" "seconds" "I") :: (Cond.fieldLink RX0 41 "TheLiningsInIt$Jacket" "hurry" "I") :: (Cond.fieldLink RX0 60 "TheLiningsInIt$Zip" "gap" "I") :: (Cond.fieldLink RX0 63 "TheLiningsInIt$Zip" "at" "I") :: (Cond.fieldLink RX0 24 "TheLiningsInIt$Jacket" "costs" "[I") :: (Cond.methodLink RX7 172 yX0_setNumber) :: (Cond.instanceMethod yX0_setNumber) :: (Cond.selects RX0 yX0_setNumber yX0_setNumber) :: (Cond.code yX0_setNumber cX0_setNumber 3 none) :: []
def wsX7_ask : List Cond := (.code yX7_ask cX7_ask 4 (some .int)) :: ((wsX7_ask_r1 ++ wsX7_ask_r2) ++ wsX70 ++ wsX00 ++ wsX60)
def wsX7_jacket_r1 : List Cond := (Cond.fieldLink RX7 35 "TheLiningsInIt" "reader" "LTheLiningsInIt$Reader;") :: (Cond.fieldLink RX7 18 "TheLiningsInIt" "now" "LTheLiningsInIt$Jacket;") :: (Cond.fieldLink RX7 140 "TheLiningsInIt$Jacket" "zip" "LTheLiningsInIt$Zip;") :: (Cond.fieldLink RX7 144 "TheLiningsInIt$Zip" "size" "I") :: (Cond.fieldLink RX7 123 "TheLiningsInIt$Jacket" "pullCount" "I") :: (Cond.fieldLink RX7 54 "TheLiningsInIt" "latestFault" "I") :: (Cond.fieldLink RX7 183 "TheLiningsInIt$Reader" "count" "I") :: (Cond.methodLink RX7 59 yX7_shelfAt) :: (Cond.instanceMethod yX7_shelfAt) :: (Cond.selects RX7 yX7_shelfAt yX7_shelfAt) :: (Cond.initialized RX7) :: (Cond.code yX7_shelfAt cX7_shelfAt 2 (some (.object "TheLiningsInIt$Shelf"))) :: (Cond.fieldLink RX7 11 "TheLiningsInIt" "shelves" "[LTheLiningsInIt$Shelf;") :: (Cond.methodLink RX7 67 yX7_within) :: (Cond.static yX7_within) :: (Cond.code yX7_within cX7_within 3 (some .boolean)) :: (Cond.methodLink RX7 63 yX7_refuse) :: (Cond.instanceMethod yX7_refuse) :: (Cond.selects RX7 yX7_refuse yX7_refuse) :: (Cond.code yX7_refuse cX7_refuse 2 (some .int)) :: (Cond.fieldLink RX7 46 "TheLiningsInIt" "refusals" "[I") :: (Cond.methodLink RX7 75 yX4_noRow) :: (Cond.instanceMethod yX4_noRow) :: (Cond.selects RX4 yX4_noRow yX4_noRow) :: []
def wsX7_jacket_r2 : List Cond := (Cond.initialized RX4) :: (Cond.code yX4_noRow cX4_noRow 1 (some .int)) :: (Cond.fieldLink RX4 15 "TheLiningsInIt$Shelf" "held" "I") :: (Cond.methodLink RX7 175 yX3_read) :: (Cond.instanceMethod yX3_read) :: (Cond.selects RX3 yX3_read yX3_read) :: (Cond.initialized RX3) :: (Cond.code yX3_read cX3_read 5 (some .int)) :: (Cond.fieldLink RX3 31 "TheLiningsInIt$Reader" "teeth" "I") :: (Cond.fieldLink RX3 34 "TheLiningsInIt$Reader" "pulls" "I") :: (Cond.fieldLink RX3 25 "TheLiningsInIt$Reader" "place" "I") :: (Cond.fieldLink RX3 28 "TheLiningsInIt$Reader" "fault" "I") :: (Cond.fieldLink RX3 22 "TheLiningsInIt$Reader" "count" "I") :: (Cond.fieldLink RX3 18 "TheLiningsInIt$Reader" "size" "I") :: (Cond.methodLink RX3 37 yX3_takeLetters) :: (Cond.instanceMethod yX3_takeLetters) :: (Cond.selects RX3 yX3_takeLetters yX3_takeLetters) :: (Cond.code yX3_takeLetters cX3_takeLetters 3 none) :: (Cond.fieldLink RX3 49 "TheLiningsInIt$Shelf" "size" "I") :: (Cond.methodLink RX3 52 Lib.Math.min.name) :: (Cond.static Lib.Math.min.name) :: (Cond.initialized "java/lang/Math") :: (Cond.code Lib.Math.min.name Lib.Math.min.code 2 (some .int)) :: (Cond.fieldLink RX3 15 "TheLiningsInIt$Reader" "letters" "[I") :: []
def wsX7_jacket_r3 : List Cond := (Cond.methodLink RX3 58 yX4_tells) :: (Cond.instanceMethod yX4_tells) :: (Cond.selects RX4 yX4_tells yX4_tells) :: (Cond.code yX4_tells cX4_tells 2 (some .int)) :: (Cond.fieldLink RX4 9 "TheLiningsInIt$Shelf" "elements" "[J") :: (Cond.methodLink RX4 36 yX4_hasSpan) :: (Cond.instanceMethod yX4_hasSpan) :: (Cond.selects RX4 yX4_hasSpan yX4_hasSpan) :: (Cond.code yX4_hasSpan cX4_hasSpan 3 (some .boolean)) :: (Cond.fieldLink RX4 19 "TheLiningsInIt$Shelf" "size" "I") :: (Cond.methodLink RX3 41 yX3_readItem) :: (Cond.instanceMethod yX3_readItem) :: (Cond.selects RX3 yX3_readItem yX3_readItem) :: (Cond.code yX3_readItem cX3_readItem 4 none) :: (Cond.fieldLink RX3 11 "TheLiningsInIt$Reader" "items" "[I") :: (Cond.methodLink RX3 62 yX3_readWord) :: (Cond.instanceMethod yX3_readWord) :: (Cond.selects RX3 yX3_readWord yX3_readWord) :: (Cond.code yX3_readWord cX3_readWord 5 (some .int)) :: (Cond.methodLink RX3 98 Lib.Math.max.name) :: (Cond.static Lib.Math.max.name) :: (Cond.code Lib.Math.max.name Lib.Math.max.code 2 (some .int)) :: (Cond.methodLink RX3 82 yX3_wordAt) :: (Cond.static yX3_wordAt) :: []
def wsX7_jacket_r4 : List Cond := (Cond.code yX3_wordAt cX3_wordAt 1 (some (.object "java/lang/String"))) :: (Cond.methodLink RX3 86 yX3_lettersStanding) :: (Cond.instanceMethod yX3_lettersStanding) :: (Cond.selects RX3 yX3_lettersStanding yX3_lettersStanding) :: (Cond.code yX3_lettersStanding cX3_lettersStanding 3 (some .int)) :: (Cond.methodLink RX3 90 yJ0_length_8abf5) :: (Cond.instanceMethod yJ0_length_8abf5) :: (Cond.selects RJ0 yJ0_length_8abf5 yJ0_length_8abf5) :: (Cond.initialized RJ0) :: (Cond.code yJ0_length_8abf5 cJ0_length_8abf5 1 (some .int)) :: (Cond.fieldLink RJ0 9 "java/lang/String" "value" "[B") :: (Cond.methodLink RJ0 335 yJ0_coder_7d493) :: (Cond.instanceMethod yJ0_coder_7d493) :: (Cond.selects RJ0 yJ0_coder_7d493 yJ0_coder_7d493) :: (Cond.code yJ0_coder_7d493 cJ0_coder_7d493 1 (some .byte)) :: (Cond.fieldLink RJ0 38 "java/lang/String" "COMPACT_STRINGS" "Z") :: (Cond.fieldLink RJ0 15 "java/lang/String" "coder" "B") :: (Cond.methodLink RX3 101 yJ0_charAt_5068e) :: (Cond.instanceMethod yJ0_charAt_5068e) :: (Cond.selects RJ0 yJ0_charAt_5068e yJ0_charAt_5068e) :: (Cond.code yJ0_charAt_5068e cJ0_charAt_5068e 2 (some .char)) :: (Cond.methodLink RJ0 492 yJ0_isLatin1_aae02) :: (Cond.instanceMethod yJ0_isLatin1_aae02) :: (Cond.selects RJ0 yJ0_isLatin1_aae02 yJ0_isLatin1_aae02) :: []
def wsX7_jacket_r5 : List Cond := (Cond.code yJ0_isLatin1_aae02 cJ0_isLatin1_aae02 1 (some .boolean)) :: (Cond.methodLink RJ0 495 yJ1_charAt_3b067) :: (Cond.static yJ1_charAt_3b067) :: (Cond.initialized RJ1) :: (Cond.code yJ1_charAt_3b067 cJ1_charAt_3b067 2 (some .char)) :: (Cond.methodLink RJ1 9 yJ0_checkIndex_df160) :: (Cond.static yJ0_checkIndex_df160) :: (Cond.code yJ0_checkIndex_df160 cJ0_checkIndex_df160 2 none) :: (Cond.fieldLink RJ0 1053 "jdk/internal/util/Preconditions" "SIOOBE_FORMATTER" "Ljava/util/function/BiFunction;") :: (Cond.methodLink RJ0 1059 yJ3_checkIndex_8e157) :: (Cond.static yJ3_checkIndex_8e157) :: (Cond.initialized RJ3) :: (Cond.code yJ3_checkIndex_8e157 cJ3_checkIndex_8e157 3 (some .int)) :: (Cond.methodLink RJ0 498 yJ2_charAt_3b067) :: (Cond.static yJ2_charAt_3b067) :: (Cond.initialized RJ2) :: (Cond.code yJ2_charAt_3b067 cJ2_charAt_3b067 2 (some .char)) :: (Cond.methodLink RJ2 67 yJ2_checkIndex_2214a) :: (Cond.static yJ2_checkIndex_2214a) :: (Cond.code yJ2_checkIndex_2214a cJ2_checkIndex_2214a 2 none) :: (Cond.methodLink RJ2 48 yJ2_length_9d52b) :: (Cond.static yJ2_length_9d52b) :: (Cond.code yJ2_length_9d52b cJ2_length_9d52b 1 (some .int)) :: (Cond.methodLink RJ2 414 yJ0_checkIndex_df160) :: []
def wsX7_jacket_r6 : List Cond := (Cond.methodLink RJ2 71 yJ2_getChar_3b067) :: (Cond.static yJ2_getChar_3b067) :: (Cond.code yJ2_getChar_3b067 cJ2_getChar_3b067 2 (some .char)) :: (Cond.fieldLink RJ2 44 "java/lang/StringUTF16" "$assertionsDisabled" "Z") :: (Cond.fieldLink RJ2 59 "java/lang/StringUTF16" "HI_BYTE_SHIFT" "I") :: (Cond.fieldLink RJ2 63 "java/lang/StringUTF16" "LO_BYTE_SHIFT" "I") :: (Cond.methodLink RX3 78 yX3_stands) :: (Cond.instanceMethod yX3_stands) :: (Cond.selects RX3 yX3_stands yX3_stands) :: (Cond.code yX3_stands cX3_stands 3 (some .boolean)) :: (Cond.methodLink RX3 95 yX3_takeWord) :: (Cond.instanceMethod yX3_takeWord) :: (Cond.selects RX3 yX3_takeWord yX3_takeWord) :: (Cond.code yX3_takeWord cX3_takeWord 3 (some .int)) :: (Cond.methodLink RX3 66 yX3_numbersOf) :: (Cond.static yX3_numbersOf) :: (Cond.code yX3_numbersOf cX3_numbersOf 1 (some .int)) :: (Cond.methodLink RX3 45 yX3_expect) :: (Cond.instanceMethod yX3_expect) :: (Cond.selects RX3 yX3_expect yX3_expect) :: (Cond.code yX3_expect cX3_expect 2 none) :: (Cond.methodLink RX3 69 yX3_leastOf) :: (Cond.static yX3_leastOf) :: (Cond.code yX3_leastOf cX3_leastOf 2 (some .int)) :: []
def wsX7_jacket_r7 : List Cond := (Cond.methodLink RX3 72 yX3_mostOf) :: (Cond.instanceMethod yX3_mostOf) :: (Cond.selects RX3 yX3_mostOf yX3_mostOf) :: (Cond.code yX3_mostOf cX3_mostOf 3 (some .int)) :: (Cond.methodLink RX3 75 yX3_readNumber) :: (Cond.instanceMethod yX3_readNumber) :: (Cond.selects RX3 yX3_readNumber yX3_readNumber) :: (Cond.code yX3_readNumber cX3_readNumber 5 (some .int)) :: (Cond.methodLink RX3 105 yX3_isDigit) :: (Cond.static yX3_isDigit) :: (Cond.code yX3_isDigit cX3_isDigit 1 (some .boolean)) :: (Cond.methodLink RX7 179 yX3_tell) :: (Cond.instanceMethod yX3_tell) :: (Cond.selects RX3 yX3_tell yX3_tell) :: (Cond.code yX3_tell cX3_tell 3 none) :: (Cond.methodLink RX3 132 yX3_tellItem) :: (Cond.instanceMethod yX3_tellItem) :: (Cond.selects RX3 yX3_tellItem yX3_tellItem) :: (Cond.code yX3_tellItem cX3_tellItem 5 none) :: (Cond.fieldLink RX3 136 "TheLiningsInIt$Jacket" "zip" "LTheLiningsInIt$Zip;") :: (Cond.fieldLink RX3 147 "TheLiningsInIt$Zip" "lacking" "[Z") :: (Cond.fieldLink RX3 151 "TheLiningsInIt$Zip" "slacks" "[I") :: (Cond.fieldLink RX3 158 "TheLiningsInIt$Jacket" "costs" "[I") :: (Cond.fieldLink RX3 161 "TheLiningsInIt$Zip" "at" "I") :: []
def wsX7_jacket_r8 : List Cond := (Cond.methodLink RX3 142 yX6_renew) :: (Cond.instanceMethod yX6_renew) :: (Cond.selects RX6 yX6_renew yX6_renew) :: (Cond.initialized RX6) :: (Cond.code yX6_renew cX6_renew 3 none) :: (Cond.fieldLink RX6 19 "TheLiningsInIt$Zip" "size" "I") :: (Cond.fieldLink RX6 23 "TheLiningsInIt$Zip" "at" "I") :: (Cond.fieldLink RX6 9 "TheLiningsInIt$Zip" "lacking" "[Z") :: (Cond.fieldLink RX6 15 "TheLiningsInIt$Zip" "slacks" "[I") :: (Cond.methodLink RX3 154 yX0_addPull) :: (Cond.instanceMethod yX0_addPull) :: (Cond.selects RX0 yX0_addPull yX0_addPull) :: (Cond.initialized RX0) :: (Cond.code yX0_addPull cX0_addPull 4 (some .int)) :: (Cond.fieldLink RX0 28 "TheLiningsInIt$Jacket" "pullCount" "I") :: (Cond.fieldLink RX0 20 "TheLiningsInIt$Jacket" "pulls" "[LTheLiningsInIt$Pull;") :: (Cond.classLink RX0 18 RX2) :: (Cond.instantiable RX2 3) :: (Cond.initialized RX2) :: (Cond.methodLink RX0 70 yX2_init) :: (Cond.instanceMethod yX2_init) :: (Cond.code yX2_init cX2_init 4 none) :: (Cond.methodLink RX2 3 objectInit) :: (Cond.instanceMethod objectInit) :: []
def wsX7_jacket_r9 : List Cond := (Cond.code objectInit ⟨#[0xb1]⟩ 1 none) :: (Cond.fieldLink RX2 9 "TheLiningsInIt$Pull" "kind" "I") :: (Cond.fieldLink RX2 15 "TheLiningsInIt$Pull" "a" "I") :: (Cond.fieldLink RX2 18 "TheLiningsInIt$Pull" "takes" "I") :: (Cond.methodLink RX3 163 yX0_setNumber) :: (Cond.instanceMethod yX0_setNumber) :: (Cond.selects RX0 yX0_setNumber yX0_setNumber) :: (Cond.code yX0_setNumber cX0_setNumber 3 none) :: (Cond.fieldLink RX0 32 "TheLiningsInIt$Jacket" "depth" "I") :: (Cond.fieldLink RX0 38 "TheLiningsInIt$Jacket" "seconds" "I") :: (Cond.fieldLink RX0 41 "TheLiningsInIt$Jacket" "hurry" "I") :: (Cond.fieldLink RX0 12 "TheLiningsInIt$Jacket" "zip" "LTheLiningsInIt$Zip;") :: (Cond.fieldLink RX0 60 "TheLiningsInIt$Zip" "gap" "I") :: (Cond.fieldLink RX0 63 "TheLiningsInIt$Zip" "at" "I") :: (Cond.fieldLink RX0 24 "TheLiningsInIt$Jacket" "costs" "[I") :: []
def wsX7_jacket : List Cond := (.code yX7_jacket cX7_jacket 4 (some .int)) :: ((wsX7_jacket_r1 ++ (wsX7_jacket_r2 ++ (wsX7_jacket_r3 ++ (wsX7_jacket_r4 ++ (wsX7_jacket_r5 ++ (wsX7_jacket_r6 ++ (wsX7_jacket_r7 ++ (wsX7_jacket_r8 ++ wsX7_jacket_r9)))))))) ++ wsX70 ++ wsX00 ++ wsX60 ++ wsX30 ++ wsX40 ++ wsX20)
def wsX7_fault : List Cond := (.code yX7_fault cX7_fault 1 (some .int)) :: (.fieldLink RX7 54 "TheLiningsInIt" "latestFault" "I") :: wsX70
def wsX7_frees_r1 : List Cond := (Cond.fieldLink RX7 18 "TheLiningsInIt" "now" "LTheLiningsInIt$Jacket;") :: (Cond.fieldLink RX7 116 "TheLiningsInIt$Jacket" "hurry" "I") :: (Cond.methodLink RX7 100 yX0_pullAt) :: (Cond.instanceMethod yX0_pullAt) :: (Cond.selects RX0 yX0_pullAt yX0_pullAt) :: (Cond.initialized RX0) :: (Cond.code yX0_pullAt cX0_pullAt 2 (some (.object "TheLiningsInIt$Pull"))) :: (Cond.fieldLink RX0 28 "TheLiningsInIt$Jacket" "pullCount" "I") :: (Cond.fieldLink RX0 20 "TheLiningsInIt$Jacket" "pulls" "[LTheLiningsInIt$Pull;") :: (Cond.static yX7_within) :: (Cond.initialized RX7) :: (Cond.code yX7_within cX7_within 3 (some .boolean)) :: (Cond.methodLink RX7 63 yX7_refuse) :: (Cond.instanceMethod yX7_refuse) :: (Cond.selects RX7 yX7_refuse yX7_refuse) :: (Cond.code yX7_refuse cX7_refuse 2 (some .int)) :: (Cond.fieldLink RX7 46 "TheLiningsInIt" "refusals" "[I") :: (Cond.methodLink RX7 67 yX7_within) :: (Cond.methodLink RX7 119 yX2_waysAt) :: (Cond.instanceMethod yX2_waysAt) :: (Cond.selects RX2 yX2_waysAt yX2_waysAt) :: (Cond.initialized RX2) :: (Cond.code yX2_waysAt cX2_waysAt 3 (some .int)) :: (Cond.fieldLink RX2 9 "TheLiningsInIt$Pull" "kind" "I") :: []
def wsX7_frees_r2 : List Cond := (Cond.methodLink RX2 33 Lib.Math.min.name) :: (Cond.static Lib.Math.min.name) :: (Cond.initialized "java/lang/Math") :: (Cond.code Lib.Math.min.name Lib.Math.min.code 2 (some .int)) :: (Cond.methodLink RX2 39 Lib.Math.max.name) :: (Cond.static Lib.Math.max.name) :: (Cond.code Lib.Math.max.name Lib.Math.max.code 2 (some .int)) :: (Cond.methodLink RX2 29 yX2_calmWaysAt) :: (Cond.instanceMethod yX2_calmWaysAt) :: (Cond.selects RX2 yX2_calmWaysAt yX2_calmWaysAt) :: (Cond.code yX2_calmWaysAt cX2_calmWaysAt 2 (some .int)) :: (Cond.fieldLink RX2 15 "TheLiningsInIt$Pull" "a" "I") :: (Cond.methodLink RX7 186 yX2_shallower) :: (Cond.instanceMethod yX2_shallower) :: (Cond.selects RX2 yX2_shallower yX2_shallower) :: (Cond.code yX2_shallower cX2_shallower 2 (some .int)) :: (Cond.methodLink RX2 42 yX2_step) :: (Cond.instanceMethod yX2_step) :: (Cond.selects RX2 yX2_step yX2_step) :: (Cond.code yX2_step cX2_step 1 (some .int)) :: (Cond.methodLink RX7 189 yX2_deeper) :: (Cond.instanceMethod yX2_deeper) :: (Cond.selects RX2 yX2_deeper yX2_deeper) :: (Cond.code yX2_deeper cX2_deeper 4 (some .int)) :: []
def wsX7_frees : List Cond := (.code yX7_frees cX7_frees 5 (some .int)) :: ((wsX7_frees_r1 ++ wsX7_frees_r2) ++ wsX70 ++ wsX00 ++ wsX20)
def wsX7_refuseLower : List Cond := (.code yX7_refuseLower cX7_refuseLower 2 (some .int)) :: (.methodLink RX7 63 yX7_refuse) :: (.instanceMethod yX7_refuse) :: (.selects RX7 yX7_refuse yX7_refuse) :: (.initialized RX7) :: (.code yX7_refuse cX7_refuse 2 (some .int)) :: (.fieldLink RX7 46 "TheLiningsInIt" "refusals" "[I") :: (.methodLink RX7 67 yX7_within) :: (.static yX7_within) :: (.code yX7_within cX7_within 3 (some .boolean)) :: wsX70
def wsX7_cases_r1 : List Cond := (Cond.fieldLink RX7 28 "TheLiningsInIt" "ways" "LTheLiningsInIt$Ways;") :: (Cond.fieldLink RX7 18 "TheLiningsInIt" "now" "LTheLiningsInIt$Jacket;") :: (Cond.fieldLink RX7 116 "TheLiningsInIt$Jacket" "hurry" "I") :: (Cond.fieldLink RX7 199 "TheLiningsInIt$Jacket" "depth" "I") :: (Cond.fieldLink RX7 202 "TheLiningsInIt$Jacket" "seconds" "I") :: (Cond.methodLink RX7 67 yX7_within) :: (Cond.static yX7_within) :: (Cond.initialized RX7) :: (Cond.code yX7_within cX7_within 3 (some .boolean)) :: (Cond.methodLink RX7 192 yX7_refuseLower) :: (Cond.instanceMethod yX7_refuseLower) :: (Cond.selects RX7 yX7_refuseLower yX7_refuseLower) :: (Cond.code yX7_refuseLower cX7_refuseLower 2 (some .int)) :: (Cond.methodLink RX7 63 yX7_refuse) :: (Cond.instanceMethod yX7_refuse) :: (Cond.selects RX7 yX7_refuse yX7_refuse) :: (Cond.code yX7_refuse cX7_refuse 2 (some .int)) :: (Cond.fieldLink RX7 46 "TheLiningsInIt" "refusals" "[I") :: (Cond.methodLink RX7 195 yX5_look) :: (Cond.instanceMethod yX5_look) :: (Cond.selects RX5 yX5_look yX5_look) :: (Cond.initialized RX5) :: (Cond.code yX5_look cX5_look 7 none) :: (Cond.fieldLink RX5 37 "TheLiningsInIt$Jacket" "pullCount" "I") :: []
def wsX7_cases_r2 : List Cond := (Cond.fieldLink RX5 27 "TheLiningsInIt$Ways" "count" "I") :: (Cond.fieldLink RX5 31 "TheLiningsInIt$Ways" "hurry" "I") :: (Cond.fieldLink RX5 34 "TheLiningsInIt$Ways" "longest" "I") :: (Cond.fieldLink RX5 46 "TheLiningsInIt$Pull" "kind" "I") :: (Cond.fieldLink RX5 23 "TheLiningsInIt$Ways" "pulls" "[LTheLiningsInIt$Pull;") :: (Cond.fieldLink RX5 49 "TheLiningsInIt$Pull" "takes" "I") :: (Cond.methodLink RX5 52 Lib.Math.max.name) :: (Cond.static Lib.Math.max.name) :: (Cond.initialized "java/lang/Math") :: (Cond.code Lib.Math.max.name Lib.Math.max.code 2 (some .int)) :: (Cond.fieldLink RX5 58 "TheLiningsInIt$Jacket" "costs" "[I") :: (Cond.fieldLink RX5 18 "TheLiningsInIt$Ways" "costs" "[I") :: (Cond.methodLink RX5 59 arraycopyName) :: (Cond.native arraycopyName) :: (Cond.static arraycopyName) :: (Cond.initialized "java/lang/System") :: (Cond.fieldLink RX5 9 "TheLiningsInIt$Ways" "knownMost" "[I") :: (Cond.fieldLink RX5 15 "TheLiningsInIt$Ways" "knownLeast" "[I") :: (Cond.methodLink RX5 42 yX0_pullAt) :: (Cond.instanceMethod yX0_pullAt) :: (Cond.selects RX0 yX0_pullAt yX0_pullAt) :: (Cond.initialized RX0) :: (Cond.code yX0_pullAt cX0_pullAt 2 (some (.object "TheLiningsInIt$Pull"))) :: (Cond.fieldLink RX0 28 "TheLiningsInIt$Jacket" "pullCount" "I") :: []
def wsX7_cases_r3 : List Cond := (Cond.fieldLink RX0 20 "TheLiningsInIt$Jacket" "pulls" "[LTheLiningsInIt$Pull;") :: (Cond.methodLink RX5 65 yJ7_fill_53178) :: (Cond.static yJ7_fill_53178) :: (Cond.initialized RJ7) :: (Cond.code yJ7_fill_53178 cJ7_fill_53178 4 none) :: (Cond.methodLink RX7 205 yX5_next) :: (Cond.instanceMethod yX5_next) :: (Cond.selects RX5 yX5_next yX5_next) :: (Cond.code yX5_next cX5_next 9 (some .int)) :: (Cond.methodLink RX5 82 yX5_mayBeAt) :: (Cond.instanceMethod yX5_mayBeAt) :: (Cond.selects RX5 yX5_mayBeAt yX5_mayBeAt) :: (Cond.code yX5_mayBeAt cX5_mayBeAt 5 (some (.object "TheLiningsInIt$Pull"))) :: (Cond.methodLink RX5 75 yX2_mayBe) :: (Cond.instanceMethod yX2_mayBe) :: (Cond.selects RX2 yX2_mayBe yX2_mayBe) :: (Cond.initialized RX2) :: (Cond.code yX2_mayBe cX2_mayBe 3 (some .boolean)) :: (Cond.fieldLink RX2 18 "TheLiningsInIt$Pull" "takes" "I") :: (Cond.methodLink RX5 86 yX5_mostBy) :: (Cond.instanceMethod yX5_mostBy) :: (Cond.selects RX5 yX5_mostBy yX5_mostBy) :: (Cond.code yX5_mostBy cX5_mostBy 8 (some .int)) :: (Cond.methodLink RX5 90 yX2_waysAt) :: []
def wsX7_cases_r4 : List Cond := (Cond.instanceMethod yX2_waysAt) :: (Cond.selects RX2 yX2_waysAt yX2_waysAt) :: (Cond.code yX2_waysAt cX2_waysAt 3 (some .int)) :: (Cond.fieldLink RX2 9 "TheLiningsInIt$Pull" "kind" "I") :: (Cond.methodLink RX2 33 Lib.Math.min.name) :: (Cond.static Lib.Math.min.name) :: (Cond.code Lib.Math.min.name Lib.Math.min.code 2 (some .int)) :: (Cond.methodLink RX2 39 Lib.Math.max.name) :: (Cond.methodLink RX2 29 yX2_calmWaysAt) :: (Cond.instanceMethod yX2_calmWaysAt) :: (Cond.selects RX2 yX2_calmWaysAt yX2_calmWaysAt) :: (Cond.code yX2_calmWaysAt cX2_calmWaysAt 2 (some .int)) :: (Cond.fieldLink RX2 15 "TheLiningsInIt$Pull" "a" "I") :: (Cond.methodLink RX5 93 yX2_shallower) :: (Cond.instanceMethod yX2_shallower) :: (Cond.selects RX2 yX2_shallower yX2_shallower) :: (Cond.code yX2_shallower cX2_shallower 2 (some .int)) :: (Cond.methodLink RX2 42 yX2_step) :: (Cond.instanceMethod yX2_step) :: (Cond.selects RX2 yX2_step yX2_step) :: (Cond.code yX2_step cX2_step 1 (some .int)) :: (Cond.methodLink RX5 97 yX5_most) :: (Cond.instanceMethod yX5_most) :: (Cond.selects RX5 yX5_most yX5_most) :: []
def wsX7_cases_r5 : List Cond := (Cond.methodLink RX5 101 yX2_deeper) :: (Cond.instanceMethod yX2_deeper) :: (Cond.selects RX2 yX2_deeper yX2_deeper) :: (Cond.code yX2_deeper cX2_deeper 4 (some .int)) :: (Cond.code yX5_most cX5_most 9 (some .int)) :: (Cond.fieldLink RX5 79 "TheLiningsInIt$Ways" "POWERS" "[I") :: []
def wsX7_cases : List Cond := (.code yX7_cases cX7_cases 3 (some .int)) :: ((wsX7_cases_r1 ++ (wsX7_cases_r2 ++ (wsX7_cases_r3 ++ (wsX7_cases_r4 ++ wsX7_cases_r5)))) ++ wsX70 ++ wsX00 ++ wsX50 ++ wsX20)
def wsX7_line_r1 : List Cond := (Cond.fieldLink RX7 28 "TheLiningsInIt" "ways" "LTheLiningsInIt$Ways;") :: (Cond.fieldLink RX7 18 "TheLiningsInIt" "now" "LTheLiningsInIt$Jacket;") :: (Cond.fieldLink RX7 116 "TheLiningsInIt$Jacket" "hurry" "I") :: (Cond.fieldLink RX7 199 "TheLiningsInIt$Jacket" "depth" "I") :: (Cond.fieldLink RX7 202 "TheLiningsInIt$Jacket" "seconds" "I") :: (Cond.methodLink RX7 67 yX7_within) :: (Cond.static yX7_within) :: (Cond.initialized RX7) :: (Cond.code yX7_within cX7_within 3 (some .boolean)) :: (Cond.methodLink RX7 192 yX7_refuseLower) :: (Cond.instanceMethod yX7_refuseLower) :: (Cond.selects RX7 yX7_refuseLower yX7_refuseLower) :: (Cond.code yX7_refuseLower cX7_refuseLower 2 (some .int)) :: (Cond.methodLink RX7 63 yX7_refuse) :: (Cond.instanceMethod yX7_refuse) :: (Cond.selects RX7 yX7_refuse yX7_refuse) :: (Cond.code yX7_refuse cX7_refuse 2 (some .int)) :: (Cond.fieldLink RX7 46 "TheLiningsInIt" "refusals" "[I") :: (Cond.methodLink RX7 195 yX5_look) :: (Cond.instanceMethod yX5_look) :: (Cond.selects RX5 yX5_look yX5_look) :: (Cond.initialized RX5) :: (Cond.code yX5_look cX5_look 7 none) :: (Cond.fieldLink RX5 37 "TheLiningsInIt$Jacket" "pullCount" "I") :: []
def wsX7_line_r2 : List Cond := (Cond.fieldLink RX5 27 "TheLiningsInIt$Ways" "count" "I") :: (Cond.fieldLink RX5 31 "TheLiningsInIt$Ways" "hurry" "I") :: (Cond.fieldLink RX5 34 "TheLiningsInIt$Ways" "longest" "I") :: (Cond.fieldLink RX5 46 "TheLiningsInIt$Pull" "kind" "I") :: (Cond.fieldLink RX5 23 "TheLiningsInIt$Ways" "pulls" "[LTheLiningsInIt$Pull;") :: (Cond.fieldLink RX5 49 "TheLiningsInIt$Pull" "takes" "I") :: (Cond.methodLink RX5 52 Lib.Math.max.name) :: (Cond.static Lib.Math.max.name) :: (Cond.initialized "java/lang/Math") :: (Cond.code Lib.Math.max.name Lib.Math.max.code 2 (some .int)) :: (Cond.fieldLink RX5 58 "TheLiningsInIt$Jacket" "costs" "[I") :: (Cond.fieldLink RX5 18 "TheLiningsInIt$Ways" "costs" "[I") :: (Cond.methodLink RX5 59 arraycopyName) :: (Cond.native arraycopyName) :: (Cond.static arraycopyName) :: (Cond.initialized "java/lang/System") :: (Cond.fieldLink RX5 9 "TheLiningsInIt$Ways" "knownMost" "[I") :: (Cond.fieldLink RX5 15 "TheLiningsInIt$Ways" "knownLeast" "[I") :: (Cond.methodLink RX5 42 yX0_pullAt) :: (Cond.instanceMethod yX0_pullAt) :: (Cond.selects RX0 yX0_pullAt yX0_pullAt) :: (Cond.initialized RX0) :: (Cond.code yX0_pullAt cX0_pullAt 2 (some (.object "TheLiningsInIt$Pull"))) :: (Cond.fieldLink RX0 28 "TheLiningsInIt$Jacket" "pullCount" "I") :: []
def wsX7_line_r3 : List Cond := (Cond.fieldLink RX0 20 "TheLiningsInIt$Jacket" "pulls" "[LTheLiningsInIt$Pull;") :: (Cond.methodLink RX5 65 yJ7_fill_53178) :: (Cond.static yJ7_fill_53178) :: (Cond.initialized RJ7) :: (Cond.code yJ7_fill_53178 cJ7_fill_53178 4 none) :: (Cond.methodLink RX7 211 yX5_first) :: (Cond.instanceMethod yX5_first) :: (Cond.selects RX5 yX5_first yX5_first) :: (Cond.code yX5_first cX5_first 7 (some .int)) :: (Cond.methodLink RX5 117 yX5_least) :: (Cond.instanceMethod yX5_least) :: (Cond.selects RX5 yX5_least yX5_least) :: (Cond.code yX5_least cX5_least 9 (some .int)) :: (Cond.methodLink RX5 110 Lib.Math.min.name) :: (Cond.static Lib.Math.min.name) :: (Cond.code Lib.Math.min.name Lib.Math.min.code 2 (some .int)) :: (Cond.methodLink RX5 104 yX5_leastAtOnce) :: (Cond.instanceMethod yX5_leastAtOnce) :: (Cond.selects RX5 yX5_leastAtOnce yX5_leastAtOnce) :: (Cond.code yX5_leastAtOnce cX5_leastAtOnce 3 (some .int)) :: (Cond.fieldLink RX5 79 "TheLiningsInIt$Ways" "POWERS" "[I") :: (Cond.methodLink RX5 113 yX5_headIsCheapest) :: (Cond.instanceMethod yX5_headIsCheapest) :: (Cond.selects RX5 yX5_headIsCheapest yX5_headIsCheapest) :: []
def wsX7_line_r4 : List Cond := (Cond.code yX5_headIsCheapest cX5_headIsCheapest 2 (some .boolean)) :: (Cond.methodLink RX5 82 yX5_mayBeAt) :: (Cond.instanceMethod yX5_mayBeAt) :: (Cond.selects RX5 yX5_mayBeAt yX5_mayBeAt) :: (Cond.code yX5_mayBeAt cX5_mayBeAt 5 (some (.object "TheLiningsInIt$Pull"))) :: (Cond.methodLink RX5 75 yX2_mayBe) :: (Cond.instanceMethod yX2_mayBe) :: (Cond.selects RX2 yX2_mayBe yX2_mayBe) :: (Cond.initialized RX2) :: (Cond.code yX2_mayBe cX2_mayBe 3 (some .boolean)) :: (Cond.fieldLink RX2 18 "TheLiningsInIt$Pull" "takes" "I") :: (Cond.methodLink RX5 107 yX5_leastBy) :: (Cond.instanceMethod yX5_leastBy) :: (Cond.selects RX5 yX5_leastBy yX5_leastBy) :: (Cond.code yX5_leastBy cX5_leastBy 8 (some .int)) :: (Cond.methodLink RX5 90 yX2_waysAt) :: (Cond.instanceMethod yX2_waysAt) :: (Cond.selects RX2 yX2_waysAt yX2_waysAt) :: (Cond.code yX2_waysAt cX2_waysAt 3 (some .int)) :: (Cond.fieldLink RX2 9 "TheLiningsInIt$Pull" "kind" "I") :: (Cond.methodLink RX2 33 Lib.Math.min.name) :: (Cond.methodLink RX2 39 Lib.Math.max.name) :: (Cond.methodLink RX2 29 yX2_calmWaysAt) :: (Cond.instanceMethod yX2_calmWaysAt) :: []
def wsX7_line_r5 : List Cond := (Cond.selects RX2 yX2_calmWaysAt yX2_calmWaysAt) :: (Cond.code yX2_calmWaysAt cX2_calmWaysAt 2 (some .int)) :: (Cond.fieldLink RX2 15 "TheLiningsInIt$Pull" "a" "I") :: (Cond.methodLink RX5 93 yX2_shallower) :: (Cond.instanceMethod yX2_shallower) :: (Cond.selects RX2 yX2_shallower yX2_shallower) :: (Cond.code yX2_shallower cX2_shallower 2 (some .int)) :: (Cond.methodLink RX2 42 yX2_step) :: (Cond.instanceMethod yX2_step) :: (Cond.selects RX2 yX2_step yX2_step) :: (Cond.code yX2_step cX2_step 1 (some .int)) :: (Cond.methodLink RX5 101 yX2_deeper) :: (Cond.instanceMethod yX2_deeper) :: (Cond.selects RX2 yX2_deeper yX2_deeper) :: (Cond.code yX2_deeper cX2_deeper 4 (some .int)) :: []
def wsX7_line : List Cond := (.code yX7_line cX7_line 3 (some .int)) :: ((wsX7_line_r1 ++ (wsX7_line_r2 ++ (wsX7_line_r3 ++ (wsX7_line_r4 ++ wsX7_line_r5)))) ++ wsX70 ++ wsX00 ++ wsX50 ++ wsX20)
def wsX7_casesBy_r1 : List Cond := (Cond.fieldLink RX7 28 "TheLiningsInIt" "ways" "LTheLiningsInIt$Ways;") :: (Cond.fieldLink RX7 18 "TheLiningsInIt" "now" "LTheLiningsInIt$Jacket;") :: (Cond.fieldLink RX7 199 "TheLiningsInIt$Jacket" "depth" "I") :: (Cond.fieldLink RX7 202 "TheLiningsInIt$Jacket" "seconds" "I") :: (Cond.methodLink RX7 195 yX5_look) :: (Cond.instanceMethod yX5_look) :: (Cond.selects RX5 yX5_look yX5_look) :: (Cond.initialized RX5) :: (Cond.code yX5_look cX5_look 7 none) :: (Cond.fieldLink RX5 37 "TheLiningsInIt$Jacket" "pullCount" "I") :: (Cond.fieldLink RX5 27 "TheLiningsInIt$Ways" "count" "I") :: (Cond.fieldLink RX5 31 "TheLiningsInIt$Ways" "hurry" "I") :: (Cond.fieldLink RX5 34 "TheLiningsInIt$Ways" "longest" "I") :: (Cond.fieldLink RX5 46 "TheLiningsInIt$Pull" "kind" "I") :: (Cond.fieldLink RX5 23 "TheLiningsInIt$Ways" "pulls" "[LTheLiningsInIt$Pull;") :: (Cond.fieldLink RX5 49 "TheLiningsInIt$Pull" "takes" "I") :: (Cond.methodLink RX5 52 Lib.Math.max.name) :: (Cond.static Lib.Math.max.name) :: (Cond.initialized "java/lang/Math") :: (Cond.code Lib.Math.max.name Lib.Math.max.code 2 (some .int)) :: (Cond.fieldLink RX5 58 "TheLiningsInIt$Jacket" "costs" "[I") :: (Cond.fieldLink RX5 18 "TheLiningsInIt$Ways" "costs" "[I") :: (Cond.methodLink RX5 59 arraycopyName) :: (Cond.native arraycopyName) :: []
def wsX7_casesBy_r2 : List Cond := (Cond.static arraycopyName) :: (Cond.initialized "java/lang/System") :: (Cond.fieldLink RX5 9 "TheLiningsInIt$Ways" "knownMost" "[I") :: (Cond.fieldLink RX5 15 "TheLiningsInIt$Ways" "knownLeast" "[I") :: (Cond.methodLink RX5 42 yX0_pullAt) :: (Cond.instanceMethod yX0_pullAt) :: (Cond.selects RX0 yX0_pullAt yX0_pullAt) :: (Cond.initialized RX0) :: (Cond.code yX0_pullAt cX0_pullAt 2 (some (.object "TheLiningsInIt$Pull"))) :: (Cond.fieldLink RX0 28 "TheLiningsInIt$Jacket" "pullCount" "I") :: (Cond.fieldLink RX0 20 "TheLiningsInIt$Jacket" "pulls" "[LTheLiningsInIt$Pull;") :: (Cond.static yX7_within) :: (Cond.initialized RX7) :: (Cond.code yX7_within cX7_within 3 (some .boolean)) :: (Cond.methodLink RX5 65 yJ7_fill_53178) :: (Cond.static yJ7_fill_53178) :: (Cond.initialized RJ7) :: (Cond.code yJ7_fill_53178 cJ7_fill_53178 4 none) :: (Cond.instanceMethod yX5_most) :: (Cond.selects RX5 yX5_most yX5_most) :: (Cond.code yX5_most cX5_most 9 (some .int)) :: (Cond.fieldLink RX5 79 "TheLiningsInIt$Ways" "POWERS" "[I") :: (Cond.methodLink RX5 82 yX5_mayBeAt) :: (Cond.instanceMethod yX5_mayBeAt) :: []
def wsX7_casesBy_r3 : List Cond := (Cond.selects RX5 yX5_mayBeAt yX5_mayBeAt) :: (Cond.code yX5_mayBeAt cX5_mayBeAt 5 (some (.object "TheLiningsInIt$Pull"))) :: (Cond.methodLink RX5 75 yX2_mayBe) :: (Cond.instanceMethod yX2_mayBe) :: (Cond.selects RX2 yX2_mayBe yX2_mayBe) :: (Cond.initialized RX2) :: (Cond.code yX2_mayBe cX2_mayBe 3 (some .boolean)) :: (Cond.fieldLink RX2 18 "TheLiningsInIt$Pull" "takes" "I") :: (Cond.methodLink RX5 86 yX5_mostBy) :: (Cond.instanceMethod yX5_mostBy) :: (Cond.selects RX5 yX5_mostBy yX5_mostBy) :: (Cond.code yX5_mostBy cX5_mostBy 8 (some .int)) :: (Cond.methodLink RX5 90 yX2_waysAt) :: (Cond.instanceMethod yX2_waysAt) :: (Cond.selects RX2 yX2_waysAt yX2_waysAt) :: (Cond.code yX2_waysAt cX2_waysAt 3 (some .int)) :: (Cond.fieldLink RX2 9 "TheLiningsInIt$Pull" "kind" "I") :: (Cond.methodLink RX2 33 Lib.Math.min.name) :: (Cond.static Lib.Math.min.name) :: (Cond.code Lib.Math.min.name Lib.Math.min.code 2 (some .int)) :: (Cond.methodLink RX2 39 Lib.Math.max.name) :: (Cond.methodLink RX2 29 yX2_calmWaysAt) :: (Cond.instanceMethod yX2_calmWaysAt) :: (Cond.selects RX2 yX2_calmWaysAt yX2_calmWaysAt) :: []
def wsX7_casesBy_r4 : List Cond := (Cond.code yX2_calmWaysAt cX2_calmWaysAt 2 (some .int)) :: (Cond.fieldLink RX2 15 "TheLiningsInIt$Pull" "a" "I") :: (Cond.methodLink RX5 93 yX2_shallower) :: (Cond.instanceMethod yX2_shallower) :: (Cond.selects RX2 yX2_shallower yX2_shallower) :: (Cond.code yX2_shallower cX2_shallower 2 (some .int)) :: (Cond.methodLink RX2 42 yX2_step) :: (Cond.instanceMethod yX2_step) :: (Cond.selects RX2 yX2_step yX2_step) :: (Cond.code yX2_step cX2_step 1 (some .int)) :: (Cond.methodLink RX5 97 yX5_most) :: (Cond.methodLink RX5 101 yX2_deeper) :: (Cond.instanceMethod yX2_deeper) :: (Cond.selects RX2 yX2_deeper yX2_deeper) :: (Cond.code yX2_deeper cX2_deeper 4 (some .int)) :: []
def wsX7_casesBy : List Cond := (.code yX7_casesBy cX7_casesBy 3 (some .int)) :: ((wsX7_casesBy_r1 ++ (wsX7_casesBy_r2 ++ (wsX7_casesBy_r3 ++ wsX7_casesBy_r4))) ++ wsX70 ++ wsX00 ++ wsX50 ++ wsX20)
def wsX7_haste_r1 : List Cond := (Cond.methodLink RX7 67 yX7_within) :: (Cond.static yX7_within) :: (Cond.initialized RX7) :: (Cond.code yX7_within cX7_within 3 (some .boolean)) :: (Cond.methodLink RX7 63 yX7_refuse) :: (Cond.instanceMethod yX7_refuse) :: (Cond.selects RX7 yX7_refuse yX7_refuse) :: (Cond.code yX7_refuse cX7_refuse 2 (some .int)) :: (Cond.fieldLink RX7 46 "TheLiningsInIt" "refusals" "[I") :: (Cond.methodLink RX7 217 yX7_casesBy) :: (Cond.instanceMethod yX7_casesBy) :: (Cond.selects RX7 yX7_casesBy yX7_casesBy) :: (Cond.code yX7_casesBy cX7_casesBy 3 (some .int)) :: (Cond.fieldLink RX7 28 "TheLiningsInIt" "ways" "LTheLiningsInIt$Ways;") :: (Cond.fieldLink RX7 18 "TheLiningsInIt" "now" "LTheLiningsInIt$Jacket;") :: (Cond.fieldLink RX7 199 "TheLiningsInIt$Jacket" "depth" "I") :: (Cond.fieldLink RX7 202 "TheLiningsInIt$Jacket" "seconds" "I") :: (Cond.methodLink RX7 195 yX5_look) :: (Cond.instanceMethod yX5_look) :: (Cond.selects RX5 yX5_look yX5_look) :: (Cond.initialized RX5) :: (Cond.code yX5_look cX5_look 7 none) :: (Cond.fieldLink RX5 37 "TheLiningsInIt$Jacket" "pullCount" "I") :: (Cond.fieldLink RX5 27 "TheLiningsInIt$Ways" "count" "I") :: []
def wsX7_haste_r2 : List Cond := (Cond.fieldLink RX5 31 "TheLiningsInIt$Ways" "hurry" "I") :: (Cond.fieldLink RX5 34 "TheLiningsInIt$Ways" "longest" "I") :: (Cond.fieldLink RX5 46 "TheLiningsInIt$Pull" "kind" "I") :: (Cond.fieldLink RX5 23 "TheLiningsInIt$Ways" "pulls" "[LTheLiningsInIt$Pull;") :: (Cond.fieldLink RX5 49 "TheLiningsInIt$Pull" "takes" "I") :: (Cond.methodLink RX5 52 Lib.Math.max.name) :: (Cond.static Lib.Math.max.name) :: (Cond.initialized "java/lang/Math") :: (Cond.code Lib.Math.max.name Lib.Math.max.code 2 (some .int)) :: (Cond.fieldLink RX5 58 "TheLiningsInIt$Jacket" "costs" "[I") :: (Cond.fieldLink RX5 18 "TheLiningsInIt$Ways" "costs" "[I") :: (Cond.methodLink RX5 59 arraycopyName) :: (Cond.native arraycopyName) :: (Cond.static arraycopyName) :: (Cond.initialized "java/lang/System") :: (Cond.fieldLink RX5 9 "TheLiningsInIt$Ways" "knownMost" "[I") :: (Cond.fieldLink RX5 15 "TheLiningsInIt$Ways" "knownLeast" "[I") :: (Cond.methodLink RX5 42 yX0_pullAt) :: (Cond.instanceMethod yX0_pullAt) :: (Cond.selects RX0 yX0_pullAt yX0_pullAt) :: (Cond.initialized RX0) :: (Cond.code yX0_pullAt cX0_pullAt 2 (some (.object "TheLiningsInIt$Pull"))) :: (Cond.fieldLink RX0 28 "TheLiningsInIt$Jacket" "pullCount" "I") :: (Cond.fieldLink RX0 20 "TheLiningsInIt$Jacket" "pulls" "[LTheLiningsInIt$Pull;") :: []
def wsX7_haste_r3 : List Cond := (Cond.methodLink RX5 65 yJ7_fill_53178) :: (Cond.static yJ7_fill_53178) :: (Cond.initialized RJ7) :: (Cond.code yJ7_fill_53178 cJ7_fill_53178 4 none) :: (Cond.instanceMethod yX5_most) :: (Cond.selects RX5 yX5_most yX5_most) :: (Cond.code yX5_most cX5_most 9 (some .int)) :: (Cond.fieldLink RX5 79 "TheLiningsInIt$Ways" "POWERS" "[I") :: (Cond.methodLink RX5 82 yX5_mayBeAt) :: (Cond.instanceMethod yX5_mayBeAt) :: (Cond.selects RX5 yX5_mayBeAt yX5_mayBeAt) :: (Cond.code yX5_mayBeAt cX5_mayBeAt 5 (some (.object "TheLiningsInIt$Pull"))) :: (Cond.methodLink RX5 75 yX2_mayBe) :: (Cond.instanceMethod yX2_mayBe) :: (Cond.selects RX2 yX2_mayBe yX2_mayBe) :: (Cond.initialized RX2) :: (Cond.code yX2_mayBe cX2_mayBe 3 (some .boolean)) :: (Cond.fieldLink RX2 18 "TheLiningsInIt$Pull" "takes" "I") :: (Cond.methodLink RX5 86 yX5_mostBy) :: (Cond.instanceMethod yX5_mostBy) :: (Cond.selects RX5 yX5_mostBy yX5_mostBy) :: (Cond.code yX5_mostBy cX5_mostBy 8 (some .int)) :: (Cond.methodLink RX5 90 yX2_waysAt) :: (Cond.instanceMethod yX2_waysAt) :: []
def wsX7_haste_r4 : List Cond := (Cond.selects RX2 yX2_waysAt yX2_waysAt) :: (Cond.code yX2_waysAt cX2_waysAt 3 (some .int)) :: (Cond.fieldLink RX2 9 "TheLiningsInIt$Pull" "kind" "I") :: (Cond.methodLink RX2 33 Lib.Math.min.name) :: (Cond.static Lib.Math.min.name) :: (Cond.code Lib.Math.min.name Lib.Math.min.code 2 (some .int)) :: (Cond.methodLink RX2 39 Lib.Math.max.name) :: (Cond.methodLink RX2 29 yX2_calmWaysAt) :: (Cond.instanceMethod yX2_calmWaysAt) :: (Cond.selects RX2 yX2_calmWaysAt yX2_calmWaysAt) :: (Cond.code yX2_calmWaysAt cX2_calmWaysAt 2 (some .int)) :: (Cond.fieldLink RX2 15 "TheLiningsInIt$Pull" "a" "I") :: (Cond.methodLink RX5 93 yX2_shallower) :: (Cond.instanceMethod yX2_shallower) :: (Cond.selects RX2 yX2_shallower yX2_shallower) :: (Cond.code yX2_shallower cX2_shallower 2 (some .int)) :: (Cond.methodLink RX2 42 yX2_step) :: (Cond.instanceMethod yX2_step) :: (Cond.selects RX2 yX2_step yX2_step) :: (Cond.code yX2_step cX2_step 1 (some .int)) :: (Cond.methodLink RX5 97 yX5_most) :: (Cond.methodLink RX5 101 yX2_deeper) :: (Cond.instanceMethod yX2_deeper) :: (Cond.selects RX2 yX2_deeper yX2_deeper) :: []
def wsX7_haste_r5 : List Cond := (Cond.code yX2_deeper cX2_deeper 4 (some .int)) :: []
def wsX7_haste : List Cond := (.code yX7_haste cX7_haste 7 (some .int)) :: ((wsX7_haste_r1 ++ (wsX7_haste_r2 ++ (wsX7_haste_r3 ++ (wsX7_haste_r4 ++ wsX7_haste_r5)))) ++ wsX70 ++ wsX00 ++ wsX50 ++ wsX20)
def wsX7_freedWeight_r1 : List Cond := (Cond.fieldLink RX7 18 "TheLiningsInIt" "now" "LTheLiningsInIt$Jacket;") :: (Cond.fieldLink RX7 116 "TheLiningsInIt$Jacket" "hurry" "I") :: (Cond.methodLink RX7 227 yX4_tells) :: (Cond.instanceMethod yX4_tells) :: (Cond.selects RX4 yX4_tells yX4_tells) :: (Cond.initialized RX4) :: (Cond.code yX4_tells cX4_tells 2 (some .int)) :: (Cond.fieldLink RX4 9 "TheLiningsInIt$Shelf" "elements" "[J") :: (Cond.methodLink RX4 36 yX4_hasSpan) :: (Cond.instanceMethod yX4_hasSpan) :: (Cond.selects RX4 yX4_hasSpan yX4_hasSpan) :: (Cond.code yX4_hasSpan cX4_hasSpan 3 (some .boolean)) :: (Cond.fieldLink RX4 19 "TheLiningsInIt$Shelf" "size" "I") :: (Cond.methodLink RX7 119 yX2_waysAt) :: (Cond.instanceMethod yX2_waysAt) :: (Cond.selects RX2 yX2_waysAt yX2_waysAt) :: (Cond.initialized RX2) :: (Cond.code yX2_waysAt cX2_waysAt 3 (some .int)) :: (Cond.fieldLink RX2 9 "TheLiningsInIt$Pull" "kind" "I") :: (Cond.methodLink RX2 33 Lib.Math.min.name) :: (Cond.static Lib.Math.min.name) :: (Cond.initialized "java/lang/Math") :: (Cond.code Lib.Math.min.name Lib.Math.min.code 2 (some .int)) :: (Cond.methodLink RX2 39 Lib.Math.max.name) :: []
def wsX7_freedWeight_r2 : List Cond := (Cond.static Lib.Math.max.name) :: (Cond.code Lib.Math.max.name Lib.Math.max.code 2 (some .int)) :: (Cond.methodLink RX2 29 yX2_calmWaysAt) :: (Cond.instanceMethod yX2_calmWaysAt) :: (Cond.selects RX2 yX2_calmWaysAt yX2_calmWaysAt) :: (Cond.code yX2_calmWaysAt cX2_calmWaysAt 2 (some .int)) :: (Cond.fieldLink RX2 15 "TheLiningsInIt$Pull" "a" "I") :: []
def wsX7_freedWeight : List Cond := (.code yX7_freedWeight cX7_freedWeight 5 (some .int)) :: ((wsX7_freedWeight_r1 ++ wsX7_freedWeight_r2) ++ wsX70 ++ wsX00 ++ wsX40 ++ wsX20)
def wsX7_freed_r1 : List Cond := (Cond.fieldLink RX7 18 "TheLiningsInIt" "now" "LTheLiningsInIt$Jacket;") :: (Cond.methodLink RX7 59 yX7_shelfAt) :: (Cond.instanceMethod yX7_shelfAt) :: (Cond.selects RX7 yX7_shelfAt yX7_shelfAt) :: (Cond.initialized RX7) :: (Cond.code yX7_shelfAt cX7_shelfAt 2 (some (.object "TheLiningsInIt$Shelf"))) :: (Cond.fieldLink RX7 11 "TheLiningsInIt" "shelves" "[LTheLiningsInIt$Shelf;") :: (Cond.methodLink RX7 67 yX7_within) :: (Cond.static yX7_within) :: (Cond.code yX7_within cX7_within 3 (some .boolean)) :: (Cond.methodLink RX7 100 yX0_pullAt) :: (Cond.instanceMethod yX0_pullAt) :: (Cond.selects RX0 yX0_pullAt yX0_pullAt) :: (Cond.initialized RX0) :: (Cond.code yX0_pullAt cX0_pullAt 2 (some (.object "TheLiningsInIt$Pull"))) :: (Cond.fieldLink RX0 28 "TheLiningsInIt$Jacket" "pullCount" "I") :: (Cond.fieldLink RX0 20 "TheLiningsInIt$Jacket" "pulls" "[LTheLiningsInIt$Pull;") :: (Cond.methodLink RX7 63 yX7_refuse) :: (Cond.instanceMethod yX7_refuse) :: (Cond.selects RX7 yX7_refuse yX7_refuse) :: (Cond.code yX7_refuse cX7_refuse 2 (some .int)) :: (Cond.fieldLink RX7 46 "TheLiningsInIt" "refusals" "[I") :: (Cond.methodLink RX7 220 yX4_noBelief) :: (Cond.instanceMethod yX4_noBelief) :: []
def wsX7_freed_r2 : List Cond := (Cond.selects RX4 yX4_noBelief yX4_noBelief) :: (Cond.initialized RX4) :: (Cond.code yX4_noBelief cX4_noBelief 2 (some .int)) :: (Cond.fieldLink RX4 19 "TheLiningsInIt$Shelf" "size" "I") :: (Cond.methodLink RX4 28 yX4_noRow) :: (Cond.instanceMethod yX4_noRow) :: (Cond.selects RX4 yX4_noRow yX4_noRow) :: (Cond.code yX4_noRow cX4_noRow 1 (some .int)) :: (Cond.fieldLink RX4 15 "TheLiningsInIt$Shelf" "held" "I") :: (Cond.methodLink RX4 32 yX4_tellsWithin) :: (Cond.instanceMethod yX4_tellsWithin) :: (Cond.selects RX4 yX4_tellsWithin yX4_tellsWithin) :: (Cond.code yX4_tellsWithin cX4_tellsWithin 5 (some .boolean)) :: (Cond.methodLink RX4 40 yX4_tells) :: (Cond.instanceMethod yX4_tells) :: (Cond.selects RX4 yX4_tells yX4_tells) :: (Cond.code yX4_tells cX4_tells 2 (some .int)) :: (Cond.fieldLink RX4 9 "TheLiningsInIt$Shelf" "elements" "[J") :: (Cond.methodLink RX4 36 yX4_hasSpan) :: (Cond.instanceMethod yX4_hasSpan) :: (Cond.selects RX4 yX4_hasSpan yX4_hasSpan) :: (Cond.code yX4_hasSpan cX4_hasSpan 3 (some .boolean)) :: (Cond.methodLink RX7 223 yX7_freedWeight) :: (Cond.instanceMethod yX7_freedWeight) :: []
def wsX7_freed_r3 : List Cond := (Cond.selects RX7 yX7_freedWeight yX7_freedWeight) :: (Cond.code yX7_freedWeight cX7_freedWeight 5 (some .int)) :: (Cond.fieldLink RX7 116 "TheLiningsInIt$Jacket" "hurry" "I") :: (Cond.methodLink RX7 227 yX4_tells) :: (Cond.methodLink RX7 119 yX2_waysAt) :: (Cond.instanceMethod yX2_waysAt) :: (Cond.selects RX2 yX2_waysAt yX2_waysAt) :: (Cond.initialized RX2) :: (Cond.code yX2_waysAt cX2_waysAt 3 (some .int)) :: (Cond.fieldLink RX2 9 "TheLiningsInIt$Pull" "kind" "I") :: (Cond.methodLink RX2 33 Lib.Math.min.name) :: (Cond.static Lib.Math.min.name) :: (Cond.initialized "java/lang/Math") :: (Cond.code Lib.Math.min.name Lib.Math.min.code 2 (some .int)) :: (Cond.methodLink RX2 39 Lib.Math.max.name) :: (Cond.static Lib.Math.max.name) :: (Cond.code Lib.Math.max.name Lib.Math.max.code 2 (some .int)) :: (Cond.methodLink RX2 29 yX2_calmWaysAt) :: (Cond.instanceMethod yX2_calmWaysAt) :: (Cond.selects RX2 yX2_calmWaysAt yX2_calmWaysAt) :: (Cond.code yX2_calmWaysAt cX2_calmWaysAt 2 (some .int)) :: (Cond.fieldLink RX2 15 "TheLiningsInIt$Pull" "a" "I") :: []
def wsX7_freed : List Cond := (.code yX7_freed cX7_freed 6 (some .int)) :: ((wsX7_freed_r1 ++ (wsX7_freed_r2 ++ wsX7_freed_r3)) ++ wsX70 ++ wsX00 ++ wsX40 ++ wsX20)
def wsX7_best_r1 : List Cond := (Cond.fieldLink RX7 18 "TheLiningsInIt" "now" "LTheLiningsInIt$Jacket;") :: (Cond.fieldLink RX7 123 "TheLiningsInIt$Jacket" "pullCount" "I") :: (Cond.methodLink RX7 59 yX7_shelfAt) :: (Cond.instanceMethod yX7_shelfAt) :: (Cond.selects RX7 yX7_shelfAt yX7_shelfAt) :: (Cond.initialized RX7) :: (Cond.code yX7_shelfAt cX7_shelfAt 2 (some (.object "TheLiningsInIt$Shelf"))) :: (Cond.fieldLink RX7 11 "TheLiningsInIt" "shelves" "[LTheLiningsInIt$Shelf;") :: (Cond.methodLink RX7 67 yX7_within) :: (Cond.static yX7_within) :: (Cond.code yX7_within cX7_within 3 (some .boolean)) :: (Cond.methodLink RX7 192 yX7_refuseLower) :: (Cond.instanceMethod yX7_refuseLower) :: (Cond.selects RX7 yX7_refuseLower yX7_refuseLower) :: (Cond.code yX7_refuseLower cX7_refuseLower 2 (some .int)) :: (Cond.methodLink RX7 63 yX7_refuse) :: (Cond.instanceMethod yX7_refuse) :: (Cond.selects RX7 yX7_refuse yX7_refuse) :: (Cond.code yX7_refuse cX7_refuse 2 (some .int)) :: (Cond.fieldLink RX7 46 "TheLiningsInIt" "refusals" "[I") :: (Cond.methodLink RX7 220 yX4_noBelief) :: (Cond.instanceMethod yX4_noBelief) :: (Cond.selects RX4 yX4_noBelief yX4_noBelief) :: (Cond.initialized RX4) :: []
def wsX7_best_r2 : List Cond := (Cond.code yX4_noBelief cX4_noBelief 2 (some .int)) :: (Cond.fieldLink RX4 19 "TheLiningsInIt$Shelf" "size" "I") :: (Cond.methodLink RX4 28 yX4_noRow) :: (Cond.instanceMethod yX4_noRow) :: (Cond.selects RX4 yX4_noRow yX4_noRow) :: (Cond.code yX4_noRow cX4_noRow 1 (some .int)) :: (Cond.fieldLink RX4 15 "TheLiningsInIt$Shelf" "held" "I") :: (Cond.methodLink RX4 32 yX4_tellsWithin) :: (Cond.instanceMethod yX4_tellsWithin) :: (Cond.selects RX4 yX4_tellsWithin yX4_tellsWithin) :: (Cond.code yX4_tellsWithin cX4_tellsWithin 5 (some .boolean)) :: (Cond.methodLink RX4 40 yX4_tells) :: (Cond.instanceMethod yX4_tells) :: (Cond.selects RX4 yX4_tells yX4_tells) :: (Cond.code yX4_tells cX4_tells 2 (some .int)) :: (Cond.fieldLink RX4 9 "TheLiningsInIt$Shelf" "elements" "[J") :: (Cond.methodLink RX4 36 yX4_hasSpan) :: (Cond.instanceMethod yX4_hasSpan) :: (Cond.selects RX4 yX4_hasSpan yX4_hasSpan) :: (Cond.code yX4_hasSpan cX4_hasSpan 3 (some .boolean)) :: (Cond.methodLink RX7 100 yX0_pullAt) :: (Cond.instanceMethod yX0_pullAt) :: (Cond.selects RX0 yX0_pullAt yX0_pullAt) :: (Cond.initialized RX0) :: []
def wsX7_best_r3 : List Cond := (Cond.code yX0_pullAt cX0_pullAt 2 (some (.object "TheLiningsInIt$Pull"))) :: (Cond.fieldLink RX0 28 "TheLiningsInIt$Jacket" "pullCount" "I") :: (Cond.fieldLink RX0 20 "TheLiningsInIt$Jacket" "pulls" "[LTheLiningsInIt$Pull;") :: (Cond.methodLink RX7 223 yX7_freedWeight) :: (Cond.instanceMethod yX7_freedWeight) :: (Cond.selects RX7 yX7_freedWeight yX7_freedWeight) :: (Cond.code yX7_freedWeight cX7_freedWeight 5 (some .int)) :: (Cond.fieldLink RX7 116 "TheLiningsInIt$Jacket" "hurry" "I") :: (Cond.methodLink RX7 227 yX4_tells) :: (Cond.methodLink RX7 119 yX2_waysAt) :: (Cond.instanceMethod yX2_waysAt) :: (Cond.selects RX2 yX2_waysAt yX2_waysAt) :: (Cond.initialized RX2) :: (Cond.code yX2_waysAt cX2_waysAt 3 (some .int)) :: (Cond.fieldLink RX2 9 "TheLiningsInIt$Pull" "kind" "I") :: (Cond.methodLink RX2 33 Lib.Math.min.name) :: (Cond.static Lib.Math.min.name) :: (Cond.initialized "java/lang/Math") :: (Cond.code Lib.Math.min.name Lib.Math.min.code 2 (some .int)) :: (Cond.methodLink RX2 39 Lib.Math.max.name) :: (Cond.static Lib.Math.max.name) :: (Cond.code Lib.Math.max.name Lib.Math.max.code 2 (some .int)) :: (Cond.methodLink RX2 29 yX2_calmWaysAt) :: (Cond.instanceMethod yX2_calmWaysAt) :: []
def wsX7_best_r4 : List Cond := (Cond.selects RX2 yX2_calmWaysAt yX2_calmWaysAt) :: (Cond.code yX2_calmWaysAt cX2_calmWaysAt 2 (some .int)) :: (Cond.fieldLink RX2 15 "TheLiningsInIt$Pull" "a" "I") :: []
def wsX7_best : List Cond := (.code yX7_best cX7_best 9 (some .int)) :: ((wsX7_best_r1 ++ (wsX7_best_r2 ++ (wsX7_best_r3 ++ wsX7_best_r4))) ++ wsX70 ++ wsX00 ++ wsX40 ++ wsX20)
def wsX7_behind_r1 : List Cond := (Cond.fieldLink RX7 18 "TheLiningsInIt" "now" "LTheLiningsInIt$Jacket;") :: (Cond.fieldLink RX7 116 "TheLiningsInIt$Jacket" "hurry" "I") :: (Cond.methodLink RX7 59 yX7_shelfAt) :: (Cond.instanceMethod yX7_shelfAt) :: (Cond.selects RX7 yX7_shelfAt yX7_shelfAt) :: (Cond.initialized RX7) :: (Cond.code yX7_shelfAt cX7_shelfAt 2 (some (.object "TheLiningsInIt$Shelf"))) :: (Cond.fieldLink RX7 11 "TheLiningsInIt" "shelves" "[LTheLiningsInIt$Shelf;") :: (Cond.methodLink RX7 67 yX7_within) :: (Cond.static yX7_within) :: (Cond.code yX7_within cX7_within 3 (some .boolean)) :: (Cond.methodLink RX7 100 yX0_pullAt) :: (Cond.instanceMethod yX0_pullAt) :: (Cond.selects RX0 yX0_pullAt yX0_pullAt) :: (Cond.initialized RX0) :: (Cond.code yX0_pullAt cX0_pullAt 2 (some (.object "TheLiningsInIt$Pull"))) :: (Cond.fieldLink RX0 28 "TheLiningsInIt$Jacket" "pullCount" "I") :: (Cond.fieldLink RX0 20 "TheLiningsInIt$Jacket" "pulls" "[LTheLiningsInIt$Pull;") :: (Cond.methodLink RX7 63 yX7_refuse) :: (Cond.instanceMethod yX7_refuse) :: (Cond.selects RX7 yX7_refuse yX7_refuse) :: (Cond.code yX7_refuse cX7_refuse 2 (some .int)) :: (Cond.fieldLink RX7 46 "TheLiningsInIt" "refusals" "[I") :: (Cond.methodLink RX7 220 yX4_noBelief) :: []
def wsX7_behind_r2 : List Cond := (Cond.instanceMethod yX4_noBelief) :: (Cond.selects RX4 yX4_noBelief yX4_noBelief) :: (Cond.initialized RX4) :: (Cond.code yX4_noBelief cX4_noBelief 2 (some .int)) :: (Cond.fieldLink RX4 19 "TheLiningsInIt$Shelf" "size" "I") :: (Cond.methodLink RX4 28 yX4_noRow) :: (Cond.instanceMethod yX4_noRow) :: (Cond.selects RX4 yX4_noRow yX4_noRow) :: (Cond.code yX4_noRow cX4_noRow 1 (some .int)) :: (Cond.fieldLink RX4 15 "TheLiningsInIt$Shelf" "held" "I") :: (Cond.methodLink RX4 32 yX4_tellsWithin) :: (Cond.instanceMethod yX4_tellsWithin) :: (Cond.selects RX4 yX4_tellsWithin yX4_tellsWithin) :: (Cond.code yX4_tellsWithin cX4_tellsWithin 5 (some .boolean)) :: (Cond.methodLink RX4 40 yX4_tells) :: (Cond.instanceMethod yX4_tells) :: (Cond.selects RX4 yX4_tells yX4_tells) :: (Cond.code yX4_tells cX4_tells 2 (some .int)) :: (Cond.fieldLink RX4 9 "TheLiningsInIt$Shelf" "elements" "[J") :: (Cond.methodLink RX4 36 yX4_hasSpan) :: (Cond.instanceMethod yX4_hasSpan) :: (Cond.selects RX4 yX4_hasSpan yX4_hasSpan) :: (Cond.code yX4_hasSpan cX4_hasSpan 3 (some .boolean)) :: (Cond.methodLink RX7 227 yX4_tells) :: []
def wsX7_behind_r3 : List Cond := (Cond.methodLink RX7 119 yX2_waysAt) :: (Cond.instanceMethod yX2_waysAt) :: (Cond.selects RX2 yX2_waysAt yX2_waysAt) :: (Cond.initialized RX2) :: (Cond.code yX2_waysAt cX2_waysAt 3 (some .int)) :: (Cond.fieldLink RX2 9 "TheLiningsInIt$Pull" "kind" "I") :: (Cond.methodLink RX2 33 Lib.Math.min.name) :: (Cond.static Lib.Math.min.name) :: (Cond.initialized "java/lang/Math") :: (Cond.code Lib.Math.min.name Lib.Math.min.code 2 (some .int)) :: (Cond.methodLink RX2 39 Lib.Math.max.name) :: (Cond.static Lib.Math.max.name) :: (Cond.code Lib.Math.max.name Lib.Math.max.code 2 (some .int)) :: (Cond.methodLink RX2 29 yX2_calmWaysAt) :: (Cond.instanceMethod yX2_calmWaysAt) :: (Cond.selects RX2 yX2_calmWaysAt yX2_calmWaysAt) :: (Cond.code yX2_calmWaysAt cX2_calmWaysAt 2 (some .int)) :: (Cond.fieldLink RX2 15 "TheLiningsInIt$Pull" "a" "I") :: (Cond.methodLink RX7 186 yX2_shallower) :: (Cond.instanceMethod yX2_shallower) :: (Cond.selects RX2 yX2_shallower yX2_shallower) :: (Cond.code yX2_shallower cX2_shallower 2 (some .int)) :: (Cond.methodLink RX2 42 yX2_step) :: (Cond.instanceMethod yX2_step) :: []
def wsX7_behind_r4 : List Cond := (Cond.selects RX2 yX2_step yX2_step) :: (Cond.code yX2_step cX2_step 1 (some .int)) :: (Cond.methodLink RX7 189 yX2_deeper) :: (Cond.instanceMethod yX2_deeper) :: (Cond.selects RX2 yX2_deeper yX2_deeper) :: (Cond.code yX2_deeper cX2_deeper 4 (some .int)) :: []
def wsX7_behind : List Cond := (.code yX7_behind cX7_behind 10 (some .int)) :: ((wsX7_behind_r1 ++ (wsX7_behind_r2 ++ (wsX7_behind_r3 ++ wsX7_behind_r4))) ++ wsX70 ++ wsX00 ++ wsX40 ++ wsX20)
def wsX7_strong_r1 : List Cond := (Cond.fieldLink RX7 18 "TheLiningsInIt" "now" "LTheLiningsInIt$Jacket;") :: (Cond.fieldLink RX7 140 "TheLiningsInIt$Jacket" "zip" "LTheLiningsInIt$Zip;") :: (Cond.methodLink RX7 230 yX6_isStrong) :: (Cond.instanceMethod yX6_isStrong) :: (Cond.selects RX6 yX6_isStrong yX6_isStrong) :: (Cond.initialized RX6) :: (Cond.code yX6_isStrong cX6_isStrong 2 (some .boolean)) :: (Cond.fieldLink RX6 19 "TheLiningsInIt$Zip" "size" "I") :: (Cond.methodLink RX6 36 yX6_lacksThreeFrom) :: (Cond.instanceMethod yX6_lacksThreeFrom) :: (Cond.selects RX6 yX6_lacksThreeFrom yX6_lacksThreeFrom) :: (Cond.code yX6_lacksThreeFrom cX6_lacksThreeFrom 2 (some .boolean)) :: (Cond.methodLink RX6 33 yX6_lacksAt) :: (Cond.instanceMethod yX6_lacksAt) :: (Cond.selects RX6 yX6_lacksAt yX6_lacksAt) :: (Cond.code yX6_lacksAt cX6_lacksAt 2 (some .boolean)) :: (Cond.fieldLink RX6 9 "TheLiningsInIt$Zip" "lacking" "[Z") :: (Cond.methodLink RX6 29 yX6_has) :: (Cond.instanceMethod yX6_has) :: (Cond.selects RX6 yX6_has yX6_has) :: (Cond.code yX6_has cX6_has 2 (some .boolean)) :: (Cond.methodLink RX7 234 yX6_frailTeeth) :: (Cond.instanceMethod yX6_frailTeeth) :: (Cond.selects RX6 yX6_frailTeeth yX6_frailTeeth) :: []
def wsX7_strong_r2 : List Cond := (Cond.code yX6_frailTeeth cX6_frailTeeth 3 (some .int)) :: (Cond.methodLink RX6 39 yX6_isStrong) :: (Cond.methodLink RX6 43 yX6_isFrail) :: (Cond.instanceMethod yX6_isFrail) :: (Cond.selects RX6 yX6_isFrail yX6_isFrail) :: (Cond.code yX6_isFrail cX6_isFrail 4 (some .boolean)) :: (Cond.methodLink RX7 237 yX6_spareTeeth) :: (Cond.instanceMethod yX6_spareTeeth) :: (Cond.selects RX6 yX6_spareTeeth yX6_spareTeeth) :: (Cond.code yX6_spareTeeth cX6_spareTeeth 8 (some .int)) :: (Cond.methodLink RX6 46 Lib.Math.max.name) :: (Cond.static Lib.Math.max.name) :: (Cond.initialized "java/lang/Math") :: (Cond.code Lib.Math.max.name Lib.Math.max.code 2 (some .int)) :: (Cond.methodLink RX7 240 yX6_lackingTeeth) :: (Cond.instanceMethod yX6_lackingTeeth) :: (Cond.selects RX6 yX6_lackingTeeth yX6_lackingTeeth) :: (Cond.code yX6_lackingTeeth cX6_lackingTeeth 3 (some .int)) :: (Cond.methodLink RX7 63 yX7_refuse) :: (Cond.instanceMethod yX7_refuse) :: (Cond.selects RX7 yX7_refuse yX7_refuse) :: (Cond.initialized RX7) :: (Cond.code yX7_refuse cX7_refuse 2 (some .int)) :: (Cond.fieldLink RX7 46 "TheLiningsInIt" "refusals" "[I") :: []
def wsX7_strong_r3 : List Cond := (Cond.methodLink RX7 67 yX7_within) :: (Cond.static yX7_within) :: (Cond.code yX7_within cX7_within 3 (some .boolean)) :: []
def wsX7_strong : List Cond := (.code yX7_strong cX7_strong 2 (some .int)) :: ((wsX7_strong_r1 ++ (wsX7_strong_r2 ++ wsX7_strong_r3)) ++ wsX70 ++ wsX00 ++ wsX60)
def wsX7_catches_r1 : List Cond := (Cond.fieldLink RX7 18 "TheLiningsInIt" "now" "LTheLiningsInIt$Jacket;") :: (Cond.fieldLink RX7 140 "TheLiningsInIt$Jacket" "zip" "LTheLiningsInIt$Zip;") :: (Cond.methodLink RX7 243 yX6_catchingTeeth) :: (Cond.instanceMethod yX6_catchingTeeth) :: (Cond.selects RX6 yX6_catchingTeeth yX6_catchingTeeth) :: (Cond.initialized RX6) :: (Cond.code yX6_catchingTeeth cX6_catchingTeeth 4 (some .int)) :: (Cond.fieldLink RX6 19 "TheLiningsInIt$Zip" "size" "I") :: (Cond.methodLink RX6 52 yX6_catchesAt) :: (Cond.instanceMethod yX6_catchesAt) :: (Cond.selects RX6 yX6_catchesAt yX6_catchesAt) :: (Cond.code yX6_catchesAt cX6_catchesAt 2 (some .boolean)) :: (Cond.fieldLink RX6 9 "TheLiningsInIt$Zip" "lacking" "[Z") :: (Cond.fieldLink RX6 15 "TheLiningsInIt$Zip" "slacks" "[I") :: (Cond.fieldLink RX6 26 "TheLiningsInIt$Zip" "gap" "I") :: (Cond.methodLink RX6 29 yX6_has) :: (Cond.instanceMethod yX6_has) :: (Cond.selects RX6 yX6_has yX6_has) :: (Cond.code yX6_has cX6_has 2 (some .boolean)) :: (Cond.methodLink RX7 63 yX7_refuse) :: (Cond.instanceMethod yX7_refuse) :: (Cond.selects RX7 yX7_refuse yX7_refuse) :: (Cond.initialized RX7) :: (Cond.code yX7_refuse cX7_refuse 2 (some .int)) :: []
def wsX7_catches_r2 : List Cond := (Cond.fieldLink RX7 46 "TheLiningsInIt" "refusals" "[I") :: (Cond.methodLink RX7 67 yX7_within) :: (Cond.static yX7_within) :: (Cond.code yX7_within cX7_within 3 (some .boolean)) :: []
def wsX7_catches : List Cond := (.code yX7_catches cX7_catches 3 (some .int)) :: ((wsX7_catches_r1 ++ wsX7_catches_r2) ++ wsX70 ++ wsX00 ++ wsX60)
def wsX7_stitches_r1 : List Cond := (Cond.fieldLink RX7 18 "TheLiningsInIt" "now" "LTheLiningsInIt$Jacket;") :: (Cond.fieldLink RX7 140 "TheLiningsInIt$Jacket" "zip" "LTheLiningsInIt$Zip;") :: (Cond.methodLink RX7 246 yX6_stitchesNeeded) :: (Cond.instanceMethod yX6_stitchesNeeded) :: (Cond.selects RX6 yX6_stitchesNeeded yX6_stitchesNeeded) :: (Cond.initialized RX6) :: (Cond.code yX6_stitchesNeeded cX6_stitchesNeeded 6 (some .int)) :: (Cond.fieldLink RX6 19 "TheLiningsInIt$Zip" "size" "I") :: (Cond.methodLink RX6 55 Lib.Math.min.name) :: (Cond.static Lib.Math.min.name) :: (Cond.initialized "java/lang/Math") :: (Cond.code Lib.Math.min.name Lib.Math.min.code 2 (some .int)) :: (Cond.methodLink RX6 52 yX6_catchesAt) :: (Cond.instanceMethod yX6_catchesAt) :: (Cond.selects RX6 yX6_catchesAt yX6_catchesAt) :: (Cond.code yX6_catchesAt cX6_catchesAt 2 (some .boolean)) :: (Cond.fieldLink RX6 9 "TheLiningsInIt$Zip" "lacking" "[Z") :: (Cond.fieldLink RX6 15 "TheLiningsInIt$Zip" "slacks" "[I") :: (Cond.fieldLink RX6 26 "TheLiningsInIt$Zip" "gap" "I") :: (Cond.methodLink RX6 29 yX6_has) :: (Cond.instanceMethod yX6_has) :: (Cond.selects RX6 yX6_has yX6_has) :: (Cond.code yX6_has cX6_has 2 (some .boolean)) :: (Cond.methodLink RX7 63 yX7_refuse) :: []
def wsX7_stitches_r2 : List Cond := (Cond.instanceMethod yX7_refuse) :: (Cond.selects RX7 yX7_refuse yX7_refuse) :: (Cond.initialized RX7) :: (Cond.code yX7_refuse cX7_refuse 2 (some .int)) :: (Cond.fieldLink RX7 46 "TheLiningsInIt" "refusals" "[I") :: (Cond.methodLink RX7 67 yX7_within) :: (Cond.static yX7_within) :: (Cond.code yX7_within cX7_within 3 (some .boolean)) :: []
def wsX7_stitches : List Cond := (.code yX7_stitches cX7_stitches 3 (some .int)) :: ((wsX7_stitches_r1 ++ wsX7_stitches_r2) ++ wsX70 ++ wsX00 ++ wsX60)
def wsX7_firstWrong_r1 : List Cond := (Cond.fieldLink RX7 18 "TheLiningsInIt" "now" "LTheLiningsInIt$Jacket;") :: (Cond.fieldLink RX7 199 "TheLiningsInIt$Jacket" "depth" "I") :: (Cond.fieldLink RX7 202 "TheLiningsInIt$Jacket" "seconds" "I") :: (Cond.fieldLink RX7 116 "TheLiningsInIt$Jacket" "hurry" "I") :: (Cond.fieldLink RX7 110 "TheLiningsInIt$Pull" "takes" "I") :: (Cond.methodLink RX7 227 yX4_tells) :: (Cond.instanceMethod yX4_tells) :: (Cond.selects RX4 yX4_tells yX4_tells) :: (Cond.initialized RX4) :: (Cond.code yX4_tells cX4_tells 2 (some .int)) :: (Cond.fieldLink RX4 9 "TheLiningsInIt$Shelf" "elements" "[J") :: (Cond.methodLink RX4 36 yX4_hasSpan) :: (Cond.instanceMethod yX4_hasSpan) :: (Cond.selects RX4 yX4_hasSpan yX4_hasSpan) :: (Cond.code yX4_hasSpan cX4_hasSpan 3 (some .boolean)) :: (Cond.fieldLink RX4 19 "TheLiningsInIt$Shelf" "size" "I") :: (Cond.methodLink RX7 100 yX0_pullAt) :: (Cond.instanceMethod yX0_pullAt) :: (Cond.selects RX0 yX0_pullAt yX0_pullAt) :: (Cond.initialized RX0) :: (Cond.code yX0_pullAt cX0_pullAt 2 (some (.object "TheLiningsInIt$Pull"))) :: (Cond.fieldLink RX0 28 "TheLiningsInIt$Jacket" "pullCount" "I") :: (Cond.fieldLink RX0 20 "TheLiningsInIt$Jacket" "pulls" "[LTheLiningsInIt$Pull;") :: (Cond.static yX7_within) :: []
def wsX7_firstWrong_r2 : List Cond := (Cond.initialized RX7) :: (Cond.code yX7_within cX7_within 3 (some .boolean)) :: (Cond.methodLink RX7 310 yX2_mayBe) :: (Cond.instanceMethod yX2_mayBe) :: (Cond.selects RX2 yX2_mayBe yX2_mayBe) :: (Cond.initialized RX2) :: (Cond.code yX2_mayBe cX2_mayBe 3 (some .boolean)) :: (Cond.fieldLink RX2 18 "TheLiningsInIt$Pull" "takes" "I") :: (Cond.methodLink RX7 119 yX2_waysAt) :: (Cond.instanceMethod yX2_waysAt) :: (Cond.selects RX2 yX2_waysAt yX2_waysAt) :: (Cond.code yX2_waysAt cX2_waysAt 3 (some .int)) :: (Cond.fieldLink RX2 9 "TheLiningsInIt$Pull" "kind" "I") :: (Cond.methodLink RX2 33 Lib.Math.min.name) :: (Cond.static Lib.Math.min.name) :: (Cond.initialized "java/lang/Math") :: (Cond.code Lib.Math.min.name Lib.Math.min.code 2 (some .int)) :: (Cond.methodLink RX2 39 Lib.Math.max.name) :: (Cond.static Lib.Math.max.name) :: (Cond.code Lib.Math.max.name Lib.Math.max.code 2 (some .int)) :: (Cond.methodLink RX2 29 yX2_calmWaysAt) :: (Cond.instanceMethod yX2_calmWaysAt) :: (Cond.selects RX2 yX2_calmWaysAt yX2_calmWaysAt) :: (Cond.code yX2_calmWaysAt cX2_calmWaysAt 2 (some .int)) :: []
def wsX7_firstWrong_r3 : List Cond := (Cond.fieldLink RX2 15 "TheLiningsInIt$Pull" "a" "I") :: (Cond.methodLink RX7 186 yX2_shallower) :: (Cond.instanceMethod yX2_shallower) :: (Cond.selects RX2 yX2_shallower yX2_shallower) :: (Cond.code yX2_shallower cX2_shallower 2 (some .int)) :: (Cond.methodLink RX2 42 yX2_step) :: (Cond.instanceMethod yX2_step) :: (Cond.selects RX2 yX2_step yX2_step) :: (Cond.code yX2_step cX2_step 1 (some .int)) :: (Cond.methodLink RX7 189 yX2_deeper) :: (Cond.instanceMethod yX2_deeper) :: (Cond.selects RX2 yX2_deeper yX2_deeper) :: (Cond.code yX2_deeper cX2_deeper 4 (some .int)) :: []
def wsX7_firstWrong : List Cond := (.code yX7_firstWrong cX7_firstWrong 8 (some .int)) :: ((wsX7_firstWrong_r1 ++ (wsX7_firstWrong_r2 ++ wsX7_firstWrong_r3)) ++ wsX70 ++ wsX00 ++ wsX20 ++ wsX40)
def wsX7_judge_r1 : List Cond := (Cond.methodLink RX7 59 yX7_shelfAt) :: (Cond.instanceMethod yX7_shelfAt) :: (Cond.selects RX7 yX7_shelfAt yX7_shelfAt) :: (Cond.initialized RX7) :: (Cond.code yX7_shelfAt cX7_shelfAt 2 (some (.object "TheLiningsInIt$Shelf"))) :: (Cond.fieldLink RX7 11 "TheLiningsInIt" "shelves" "[LTheLiningsInIt$Shelf;") :: (Cond.methodLink RX7 67 yX7_within) :: (Cond.static yX7_within) :: (Cond.code yX7_within cX7_within 3 (some .boolean)) :: (Cond.methodLink RX7 192 yX7_refuseLower) :: (Cond.instanceMethod yX7_refuseLower) :: (Cond.selects RX7 yX7_refuseLower yX7_refuseLower) :: (Cond.code yX7_refuseLower cX7_refuseLower 2 (some .int)) :: (Cond.methodLink RX7 63 yX7_refuse) :: (Cond.instanceMethod yX7_refuse) :: (Cond.selects RX7 yX7_refuse yX7_refuse) :: (Cond.code yX7_refuse cX7_refuse 2 (some .int)) :: (Cond.fieldLink RX7 46 "TheLiningsInIt" "refusals" "[I") :: (Cond.methodLink RX7 249 yX4_noTelling) :: (Cond.instanceMethod yX4_noTelling) :: (Cond.selects RX4 yX4_noTelling yX4_noTelling) :: (Cond.initialized RX4) :: (Cond.code yX4_noTelling cX4_noTelling 3 (some .int)) :: (Cond.fieldLink RX4 19 "TheLiningsInIt$Shelf" "size" "I") :: []
def wsX7_judge_r2 : List Cond := (Cond.methodLink RX4 28 yX4_noRow) :: (Cond.instanceMethod yX4_noRow) :: (Cond.selects RX4 yX4_noRow yX4_noRow) :: (Cond.code yX4_noRow cX4_noRow 1 (some .int)) :: (Cond.fieldLink RX4 15 "TheLiningsInIt$Shelf" "held" "I") :: (Cond.methodLink RX7 252 yX7_firstWrong) :: (Cond.instanceMethod yX7_firstWrong) :: (Cond.selects RX7 yX7_firstWrong yX7_firstWrong) :: (Cond.code yX7_firstWrong cX7_firstWrong 8 (some .int)) :: (Cond.fieldLink RX7 18 "TheLiningsInIt" "now" "LTheLiningsInIt$Jacket;") :: (Cond.fieldLink RX7 199 "TheLiningsInIt$Jacket" "depth" "I") :: (Cond.fieldLink RX7 202 "TheLiningsInIt$Jacket" "seconds" "I") :: (Cond.fieldLink RX7 116 "TheLiningsInIt$Jacket" "hurry" "I") :: (Cond.fieldLink RX7 110 "TheLiningsInIt$Pull" "takes" "I") :: (Cond.methodLink RX7 227 yX4_tells) :: (Cond.instanceMethod yX4_tells) :: (Cond.selects RX4 yX4_tells yX4_tells) :: (Cond.code yX4_tells cX4_tells 2 (some .int)) :: (Cond.fieldLink RX4 9 "TheLiningsInIt$Shelf" "elements" "[J") :: (Cond.methodLink RX4 36 yX4_hasSpan) :: (Cond.instanceMethod yX4_hasSpan) :: (Cond.selects RX4 yX4_hasSpan yX4_hasSpan) :: (Cond.code yX4_hasSpan cX4_hasSpan 3 (some .boolean)) :: (Cond.methodLink RX7 100 yX0_pullAt) :: []
def wsX7_judge_r3 : List Cond := (Cond.instanceMethod yX0_pullAt) :: (Cond.selects RX0 yX0_pullAt yX0_pullAt) :: (Cond.initialized RX0) :: (Cond.code yX0_pullAt cX0_pullAt 2 (some (.object "TheLiningsInIt$Pull"))) :: (Cond.fieldLink RX0 28 "TheLiningsInIt$Jacket" "pullCount" "I") :: (Cond.fieldLink RX0 20 "TheLiningsInIt$Jacket" "pulls" "[LTheLiningsInIt$Pull;") :: (Cond.methodLink RX7 310 yX2_mayBe) :: (Cond.instanceMethod yX2_mayBe) :: (Cond.selects RX2 yX2_mayBe yX2_mayBe) :: (Cond.initialized RX2) :: (Cond.code yX2_mayBe cX2_mayBe 3 (some .boolean)) :: (Cond.fieldLink RX2 18 "TheLiningsInIt$Pull" "takes" "I") :: (Cond.methodLink RX7 119 yX2_waysAt) :: (Cond.instanceMethod yX2_waysAt) :: (Cond.selects RX2 yX2_waysAt yX2_waysAt) :: (Cond.code yX2_waysAt cX2_waysAt 3 (some .int)) :: (Cond.fieldLink RX2 9 "TheLiningsInIt$Pull" "kind" "I") :: (Cond.methodLink RX2 33 Lib.Math.min.name) :: (Cond.static Lib.Math.min.name) :: (Cond.initialized "java/lang/Math") :: (Cond.code Lib.Math.min.name Lib.Math.min.code 2 (some .int)) :: (Cond.methodLink RX2 39 Lib.Math.max.name) :: (Cond.static Lib.Math.max.name) :: (Cond.code Lib.Math.max.name Lib.Math.max.code 2 (some .int)) :: []
def wsX7_judge_r4 : List Cond := (Cond.methodLink RX2 29 yX2_calmWaysAt) :: (Cond.instanceMethod yX2_calmWaysAt) :: (Cond.selects RX2 yX2_calmWaysAt yX2_calmWaysAt) :: (Cond.code yX2_calmWaysAt cX2_calmWaysAt 2 (some .int)) :: (Cond.fieldLink RX2 15 "TheLiningsInIt$Pull" "a" "I") :: (Cond.methodLink RX7 186 yX2_shallower) :: (Cond.instanceMethod yX2_shallower) :: (Cond.selects RX2 yX2_shallower yX2_shallower) :: (Cond.code yX2_shallower cX2_shallower 2 (some .int)) :: (Cond.methodLink RX2 42 yX2_step) :: (Cond.instanceMethod yX2_step) :: (Cond.selects RX2 yX2_step yX2_step) :: (Cond.code yX2_step cX2_step 1 (some .int)) :: (Cond.methodLink RX7 189 yX2_deeper) :: (Cond.instanceMethod yX2_deeper) :: (Cond.selects RX2 yX2_deeper yX2_deeper) :: (Cond.code yX2_deeper cX2_deeper 4 (some .int)) :: []
def wsX7_judge : List Cond := (.code yX7_judge cX7_judge 5 (some .int)) :: ((wsX7_judge_r1 ++ (wsX7_judge_r2 ++ (wsX7_judge_r3 ++ wsX7_judge_r4))) ++ wsX70 ++ wsX40 ++ wsX00 ++ wsX20)
def wsX7_rowsMeant_r1 : List Cond := (Cond.fieldLink RX7 18 "TheLiningsInIt" "now" "LTheLiningsInIt$Jacket;") :: (Cond.fieldLink RX7 199 "TheLiningsInIt$Jacket" "depth" "I") :: (Cond.constant RX7 312 (1000000)) :: (Cond.methodLink RX7 316 Lib.Math.min.name) :: (Cond.static Lib.Math.min.name) :: (Cond.initialized "java/lang/Math") :: (Cond.code Lib.Math.min.name Lib.Math.min.code 2 (some .int)) :: (Cond.methodLink RX7 227 yX4_tells) :: (Cond.instanceMethod yX4_tells) :: (Cond.selects RX4 yX4_tells yX4_tells) :: (Cond.initialized RX4) :: (Cond.code yX4_tells cX4_tells 2 (some .int)) :: (Cond.fieldLink RX4 9 "TheLiningsInIt$Shelf" "elements" "[J") :: (Cond.methodLink RX4 36 yX4_hasSpan) :: (Cond.instanceMethod yX4_hasSpan) :: (Cond.selects RX4 yX4_hasSpan yX4_hasSpan) :: (Cond.code yX4_hasSpan cX4_hasSpan 3 (some .boolean)) :: (Cond.fieldLink RX4 19 "TheLiningsInIt$Shelf" "size" "I") :: (Cond.methodLink RX7 313 yX0_pullsMaking) :: (Cond.instanceMethod yX0_pullsMaking) :: (Cond.selects RX0 yX0_pullsMaking yX0_pullsMaking) :: (Cond.initialized RX0) :: (Cond.code yX0_pullsMaking cX0_pullsMaking 6 (some .int)) :: (Cond.fieldLink RX0 28 "TheLiningsInIt$Jacket" "pullCount" "I") :: []
def wsX7_rowsMeant_r2 : List Cond := (Cond.fieldLink RX0 41 "TheLiningsInIt$Jacket" "hurry" "I") :: (Cond.methodLink RX0 77 yX0_pullAt) :: (Cond.instanceMethod yX0_pullAt) :: (Cond.selects RX0 yX0_pullAt yX0_pullAt) :: (Cond.code yX0_pullAt cX0_pullAt 2 (some (.object "TheLiningsInIt$Pull"))) :: (Cond.fieldLink RX0 20 "TheLiningsInIt$Jacket" "pulls" "[LTheLiningsInIt$Pull;") :: (Cond.static yX7_within) :: (Cond.initialized RX7) :: (Cond.code yX7_within cX7_within 3 (some .boolean)) :: (Cond.methodLink RX0 81 yX2_makes) :: (Cond.instanceMethod yX2_makes) :: (Cond.selects RX2 yX2_makes yX2_makes) :: (Cond.initialized RX2) :: (Cond.code yX2_makes cX2_makes 5 (some .boolean)) :: (Cond.methodLink RX2 46 yX2_waysAt) :: (Cond.instanceMethod yX2_waysAt) :: (Cond.selects RX2 yX2_waysAt yX2_waysAt) :: (Cond.code yX2_waysAt cX2_waysAt 3 (some .int)) :: (Cond.fieldLink RX2 9 "TheLiningsInIt$Pull" "kind" "I") :: (Cond.methodLink RX2 33 Lib.Math.min.name) :: (Cond.methodLink RX2 39 Lib.Math.max.name) :: (Cond.static Lib.Math.max.name) :: (Cond.code Lib.Math.max.name Lib.Math.max.code 2 (some .int)) :: (Cond.methodLink RX2 29 yX2_calmWaysAt) :: []
def wsX7_rowsMeant_r3 : List Cond := (Cond.instanceMethod yX2_calmWaysAt) :: (Cond.selects RX2 yX2_calmWaysAt yX2_calmWaysAt) :: (Cond.code yX2_calmWaysAt cX2_calmWaysAt 2 (some .int)) :: (Cond.fieldLink RX2 15 "TheLiningsInIt$Pull" "a" "I") :: (Cond.methodLink RX2 49 yX2_shallower) :: (Cond.instanceMethod yX2_shallower) :: (Cond.selects RX2 yX2_shallower yX2_shallower) :: (Cond.code yX2_shallower cX2_shallower 2 (some .int)) :: (Cond.methodLink RX2 42 yX2_step) :: (Cond.instanceMethod yX2_step) :: (Cond.selects RX2 yX2_step yX2_step) :: (Cond.code yX2_step cX2_step 1 (some .int)) :: (Cond.methodLink RX2 52 yX2_deeper) :: (Cond.instanceMethod yX2_deeper) :: (Cond.selects RX2 yX2_deeper yX2_deeper) :: (Cond.code yX2_deeper cX2_deeper 4 (some .int)) :: []
def wsX7_rowsMeant : List Cond := (.code yX7_rowsMeant cX7_rowsMeant 7 (some .int)) :: ((wsX7_rowsMeant_r1 ++ (wsX7_rowsMeant_r2 ++ wsX7_rowsMeant_r3)) ++ wsX70 ++ wsX00 ++ wsX40 ++ wsX20)
def wsX7_meant_r1 : List Cond := (Cond.fieldLink RX7 18 "TheLiningsInIt" "now" "LTheLiningsInIt$Jacket;") :: (Cond.fieldLink RX7 199 "TheLiningsInIt$Jacket" "depth" "I") :: (Cond.methodLink RX7 59 yX7_shelfAt) :: (Cond.instanceMethod yX7_shelfAt) :: (Cond.selects RX7 yX7_shelfAt yX7_shelfAt) :: (Cond.initialized RX7) :: (Cond.code yX7_shelfAt cX7_shelfAt 2 (some (.object "TheLiningsInIt$Shelf"))) :: (Cond.fieldLink RX7 11 "TheLiningsInIt" "shelves" "[LTheLiningsInIt$Shelf;") :: (Cond.methodLink RX7 67 yX7_within) :: (Cond.static yX7_within) :: (Cond.code yX7_within cX7_within 3 (some .boolean)) :: (Cond.methodLink RX7 63 yX7_refuse) :: (Cond.instanceMethod yX7_refuse) :: (Cond.selects RX7 yX7_refuse yX7_refuse) :: (Cond.code yX7_refuse cX7_refuse 2 (some .int)) :: (Cond.fieldLink RX7 46 "TheLiningsInIt" "refusals" "[I") :: (Cond.methodLink RX7 249 yX4_noTelling) :: (Cond.instanceMethod yX4_noTelling) :: (Cond.selects RX4 yX4_noTelling yX4_noTelling) :: (Cond.initialized RX4) :: (Cond.code yX4_noTelling cX4_noTelling 3 (some .int)) :: (Cond.fieldLink RX4 19 "TheLiningsInIt$Shelf" "size" "I") :: (Cond.methodLink RX4 28 yX4_noRow) :: (Cond.instanceMethod yX4_noRow) :: []
def wsX7_meant_r2 : List Cond := (Cond.selects RX4 yX4_noRow yX4_noRow) :: (Cond.code yX4_noRow cX4_noRow 1 (some .int)) :: (Cond.fieldLink RX4 15 "TheLiningsInIt$Shelf" "held" "I") :: (Cond.methodLink RX7 256 yX4_tellsWithin) :: (Cond.instanceMethod yX4_tellsWithin) :: (Cond.selects RX4 yX4_tellsWithin yX4_tellsWithin) :: (Cond.code yX4_tellsWithin cX4_tellsWithin 5 (some .boolean)) :: (Cond.methodLink RX4 40 yX4_tells) :: (Cond.instanceMethod yX4_tells) :: (Cond.selects RX4 yX4_tells yX4_tells) :: (Cond.code yX4_tells cX4_tells 2 (some .int)) :: (Cond.fieldLink RX4 9 "TheLiningsInIt$Shelf" "elements" "[J") :: (Cond.methodLink RX4 36 yX4_hasSpan) :: (Cond.instanceMethod yX4_hasSpan) :: (Cond.selects RX4 yX4_hasSpan yX4_hasSpan) :: (Cond.code yX4_hasSpan cX4_hasSpan 3 (some .boolean)) :: (Cond.methodLink RX7 259 yX7_rowsMeant) :: (Cond.instanceMethod yX7_rowsMeant) :: (Cond.selects RX7 yX7_rowsMeant yX7_rowsMeant) :: (Cond.code yX7_rowsMeant cX7_rowsMeant 7 (some .int)) :: (Cond.constant RX7 312 (1000000)) :: (Cond.methodLink RX7 316 Lib.Math.min.name) :: (Cond.static Lib.Math.min.name) :: (Cond.initialized "java/lang/Math") :: []
def wsX7_meant_r3 : List Cond := (Cond.code Lib.Math.min.name Lib.Math.min.code 2 (some .int)) :: (Cond.methodLink RX7 227 yX4_tells) :: (Cond.methodLink RX7 313 yX0_pullsMaking) :: (Cond.instanceMethod yX0_pullsMaking) :: (Cond.selects RX0 yX0_pullsMaking yX0_pullsMaking) :: (Cond.initialized RX0) :: (Cond.code yX0_pullsMaking cX0_pullsMaking 6 (some .int)) :: (Cond.fieldLink RX0 28 "TheLiningsInIt$Jacket" "pullCount" "I") :: (Cond.fieldLink RX0 41 "TheLiningsInIt$Jacket" "hurry" "I") :: (Cond.methodLink RX0 77 yX0_pullAt) :: (Cond.instanceMethod yX0_pullAt) :: (Cond.selects RX0 yX0_pullAt yX0_pullAt) :: (Cond.code yX0_pullAt cX0_pullAt 2 (some (.object "TheLiningsInIt$Pull"))) :: (Cond.fieldLink RX0 20 "TheLiningsInIt$Jacket" "pulls" "[LTheLiningsInIt$Pull;") :: (Cond.methodLink RX0 81 yX2_makes) :: (Cond.instanceMethod yX2_makes) :: (Cond.selects RX2 yX2_makes yX2_makes) :: (Cond.initialized RX2) :: (Cond.code yX2_makes cX2_makes 5 (some .boolean)) :: (Cond.methodLink RX2 46 yX2_waysAt) :: (Cond.instanceMethod yX2_waysAt) :: (Cond.selects RX2 yX2_waysAt yX2_waysAt) :: (Cond.code yX2_waysAt cX2_waysAt 3 (some .int)) :: (Cond.fieldLink RX2 9 "TheLiningsInIt$Pull" "kind" "I") :: []
def wsX7_meant_r4 : List Cond := (Cond.methodLink RX2 33 Lib.Math.min.name) :: (Cond.methodLink RX2 39 Lib.Math.max.name) :: (Cond.static Lib.Math.max.name) :: (Cond.code Lib.Math.max.name Lib.Math.max.code 2 (some .int)) :: (Cond.methodLink RX2 29 yX2_calmWaysAt) :: (Cond.instanceMethod yX2_calmWaysAt) :: (Cond.selects RX2 yX2_calmWaysAt yX2_calmWaysAt) :: (Cond.code yX2_calmWaysAt cX2_calmWaysAt 2 (some .int)) :: (Cond.fieldLink RX2 15 "TheLiningsInIt$Pull" "a" "I") :: (Cond.methodLink RX2 49 yX2_shallower) :: (Cond.instanceMethod yX2_shallower) :: (Cond.selects RX2 yX2_shallower yX2_shallower) :: (Cond.code yX2_shallower cX2_shallower 2 (some .int)) :: (Cond.methodLink RX2 42 yX2_step) :: (Cond.instanceMethod yX2_step) :: (Cond.selects RX2 yX2_step yX2_step) :: (Cond.code yX2_step cX2_step 1 (some .int)) :: (Cond.methodLink RX2 52 yX2_deeper) :: (Cond.instanceMethod yX2_deeper) :: (Cond.selects RX2 yX2_deeper yX2_deeper) :: (Cond.code yX2_deeper cX2_deeper 4 (some .int)) :: (Cond.methodLink RX7 262 yX0_firstMaking) :: (Cond.instanceMethod yX0_firstMaking) :: (Cond.selects RX0 yX0_firstMaking yX0_firstMaking) :: []
def wsX7_meant_r5 : List Cond := (Cond.code yX0_firstMaking cX0_firstMaking 5 (some .int)) :: []
def wsX7_meant : List Cond := (.code yX7_meant cX7_meant 8 (some .int)) :: ((wsX7_meant_r1 ++ (wsX7_meant_r2 ++ (wsX7_meant_r3 ++ (wsX7_meant_r4 ++ wsX7_meant_r5)))) ++ wsX70 ++ wsX00 ++ wsX40 ++ wsX20)
def wsX7_closed_r1 : List Cond := (Cond.fieldLink RX7 18 "TheLiningsInIt" "now" "LTheLiningsInIt$Jacket;") :: (Cond.fieldLink RX7 140 "TheLiningsInIt$Jacket" "zip" "LTheLiningsInIt$Zip;") :: (Cond.methodLink RX7 265 yX6_runsTo) :: (Cond.instanceMethod yX6_runsTo) :: (Cond.selects RX6 yX6_runsTo yX6_runsTo) :: (Cond.initialized RX6) :: (Cond.code yX6_runsTo cX6_runsTo 2 (some .int)) :: (Cond.fieldLink RX6 23 "TheLiningsInIt$Zip" "at" "I") :: (Cond.fieldLink RX6 19 "TheLiningsInIt$Zip" "size" "I") :: (Cond.methodLink RX6 52 yX6_catchesAt) :: (Cond.instanceMethod yX6_catchesAt) :: (Cond.selects RX6 yX6_catchesAt yX6_catchesAt) :: (Cond.code yX6_catchesAt cX6_catchesAt 2 (some .boolean)) :: (Cond.fieldLink RX6 9 "TheLiningsInIt$Zip" "lacking" "[Z") :: (Cond.fieldLink RX6 15 "TheLiningsInIt$Zip" "slacks" "[I") :: (Cond.fieldLink RX6 26 "TheLiningsInIt$Zip" "gap" "I") :: (Cond.methodLink RX6 29 yX6_has) :: (Cond.instanceMethod yX6_has) :: (Cond.selects RX6 yX6_has yX6_has) :: (Cond.code yX6_has cX6_has 2 (some .boolean)) :: (Cond.methodLink RX6 36 yX6_lacksThreeFrom) :: (Cond.instanceMethod yX6_lacksThreeFrom) :: (Cond.selects RX6 yX6_lacksThreeFrom yX6_lacksThreeFrom) :: (Cond.code yX6_lacksThreeFrom cX6_lacksThreeFrom 2 (some .boolean)) :: []
def wsX7_closed_r2 : List Cond := (Cond.methodLink RX6 33 yX6_lacksAt) :: (Cond.instanceMethod yX6_lacksAt) :: (Cond.selects RX6 yX6_lacksAt yX6_lacksAt) :: (Cond.code yX6_lacksAt cX6_lacksAt 2 (some .boolean)) :: []
def wsX7_closed : List Cond := (.code yX7_closed cX7_closed 1 (some .int)) :: ((wsX7_closed_r1 ++ wsX7_closed_r2) ++ wsX70 ++ wsX00 ++ wsX60)
def wsX7_pulls_r1 : List Cond := (Cond.fieldLink RX7 18 "TheLiningsInIt" "now" "LTheLiningsInIt$Jacket;") :: (Cond.fieldLink RX7 199 "TheLiningsInIt$Jacket" "depth" "I") :: (Cond.methodLink RX7 100 yX0_pullAt) :: (Cond.instanceMethod yX0_pullAt) :: (Cond.selects RX0 yX0_pullAt yX0_pullAt) :: (Cond.initialized RX0) :: (Cond.code yX0_pullAt cX0_pullAt 2 (some (.object "TheLiningsInIt$Pull"))) :: (Cond.fieldLink RX0 28 "TheLiningsInIt$Jacket" "pullCount" "I") :: (Cond.fieldLink RX0 20 "TheLiningsInIt$Jacket" "pulls" "[LTheLiningsInIt$Pull;") :: (Cond.static yX7_within) :: (Cond.initialized RX7) :: (Cond.code yX7_within cX7_within 3 (some .boolean)) :: (Cond.methodLink RX7 63 yX7_refuse) :: (Cond.instanceMethod yX7_refuse) :: (Cond.selects RX7 yX7_refuse yX7_refuse) :: (Cond.code yX7_refuse cX7_refuse 2 (some .int)) :: (Cond.fieldLink RX7 46 "TheLiningsInIt" "refusals" "[I") :: (Cond.methodLink RX7 67 yX7_within) :: (Cond.methodLink RX7 136 yX0_mayBe) :: (Cond.instanceMethod yX0_mayBe) :: (Cond.selects RX0 yX0_mayBe yX0_mayBe) :: (Cond.code yX0_mayBe cX0_mayBe 2 (some .boolean)) :: (Cond.fieldLink RX0 32 "TheLiningsInIt$Jacket" "depth" "I") :: (Cond.fieldLink RX0 38 "TheLiningsInIt$Jacket" "seconds" "I") :: []
def wsX7_pulls_r2 : List Cond := (Cond.methodLink RX0 73 yX2_mayBe) :: (Cond.instanceMethod yX2_mayBe) :: (Cond.selects RX2 yX2_mayBe yX2_mayBe) :: (Cond.initialized RX2) :: (Cond.code yX2_mayBe cX2_mayBe 3 (some .boolean)) :: (Cond.fieldLink RX2 18 "TheLiningsInIt$Pull" "takes" "I") :: (Cond.methodLink RX7 268 yX0_pullInTruth) :: (Cond.instanceMethod yX0_pullInTruth) :: (Cond.selects RX0 yX0_pullInTruth yX0_pullInTruth) :: (Cond.code yX0_pullInTruth cX0_pullInTruth 3 none) :: (Cond.fieldLink RX0 41 "TheLiningsInIt$Jacket" "hurry" "I") :: (Cond.fieldLink RX0 99 "TheLiningsInIt$Pull" "takes" "I") :: (Cond.fieldLink RX0 102 "TheLiningsInIt$Pull" "kind" "I") :: (Cond.fieldLink RX0 35 "TheLiningsInIt$Jacket" "torn" "I") :: (Cond.methodLink RX0 85 yX0_draw) :: (Cond.instanceMethod yX0_draw) :: (Cond.selects RX0 yX0_draw yX0_draw) :: (Cond.code yX0_draw cX0_draw 2 (some .int)) :: (Cond.fieldLink RX0 44 "TheLiningsInIt$Jacket" "seedNow" "I") :: (Cond.constant RX0 84 (1103515245)) :: (Cond.methodLink RX0 89 yX2_waysAt) :: (Cond.instanceMethod yX2_waysAt) :: (Cond.selects RX2 yX2_waysAt yX2_waysAt) :: (Cond.code yX2_waysAt cX2_waysAt 3 (some .int)) :: []
def wsX7_pulls_r3 : List Cond := (Cond.fieldLink RX2 9 "TheLiningsInIt$Pull" "kind" "I") :: (Cond.methodLink RX2 33 Lib.Math.min.name) :: (Cond.static Lib.Math.min.name) :: (Cond.initialized "java/lang/Math") :: (Cond.code Lib.Math.min.name Lib.Math.min.code 2 (some .int)) :: (Cond.methodLink RX2 39 Lib.Math.max.name) :: (Cond.static Lib.Math.max.name) :: (Cond.code Lib.Math.max.name Lib.Math.max.code 2 (some .int)) :: (Cond.methodLink RX2 29 yX2_calmWaysAt) :: (Cond.instanceMethod yX2_calmWaysAt) :: (Cond.selects RX2 yX2_calmWaysAt yX2_calmWaysAt) :: (Cond.code yX2_calmWaysAt cX2_calmWaysAt 2 (some .int)) :: (Cond.fieldLink RX2 15 "TheLiningsInIt$Pull" "a" "I") :: (Cond.methodLink RX0 93 yX2_shallower) :: (Cond.instanceMethod yX2_shallower) :: (Cond.selects RX2 yX2_shallower yX2_shallower) :: (Cond.code yX2_shallower cX2_shallower 2 (some .int)) :: (Cond.methodLink RX2 42 yX2_step) :: (Cond.instanceMethod yX2_step) :: (Cond.selects RX2 yX2_step yX2_step) :: (Cond.code yX2_step cX2_step 1 (some .int)) :: (Cond.methodLink RX0 96 yX2_deeper) :: (Cond.instanceMethod yX2_deeper) :: (Cond.selects RX2 yX2_deeper yX2_deeper) :: []
def wsX7_pulls_r4 : List Cond := (Cond.code yX2_deeper cX2_deeper 4 (some .int)) :: []
def wsX7_pulls : List Cond := (.code yX7_pulls cX7_pulls 3 (some .int)) :: ((wsX7_pulls_r1 ++ (wsX7_pulls_r2 ++ (wsX7_pulls_r3 ++ wsX7_pulls_r4))) ++ wsX70 ++ wsX00 ++ wsX20)
def wsX7_close_r1 : List Cond := (Cond.fieldLink RX7 18 "TheLiningsInIt" "now" "LTheLiningsInIt$Jacket;") :: (Cond.fieldLink RX7 199 "TheLiningsInIt$Jacket" "depth" "I") :: (Cond.fieldLink RX7 140 "TheLiningsInIt$Jacket" "zip" "LTheLiningsInIt$Zip;") :: (Cond.fieldLink RX7 275 "TheLiningsInIt$Zip" "at" "I") :: (Cond.methodLink RX7 63 yX7_refuse) :: (Cond.instanceMethod yX7_refuse) :: (Cond.selects RX7 yX7_refuse yX7_refuse) :: (Cond.initialized RX7) :: (Cond.code yX7_refuse cX7_refuse 2 (some .int)) :: (Cond.fieldLink RX7 46 "TheLiningsInIt" "refusals" "[I") :: (Cond.methodLink RX7 67 yX7_within) :: (Cond.static yX7_within) :: (Cond.code yX7_within cX7_within 3 (some .boolean)) :: (Cond.methodLink RX7 272 yX0_closeInTruth) :: (Cond.instanceMethod yX0_closeInTruth) :: (Cond.selects RX0 yX0_closeInTruth yX0_closeInTruth) :: (Cond.initialized RX0) :: (Cond.code yX0_closeInTruth cX0_closeInTruth 2 none) :: (Cond.fieldLink RX0 12 "TheLiningsInIt$Jacket" "zip" "LTheLiningsInIt$Zip;") :: (Cond.fieldLink RX0 63 "TheLiningsInIt$Zip" "at" "I") :: (Cond.fieldLink RX0 57 "TheLiningsInIt$Zip" "size" "I") :: (Cond.fieldLink RX0 109 "TheLiningsInIt$Zip" "slacks" "[I") :: (Cond.fieldLink RX0 60 "TheLiningsInIt$Zip" "gap" "I") :: (Cond.fieldLink RX0 32 "TheLiningsInIt$Jacket" "depth" "I") :: []
def wsX7_close_r2 : List Cond := (Cond.methodLink RX0 105 yX6_catchesAt) :: (Cond.instanceMethod yX6_catchesAt) :: (Cond.selects RX6 yX6_catchesAt yX6_catchesAt) :: (Cond.initialized RX6) :: (Cond.code yX6_catchesAt cX6_catchesAt 2 (some .boolean)) :: (Cond.fieldLink RX6 9 "TheLiningsInIt$Zip" "lacking" "[Z") :: (Cond.fieldLink RX6 15 "TheLiningsInIt$Zip" "slacks" "[I") :: (Cond.fieldLink RX6 26 "TheLiningsInIt$Zip" "gap" "I") :: (Cond.methodLink RX6 29 yX6_has) :: (Cond.instanceMethod yX6_has) :: (Cond.selects RX6 yX6_has yX6_has) :: (Cond.code yX6_has cX6_has 2 (some .boolean)) :: (Cond.fieldLink RX6 19 "TheLiningsInIt$Zip" "size" "I") :: (Cond.methodLink RX0 85 yX0_draw) :: (Cond.instanceMethod yX0_draw) :: (Cond.selects RX0 yX0_draw yX0_draw) :: (Cond.code yX0_draw cX0_draw 2 (some .int)) :: (Cond.fieldLink RX0 44 "TheLiningsInIt$Jacket" "seedNow" "I") :: (Cond.constant RX0 84 (1103515245)) :: (Cond.methodLink RX0 112 yX6_lacksThreeFrom) :: (Cond.instanceMethod yX6_lacksThreeFrom) :: (Cond.selects RX6 yX6_lacksThreeFrom yX6_lacksThreeFrom) :: (Cond.code yX6_lacksThreeFrom cX6_lacksThreeFrom 2 (some .boolean)) :: (Cond.methodLink RX6 33 yX6_lacksAt) :: []
def wsX7_close_r3 : List Cond := (Cond.instanceMethod yX6_lacksAt) :: (Cond.selects RX6 yX6_lacksAt yX6_lacksAt) :: (Cond.code yX6_lacksAt cX6_lacksAt 2 (some .boolean)) :: []
def wsX7_close : List Cond := (.code yX7_close cX7_close 1 (some .int)) :: ((wsX7_close_r1 ++ (wsX7_close_r2 ++ wsX7_close_r3)) ++ wsX70 ++ wsX00 ++ wsX60)
def wsX7_winter_r1 : List Cond := (Cond.fieldLink RX7 28 "TheLiningsInIt" "ways" "LTheLiningsInIt$Ways;") :: (Cond.fieldLink RX7 18 "TheLiningsInIt" "now" "LTheLiningsInIt$Jacket;") :: (Cond.fieldLink RX7 116 "TheLiningsInIt$Jacket" "hurry" "I") :: (Cond.methodLink RX7 67 yX7_within) :: (Cond.static yX7_within) :: (Cond.initialized RX7) :: (Cond.code yX7_within cX7_within 3 (some .boolean)) :: (Cond.methodLink RX7 63 yX7_refuse) :: (Cond.instanceMethod yX7_refuse) :: (Cond.selects RX7 yX7_refuse yX7_refuse) :: (Cond.code yX7_refuse cX7_refuse 2 (some .int)) :: (Cond.fieldLink RX7 46 "TheLiningsInIt" "refusals" "[I") :: (Cond.methodLink RX7 195 yX5_look) :: (Cond.instanceMethod yX5_look) :: (Cond.selects RX5 yX5_look yX5_look) :: (Cond.initialized RX5) :: (Cond.code yX5_look cX5_look 7 none) :: (Cond.fieldLink RX5 37 "TheLiningsInIt$Jacket" "pullCount" "I") :: (Cond.fieldLink RX5 27 "TheLiningsInIt$Ways" "count" "I") :: (Cond.fieldLink RX5 31 "TheLiningsInIt$Ways" "hurry" "I") :: (Cond.fieldLink RX5 34 "TheLiningsInIt$Ways" "longest" "I") :: (Cond.fieldLink RX5 46 "TheLiningsInIt$Pull" "kind" "I") :: (Cond.fieldLink RX5 23 "TheLiningsInIt$Ways" "pulls" "[LTheLiningsInIt$Pull;") :: (Cond.fieldLink RX5 49 "TheLiningsInIt$Pull" "takes" "I") :: []
def wsX7_winter_r2 : List Cond := (Cond.methodLink RX5 52 Lib.Math.max.name) :: (Cond.static Lib.Math.max.name) :: (Cond.initialized "java/lang/Math") :: (Cond.code Lib.Math.max.name Lib.Math.max.code 2 (some .int)) :: (Cond.fieldLink RX5 58 "TheLiningsInIt$Jacket" "costs" "[I") :: (Cond.fieldLink RX5 18 "TheLiningsInIt$Ways" "costs" "[I") :: (Cond.methodLink RX5 59 arraycopyName) :: (Cond.native arraycopyName) :: (Cond.static arraycopyName) :: (Cond.initialized "java/lang/System") :: (Cond.fieldLink RX5 9 "TheLiningsInIt$Ways" "knownMost" "[I") :: (Cond.fieldLink RX5 15 "TheLiningsInIt$Ways" "knownLeast" "[I") :: (Cond.methodLink RX5 42 yX0_pullAt) :: (Cond.instanceMethod yX0_pullAt) :: (Cond.selects RX0 yX0_pullAt yX0_pullAt) :: (Cond.initialized RX0) :: (Cond.code yX0_pullAt cX0_pullAt 2 (some (.object "TheLiningsInIt$Pull"))) :: (Cond.fieldLink RX0 28 "TheLiningsInIt$Jacket" "pullCount" "I") :: (Cond.fieldLink RX0 20 "TheLiningsInIt$Jacket" "pulls" "[LTheLiningsInIt$Pull;") :: (Cond.methodLink RX5 65 yJ7_fill_53178) :: (Cond.static yJ7_fill_53178) :: (Cond.initialized RJ7) :: (Cond.code yJ7_fill_53178 cJ7_fill_53178 4 none) :: (Cond.methodLink RX7 278 yX0_dayInTruth) :: []
def wsX7_winter_r3 : List Cond := (Cond.instanceMethod yX0_dayInTruth) :: (Cond.selects RX0 yX0_dayInTruth yX0_dayInTruth) :: (Cond.code yX0_dayInTruth cX0_dayInTruth 3 (some .boolean)) :: (Cond.fieldLink RX0 12 "TheLiningsInIt$Jacket" "zip" "LTheLiningsInIt$Zip;") :: (Cond.fieldLink RX0 63 "TheLiningsInIt$Zip" "at" "I") :: (Cond.fieldLink RX0 32 "TheLiningsInIt$Jacket" "depth" "I") :: (Cond.fieldLink RX0 38 "TheLiningsInIt$Jacket" "seconds" "I") :: (Cond.fieldLink RX0 57 "TheLiningsInIt$Zip" "size" "I") :: (Cond.methodLink RX0 115 yX0_closeInTruth) :: (Cond.instanceMethod yX0_closeInTruth) :: (Cond.selects RX0 yX0_closeInTruth yX0_closeInTruth) :: (Cond.code yX0_closeInTruth cX0_closeInTruth 2 none) :: (Cond.fieldLink RX0 109 "TheLiningsInIt$Zip" "slacks" "[I") :: (Cond.fieldLink RX0 60 "TheLiningsInIt$Zip" "gap" "I") :: (Cond.methodLink RX0 105 yX6_catchesAt) :: (Cond.instanceMethod yX6_catchesAt) :: (Cond.selects RX6 yX6_catchesAt yX6_catchesAt) :: (Cond.initialized RX6) :: (Cond.code yX6_catchesAt cX6_catchesAt 2 (some .boolean)) :: (Cond.fieldLink RX6 9 "TheLiningsInIt$Zip" "lacking" "[Z") :: (Cond.fieldLink RX6 15 "TheLiningsInIt$Zip" "slacks" "[I") :: (Cond.fieldLink RX6 26 "TheLiningsInIt$Zip" "gap" "I") :: (Cond.methodLink RX6 29 yX6_has) :: (Cond.instanceMethod yX6_has) :: []
def wsX7_winter_r4 : List Cond := (Cond.selects RX6 yX6_has yX6_has) :: (Cond.code yX6_has cX6_has 2 (some .boolean)) :: (Cond.fieldLink RX6 19 "TheLiningsInIt$Zip" "size" "I") :: (Cond.methodLink RX0 85 yX0_draw) :: (Cond.instanceMethod yX0_draw) :: (Cond.selects RX0 yX0_draw yX0_draw) :: (Cond.code yX0_draw cX0_draw 2 (some .int)) :: (Cond.fieldLink RX0 44 "TheLiningsInIt$Jacket" "seedNow" "I") :: (Cond.constant RX0 84 (1103515245)) :: (Cond.methodLink RX0 112 yX6_lacksThreeFrom) :: (Cond.instanceMethod yX6_lacksThreeFrom) :: (Cond.selects RX6 yX6_lacksThreeFrom yX6_lacksThreeFrom) :: (Cond.code yX6_lacksThreeFrom cX6_lacksThreeFrom 2 (some .boolean)) :: (Cond.methodLink RX6 33 yX6_lacksAt) :: (Cond.instanceMethod yX6_lacksAt) :: (Cond.selects RX6 yX6_lacksAt yX6_lacksAt) :: (Cond.code yX6_lacksAt cX6_lacksAt 2 (some .boolean)) :: (Cond.methodLink RX0 118 yX0_pullFreeInTruth) :: (Cond.instanceMethod yX0_pullFreeInTruth) :: (Cond.selects RX0 yX0_pullFreeInTruth yX0_pullFreeInTruth) :: (Cond.code yX0_pullFreeInTruth cX0_pullFreeInTruth 4 none) :: (Cond.methodLink RX0 122 yX5_next) :: (Cond.instanceMethod yX5_next) :: (Cond.selects RX5 yX5_next yX5_next) :: []
def wsX7_winter_r5 : List Cond := (Cond.code yX5_next cX5_next 9 (some .int)) :: (Cond.methodLink RX5 82 yX5_mayBeAt) :: (Cond.instanceMethod yX5_mayBeAt) :: (Cond.selects RX5 yX5_mayBeAt yX5_mayBeAt) :: (Cond.code yX5_mayBeAt cX5_mayBeAt 5 (some (.object "TheLiningsInIt$Pull"))) :: (Cond.methodLink RX5 75 yX2_mayBe) :: (Cond.instanceMethod yX2_mayBe) :: (Cond.selects RX2 yX2_mayBe yX2_mayBe) :: (Cond.initialized RX2) :: (Cond.code yX2_mayBe cX2_mayBe 3 (some .boolean)) :: (Cond.fieldLink RX2 18 "TheLiningsInIt$Pull" "takes" "I") :: (Cond.methodLink RX5 86 yX5_mostBy) :: (Cond.instanceMethod yX5_mostBy) :: (Cond.selects RX5 yX5_mostBy yX5_mostBy) :: (Cond.code yX5_mostBy cX5_mostBy 8 (some .int)) :: (Cond.methodLink RX5 90 yX2_waysAt) :: (Cond.instanceMethod yX2_waysAt) :: (Cond.selects RX2 yX2_waysAt yX2_waysAt) :: (Cond.code yX2_waysAt cX2_waysAt 3 (some .int)) :: (Cond.fieldLink RX2 9 "TheLiningsInIt$Pull" "kind" "I") :: (Cond.methodLink RX2 33 Lib.Math.min.name) :: (Cond.static Lib.Math.min.name) :: (Cond.code Lib.Math.min.name Lib.Math.min.code 2 (some .int)) :: (Cond.methodLink RX2 39 Lib.Math.max.name) :: []
def wsX7_winter_r6 : List Cond := (Cond.methodLink RX2 29 yX2_calmWaysAt) :: (Cond.instanceMethod yX2_calmWaysAt) :: (Cond.selects RX2 yX2_calmWaysAt yX2_calmWaysAt) :: (Cond.code yX2_calmWaysAt cX2_calmWaysAt 2 (some .int)) :: (Cond.fieldLink RX2 15 "TheLiningsInIt$Pull" "a" "I") :: (Cond.methodLink RX5 93 yX2_shallower) :: (Cond.instanceMethod yX2_shallower) :: (Cond.selects RX2 yX2_shallower yX2_shallower) :: (Cond.code yX2_shallower cX2_shallower 2 (some .int)) :: (Cond.methodLink RX2 42 yX2_step) :: (Cond.instanceMethod yX2_step) :: (Cond.selects RX2 yX2_step yX2_step) :: (Cond.code yX2_step cX2_step 1 (some .int)) :: (Cond.methodLink RX5 97 yX5_most) :: (Cond.instanceMethod yX5_most) :: (Cond.selects RX5 yX5_most yX5_most) :: (Cond.methodLink RX5 101 yX2_deeper) :: (Cond.instanceMethod yX2_deeper) :: (Cond.selects RX2 yX2_deeper yX2_deeper) :: (Cond.code yX2_deeper cX2_deeper 4 (some .int)) :: (Cond.code yX5_most cX5_most 9 (some .int)) :: (Cond.fieldLink RX5 79 "TheLiningsInIt$Ways" "POWERS" "[I") :: (Cond.methodLink RX0 77 yX0_pullAt) :: (Cond.methodLink RX0 128 yX0_pullInTruth) :: []
def wsX7_winter_r7 : List Cond := (Cond.instanceMethod yX0_pullInTruth) :: (Cond.selects RX0 yX0_pullInTruth yX0_pullInTruth) :: (Cond.code yX0_pullInTruth cX0_pullInTruth 3 none) :: (Cond.fieldLink RX0 41 "TheLiningsInIt$Jacket" "hurry" "I") :: (Cond.fieldLink RX0 99 "TheLiningsInIt$Pull" "takes" "I") :: (Cond.fieldLink RX0 102 "TheLiningsInIt$Pull" "kind" "I") :: (Cond.fieldLink RX0 35 "TheLiningsInIt$Jacket" "torn" "I") :: (Cond.methodLink RX0 89 yX2_waysAt) :: (Cond.methodLink RX0 93 yX2_shallower) :: (Cond.methodLink RX0 96 yX2_deeper) :: []
def wsX7_winter : List Cond := (.code yX7_winter cX7_winter 4 (some .int)) :: ((wsX7_winter_r1 ++ (wsX7_winter_r2 ++ (wsX7_winter_r3 ++ (wsX7_winter_r4 ++ (wsX7_winter_r5 ++ (wsX7_winter_r6 ++ wsX7_winter_r7)))))) ++ wsX70 ++ wsX00 ++ wsX50 ++ wsX20 ++ wsX60)
def wsX7_stitch : List Cond := (.code yX7_stitch cX7_stitch 2 (some .int)) :: (.fieldLink RX7 18 "TheLiningsInIt" "now" "LTheLiningsInIt$Jacket;") :: (.fieldLink RX7 140 "TheLiningsInIt$Jacket" "zip" "LTheLiningsInIt$Zip;") :: (.methodLink RX7 153 yX6_has) :: (.instanceMethod yX6_has) :: (.selects RX6 yX6_has yX6_has) :: (.initialized RX6) :: (.code yX6_has cX6_has 2 (some .boolean)) :: (.fieldLink RX6 19 "TheLiningsInIt$Zip" "size" "I") :: (.methodLink RX7 63 yX7_refuse) :: (.instanceMethod yX7_refuse) :: (.selects RX7 yX7_refuse yX7_refuse) :: (.initialized RX7) :: (.code yX7_refuse cX7_refuse 2 (some .int)) :: (.fieldLink RX7 46 "TheLiningsInIt" "refusals" "[I") :: (.methodLink RX7 67 yX7_within) :: (.static yX7_within) :: (.code yX7_within cX7_within 3 (some .boolean)) :: (.methodLink RX7 282 yX6_takeSlack) :: (.instanceMethod yX6_takeSlack) :: (.selects RX6 yX6_takeSlack yX6_takeSlack) :: (.code yX6_takeSlack cX6_takeSlack 4 (some .int)) :: (.fieldLink RX6 15 "TheLiningsInIt$Zip" "slacks" "[I") :: (.methodLink RX6 29 yX6_has) :: (wsX70 ++ wsX00 ++ wsX60)
def wsX7_seed : List Cond := (.code yX7_seed cX7_seed 3 (some .int)) :: (.fieldLink RX7 18 "TheLiningsInIt" "now" "LTheLiningsInIt$Jacket;") :: (.fieldLink RX7 285 "TheLiningsInIt$Jacket" "seedNow" "I") :: (wsX70 ++ wsX00)
def wsX7_act_r1 : List Cond := (Cond.fieldLink RX7 42 "TheLiningsInIt" "moves" "LTheLiningsInIt$Moves;") :: (Cond.fieldLink RX7 288 "TheLiningsInIt$Moves" "ran" "I") :: (Cond.fieldLink RX7 18 "TheLiningsInIt" "now" "LTheLiningsInIt$Jacket;") :: (Cond.methodLink RX7 100 yX0_pullAt) :: (Cond.instanceMethod yX0_pullAt) :: (Cond.selects RX0 yX0_pullAt yX0_pullAt) :: (Cond.initialized RX0) :: (Cond.code yX0_pullAt cX0_pullAt 2 (some (.object "TheLiningsInIt$Pull"))) :: (Cond.fieldLink RX0 28 "TheLiningsInIt$Jacket" "pullCount" "I") :: (Cond.fieldLink RX0 20 "TheLiningsInIt$Jacket" "pulls" "[LTheLiningsInIt$Pull;") :: (Cond.static yX7_within) :: (Cond.initialized RX7) :: (Cond.code yX7_within cX7_within 3 (some .boolean)) :: (Cond.methodLink RX7 67 yX7_within) :: (Cond.methodLink RX7 291 yX1_begin) :: (Cond.instanceMethod yX1_begin) :: (Cond.selects RX1 yX1_begin yX1_begin) :: (Cond.initialized RX1) :: (Cond.code yX1_begin cX1_begin 5 (some .int)) :: (Cond.fieldLink RX1 28 "TheLiningsInIt$Pull" "kind" "I") :: (Cond.fieldLink RX1 19 "TheLiningsInIt$Moves" "kind" "I") :: (Cond.fieldLink RX1 22 "TheLiningsInIt$Moves" "m" "I") :: (Cond.fieldLink RX1 31 "TheLiningsInIt$Pull" "a" "I") :: (Cond.fieldLink RX1 25 "TheLiningsInIt$Moves" "k" "I") :: []
def wsX7_act_r2 : List Cond := (Cond.methodLink RX1 34 yX1_run) :: (Cond.instanceMethod yX1_run) :: (Cond.selects RX1 yX1_run yX1_run) :: (Cond.code yX1_run cX1_run 7 (some .int)) :: (Cond.methodLink RX1 48 yX1_bodyFor) :: (Cond.static yX1_bodyFor) :: (Cond.code yX1_bodyFor cX1_bodyFor 5 (some .int)) :: (Cond.methodLink RX1 55 yX1_ownBody) :: (Cond.static yX1_ownBody) :: (Cond.code yX1_ownBody cX1_ownBody 2 (some .int)) :: (Cond.methodLink RX1 51 yX1_note) :: (Cond.instanceMethod yX1_note) :: (Cond.selects RX1 yX1_note yX1_note) :: (Cond.code yX1_note cX1_note 2 none) :: (Cond.fieldLink RX1 15 "TheLiningsInIt$Moves" "ran" "I") :: (Cond.fieldLink RX1 11 "TheLiningsInIt$Moves" "bodies" "[I") :: []
def wsX7_act : List Cond := (.code yX7_act cX7_act 5 (some .int)) :: ((wsX7_act_r1 ++ wsX7_act_r2) ++ wsX70 ++ wsX10 ++ wsX00 ++ wsX20)
def wsX7_trace : List Cond := (.code yX7_trace cX7_trace 2 (some .int)) :: (.fieldLink RX7 42 "TheLiningsInIt" "moves" "LTheLiningsInIt$Moves;") :: (.methodLink RX7 295 yX1_bodyAt) :: (.instanceMethod yX1_bodyAt) :: (.selects RX1 yX1_bodyAt yX1_bodyAt) :: (.initialized RX1) :: (.code yX1_bodyAt cX1_bodyAt 2 (some .int)) :: (.fieldLink RX1 15 "TheLiningsInIt$Moves" "ran" "I") :: (.methodLink RX1 38 Lib.Math.min.name) :: (.static Lib.Math.min.name) :: (.initialized "java/lang/Math") :: (.code Lib.Math.min.name Lib.Math.min.code 2 (some .int)) :: (.fieldLink RX1 11 "TheLiningsInIt$Moves" "bodies" "[I") :: (.static yX7_within) :: (.initialized RX7) :: (.code yX7_within cX7_within 3 (some .boolean)) :: (wsX70 ++ wsX10)
def wsX7_image_r1 : List Cond := (Cond.fieldLink RX7 22 "TheLiningsInIt" "kept" "LTheLiningsInIt$Jacket;") :: (Cond.fieldLink RX7 18 "TheLiningsInIt" "now" "LTheLiningsInIt$Jacket;") :: (Cond.fieldLink RX7 50 "TheLiningsInIt" "imaged" "Z") :: (Cond.fieldLink RX7 123 "TheLiningsInIt$Jacket" "pullCount" "I") :: (Cond.methodLink RX7 298 yX0_become) :: (Cond.instanceMethod yX0_become) :: (Cond.selects RX0 yX0_become yX0_become) :: (Cond.initialized RX0) :: (Cond.code yX0_become cX0_become 3 none) :: (Cond.fieldLink RX0 12 "TheLiningsInIt$Jacket" "zip" "LTheLiningsInIt$Zip;") :: (Cond.fieldLink RX0 20 "TheLiningsInIt$Jacket" "pulls" "[LTheLiningsInIt$Pull;") :: (Cond.fieldLink RX0 24 "TheLiningsInIt$Jacket" "costs" "[I") :: (Cond.methodLink RX0 51 arraycopyName) :: (Cond.native arraycopyName) :: (Cond.static arraycopyName) :: (Cond.initialized "java/lang/System") :: (Cond.fieldLink RX0 28 "TheLiningsInIt$Jacket" "pullCount" "I") :: (Cond.fieldLink RX0 32 "TheLiningsInIt$Jacket" "depth" "I") :: (Cond.fieldLink RX0 35 "TheLiningsInIt$Jacket" "torn" "I") :: (Cond.fieldLink RX0 38 "TheLiningsInIt$Jacket" "seconds" "I") :: (Cond.fieldLink RX0 41 "TheLiningsInIt$Jacket" "hurry" "I") :: (Cond.fieldLink RX0 44 "TheLiningsInIt$Jacket" "seedNow" "I") :: (Cond.methodLink RX0 47 yX6_become) :: (Cond.instanceMethod yX6_become) :: []
def wsX7_image_r2 : List Cond := (Cond.selects RX6 yX6_become yX6_become) :: (Cond.initialized RX6) :: (Cond.code yX6_become cX6_become 3 none) :: (Cond.fieldLink RX6 9 "TheLiningsInIt$Zip" "lacking" "[Z") :: (Cond.fieldLink RX6 15 "TheLiningsInIt$Zip" "slacks" "[I") :: (Cond.fieldLink RX6 19 "TheLiningsInIt$Zip" "size" "I") :: (Cond.fieldLink RX6 23 "TheLiningsInIt$Zip" "at" "I") :: (Cond.fieldLink RX6 26 "TheLiningsInIt$Zip" "gap" "I") :: []
def wsX7_image : List Cond := (.code yX7_image cX7_image 1 (some .int)) :: ((wsX7_image_r1 ++ wsX7_image_r2) ++ wsX70 ++ wsX00 ++ wsX60)
def wsX7_restore_r1 : List Cond := (Cond.fieldLink RX7 50 "TheLiningsInIt" "imaged" "Z") :: (Cond.fieldLink RX7 18 "TheLiningsInIt" "now" "LTheLiningsInIt$Jacket;") :: (Cond.fieldLink RX7 22 "TheLiningsInIt" "kept" "LTheLiningsInIt$Jacket;") :: (Cond.fieldLink RX7 11 "TheLiningsInIt" "shelves" "[LTheLiningsInIt$Shelf;") :: (Cond.fieldLink RX7 123 "TheLiningsInIt$Jacket" "pullCount" "I") :: (Cond.methodLink RX7 63 yX7_refuse) :: (Cond.instanceMethod yX7_refuse) :: (Cond.selects RX7 yX7_refuse yX7_refuse) :: (Cond.initialized RX7) :: (Cond.code yX7_refuse cX7_refuse 2 (some .int)) :: (Cond.fieldLink RX7 46 "TheLiningsInIt" "refusals" "[I") :: (Cond.methodLink RX7 67 yX7_within) :: (Cond.static yX7_within) :: (Cond.code yX7_within cX7_within 3 (some .boolean)) :: (Cond.methodLink RX7 298 yX0_become) :: (Cond.instanceMethod yX0_become) :: (Cond.selects RX0 yX0_become yX0_become) :: (Cond.initialized RX0) :: (Cond.code yX0_become cX0_become 3 none) :: (Cond.fieldLink RX0 12 "TheLiningsInIt$Jacket" "zip" "LTheLiningsInIt$Zip;") :: (Cond.fieldLink RX0 20 "TheLiningsInIt$Jacket" "pulls" "[LTheLiningsInIt$Pull;") :: (Cond.fieldLink RX0 24 "TheLiningsInIt$Jacket" "costs" "[I") :: (Cond.methodLink RX0 51 arraycopyName) :: (Cond.native arraycopyName) :: []
def wsX7_restore_r2 : List Cond := (Cond.static arraycopyName) :: (Cond.initialized "java/lang/System") :: (Cond.fieldLink RX0 28 "TheLiningsInIt$Jacket" "pullCount" "I") :: (Cond.fieldLink RX0 32 "TheLiningsInIt$Jacket" "depth" "I") :: (Cond.fieldLink RX0 35 "TheLiningsInIt$Jacket" "torn" "I") :: (Cond.fieldLink RX0 38 "TheLiningsInIt$Jacket" "seconds" "I") :: (Cond.fieldLink RX0 41 "TheLiningsInIt$Jacket" "hurry" "I") :: (Cond.fieldLink RX0 44 "TheLiningsInIt$Jacket" "seedNow" "I") :: (Cond.methodLink RX0 47 yX6_become) :: (Cond.instanceMethod yX6_become) :: (Cond.selects RX6 yX6_become yX6_become) :: (Cond.initialized RX6) :: (Cond.code yX6_become cX6_become 3 none) :: (Cond.fieldLink RX6 9 "TheLiningsInIt$Zip" "lacking" "[Z") :: (Cond.fieldLink RX6 15 "TheLiningsInIt$Zip" "slacks" "[I") :: (Cond.fieldLink RX6 19 "TheLiningsInIt$Zip" "size" "I") :: (Cond.fieldLink RX6 23 "TheLiningsInIt$Zip" "at" "I") :: (Cond.fieldLink RX6 26 "TheLiningsInIt$Zip" "gap" "I") :: (Cond.methodLink RX7 301 yX4_forgetFrom) :: (Cond.instanceMethod yX4_forgetFrom) :: (Cond.selects RX4 yX4_forgetFrom yX4_forgetFrom) :: (Cond.initialized RX4) :: (Cond.code yX4_forgetFrom cX4_forgetFrom 2 none) :: (Cond.fieldLink RX4 15 "TheLiningsInIt$Shelf" "held" "I") :: []
def wsX7_restore : List Cond := (.code yX7_restore cX7_restore 2 (some .int)) :: ((wsX7_restore_r1 ++ wsX7_restore_r2) ++ wsX70 ++ wsX00 ++ wsX60 ++ wsX40)
def wsX7_status : List Cond := (.code yX7_status cX7_status 2 (some .int)) :: (.fieldLink RX7 46 "TheLiningsInIt" "refusals" "[I") :: (.fieldLink RX7 18 "TheLiningsInIt" "now" "LTheLiningsInIt$Jacket;") :: (.fieldLink RX7 123 "TheLiningsInIt$Jacket" "pullCount" "I") :: (.fieldLink RX7 140 "TheLiningsInIt$Jacket" "zip" "LTheLiningsInIt$Zip;") :: (.fieldLink RX7 144 "TheLiningsInIt$Zip" "size" "I") :: (.fieldLink RX7 275 "TheLiningsInIt$Zip" "at" "I") :: (.fieldLink RX7 199 "TheLiningsInIt$Jacket" "depth" "I") :: (.fieldLink RX7 304 "TheLiningsInIt$Jacket" "torn" "I") :: (.fieldLink RX7 202 "TheLiningsInIt$Jacket" "seconds" "I") :: (.fieldLink RX7 116 "TheLiningsInIt$Jacket" "hurry" "I") :: (.fieldLink RX7 307 "TheLiningsInIt$Zip" "gap" "I") :: (.fieldLink RX7 285 "TheLiningsInIt$Jacket" "seedNow" "I") :: (.fieldLink RX7 42 "TheLiningsInIt" "moves" "LTheLiningsInIt$Moves;") :: (.fieldLink RX7 288 "TheLiningsInIt$Moves" "ran" "I") :: (.methodLink RX7 67 yX7_within) :: (.static yX7_within) :: (.initialized RX7) :: (.code yX7_within cX7_within 3 (some .boolean)) :: (wsX70 ++ wsX00 ++ wsX60 ++ wsX10)
set_option maxRecDepth 20000 in
theorem gl_X7_row_X70 : GoodIn wsX7_row wsX70 := (dg_t (dg_l (dg_r gw_wsX70)))
theorem ggX7_row_X7_shelfAt : GoodIn wsX7_row wsX7_shelfAt := (dg_c 5 rfl rfl (dg_c 6 rfl rfl (dg_c 7 rfl rfl (dg_c 8 rfl rfl (dg_c 4 rfl rfl (dg_c 9 rfl rfl gl_X7_row_X70))))))
set_option maxRecDepth 20000 in
theorem gX7_row_X7_shelfAt : GoodIn wsX7_row (wsV RX7 59 RX7 yX7_shelfAt wsX7_shelfAt) := goodIn_app (dg_c 1 rfl rfl (dg_c 2 rfl rfl (dg_c 3 rfl rfl (dg_c 4 rfl rfl dg_0)))) ggX7_row_X7_shelfAt
set_option maxRecDepth 20000 in
theorem ggX7_row_X7_refuse : GoodIn wsX7_row wsX7_refuse := (dg_c 13 rfl rfl (dg_c 14 rfl rfl (dg_c 7 rfl rfl (dg_c 8 rfl rfl (dg_c 4 rfl rfl (dg_c 9 rfl rfl gl_X7_row_X70))))))
set_option maxRecDepth 20000 in
theorem gX7_row_X7_refuse : GoodIn wsX7_row (wsV RX7 63 RX7 yX7_refuse wsX7_refuse) := goodIn_app (dg_c 10 rfl rfl (dg_c 11 rfl rfl (dg_c 12 rfl rfl (dg_c 4 rfl rfl dg_0)))) ggX7_row_X7_refuse
set_option maxRecDepth 20000 in
theorem ggX7_row_X7_within : GoodIn wsX7_row wsX7_within := (dg_c 9 rfl rfl dg_0)
set_option maxRecDepth 20000 in
theorem gX7_row_X7_within : GoodIn wsX7_row (va_wsS RX7 67 yX7_within wsX7_within) := goodIn_app (dg_c 7 rfl rfl (dg_c 8 rfl rfl (dg_c 4 rfl rfl dg_0))) ggX7_row_X7_within
set_option maxRecDepth 20000 in
theorem gl_X7_row_X40 : GoodIn wsX7_row wsX40 := (dg_t (dg_r gw_wsX40))
theorem ggX7_row_X4_holdRow : GoodIn wsX7_row wsX4_holdRow := (dg_c 19 rfl rfl (dg_c 20 rfl rfl (dg_c 21 rfl rfl (dg_c 22 rfl rfl (dg_c 23 rfl rfl (dg_c 24 rfl rfl (dg_c 25 rfl rfl (dg_c 26 rfl rfl gl_X7_row_X40))))))))
set_option maxRecDepth 20000 in
theorem gX7_row_X4_holdRow : GoodIn wsX7_row (wsV RX7 71 RX4 yX4_holdRow wsX4_holdRow) := goodIn_app (dg_c 15 rfl rfl (dg_c 16 rfl rfl (dg_c 17 rfl rfl (dg_c 18 rfl rfl dg_0)))) ggX7_row_X4_holdRow
theorem dX7_row_0 : decode cX7_row 0 = .ok (.aload_n 0, 1) := dq_42 dp_cX7_row rfl
theorem dX7_row_1 : decode cX7_row 1 = .ok (.iload_n 1, 1) := dq_27 dp_cX7_row rfl
theorem dX7_row_2 : decode cX7_row 2 = .ok (.invokevirtual 59, 3) := dq_182 dp_cX7_row rfl
theorem dX7_row_5 : decode cX7_row 5 = .ok (.astore 4, 2) := dq_58 dp_cX7_row rfl
theorem dX7_row_7 : decode cX7_row 7 = .ok (.aload 4, 2) := dq_25 dp_cX7_row rfl
theorem dX7_row_9 : decode cX7_row 9 = .ok (.ifnonnull 9, 3) := dq_199 (v := 9) dp_cX7_row rfl rfl
theorem dX7_row_12 : decode cX7_row 12 = .ok (.aload_n 0, 1) := dq_42 dp_cX7_row rfl
theorem dX7_row_13 : decode cX7_row 13 = .ok (.iconst 1, 1) := dq_4 dp_cX7_row rfl
theorem dX7_row_14 : decode cX7_row 14 = .ok (.invokevirtual 63, 3) := dq_182 dp_cX7_row rfl
theorem dX7_row_17 : decode cX7_row 17 = .ok (.ireturn, 1) := dq_172 dp_cX7_row rfl
theorem dX7_row_18 : decode cX7_row 18 = .ok (.iload_n 3, 1) := dq_29 dp_cX7_row rfl
theorem dX7_row_19 : decode cX7_row 19 = .ok (.ifCond .ge 9, 3) := dq_156 (v := 9) dp_cX7_row rfl rfl
theorem dX7_row_22 : decode cX7_row 22 = .ok (.aload_n 0, 1) := dq_42 dp_cX7_row rfl
theorem dX7_row_23 : decode cX7_row 23 = .ok (.iconst 4, 1) := dq_7 dp_cX7_row rfl
theorem dX7_row_24 : decode cX7_row 24 = .ok (.invokevirtual 63, 3) := dq_182 dp_cX7_row rfl
theorem dX7_row_27 : decode cX7_row 27 = .ok (.ireturn, 1) := dq_172 dp_cX7_row rfl
theorem dX7_row_28 : decode cX7_row 28 = .ok (.iload_n 2, 1) := dq_28 dp_cX7_row rfl
theorem dX7_row_29 : decode cX7_row 29 = .ok (.iconst 0, 1) := dq_3 dp_cX7_row rfl
theorem dX7_row_30 : decode cX7_row 30 = .ok (.iconst 3, 1) := dq_6 dp_cX7_row rfl
theorem dX7_row_31 : decode cX7_row 31 = .ok (.invokestatic 67, 3) := dq_184 dp_cX7_row rfl
theorem dX7_row_34 : decode cX7_row 34 = .ok (.ifCond .ne 10, 3) := dq_154 (v := 10) dp_cX7_row rfl rfl
theorem dX7_row_37 : decode cX7_row 37 = .ok (.aload_n 0, 1) := dq_42 dp_cX7_row rfl
theorem dX7_row_38 : decode cX7_row 38 = .ok (.bipush 6, 2) := dq_16 (v := 6) dp_cX7_row rfl rfl
theorem dX7_row_40 : decode cX7_row 40 = .ok (.invokevirtual 63, 3) := dq_182 dp_cX7_row rfl
theorem dX7_row_43 : decode cX7_row 43 = .ok (.ireturn, 1) := dq_172 dp_cX7_row rfl
theorem dX7_row_44 : decode cX7_row 44 = .ok (.iload_n 3, 1) := dq_29 dp_cX7_row rfl
theorem dX7_row_45 : decode cX7_row 45 = .ok (.sipush 160, 3) := dq_17 (v := 160) dp_cX7_row rfl rfl
theorem dX7_row_48 : decode cX7_row 48 = .ok (.if_icmp .le 10, 3) := dq_164 (v := 10) dp_cX7_row rfl rfl
theorem dX7_row_51 : decode cX7_row 51 = .ok (.aload_n 0, 1) := dq_42 dp_cX7_row rfl
theorem dX7_row_52 : decode cX7_row 52 = .ok (.bipush 7, 2) := dq_16 (v := 7) dp_cX7_row rfl rfl
theorem dX7_row_54 : decode cX7_row 54 = .ok (.invokevirtual 63, 3) := dq_182 dp_cX7_row rfl
theorem dX7_row_57 : decode cX7_row 57 = .ok (.ireturn, 1) := dq_172 dp_cX7_row rfl
theorem dX7_row_58 : decode cX7_row 58 = .ok (.aload 4, 2) := dq_25 dp_cX7_row rfl
theorem dX7_row_60 : decode cX7_row 60 = .ok (.iload_n 2, 1) := dq_28 dp_cX7_row rfl
theorem dX7_row_61 : decode cX7_row 61 = .ok (.iload_n 3, 1) := dq_29 dp_cX7_row rfl
theorem dX7_row_62 : decode cX7_row 62 = .ok (.invokevirtual 71, 3) := dq_182 dp_cX7_row rfl
theorem dX7_row_65 : decode cX7_row 65 = .ok (.iconst 1, 1) := dq_4 dp_cX7_row rfl
theorem dX7_row_66 : decode cX7_row 66 = .ok (.ireturn, 1) := dq_172 dp_cX7_row rfl
set_option maxRecDepth 20000 in
theorem gl_X7_set_X70 : GoodIn wsX7_set wsX70 := (dg_t (dg_l (dg_r gw_wsX70)))
theorem ggX7_set_X7_shelfAt : GoodIn wsX7_set wsX7_shelfAt := (dg_c 5 rfl rfl (dg_c 6 rfl rfl (dg_c 7 rfl rfl (dg_c 8 rfl rfl (dg_c 4 rfl rfl (dg_c 9 rfl rfl gl_X7_set_X70))))))
set_option maxRecDepth 20000 in
theorem gX7_set_X7_shelfAt : GoodIn wsX7_set (wsV RX7 59 RX7 yX7_shelfAt wsX7_shelfAt) := goodIn_app (dg_c 1 rfl rfl (dg_c 2 rfl rfl (dg_c 3 rfl rfl (dg_c 4 rfl rfl dg_0)))) ggX7_set_X7_shelfAt
set_option maxRecDepth 20000 in
theorem ggX7_set_X7_refuse : GoodIn wsX7_set wsX7_refuse := (dg_c 13 rfl rfl (dg_c 14 rfl rfl (dg_c 7 rfl rfl (dg_c 8 rfl rfl (dg_c 4 rfl rfl (dg_c 9 rfl rfl gl_X7_set_X70))))))
set_option maxRecDepth 20000 in
theorem gX7_set_X7_refuse : GoodIn wsX7_set (wsV RX7 63 RX7 yX7_refuse wsX7_refuse) := goodIn_app (dg_c 10 rfl rfl (dg_c 11 rfl rfl (dg_c 12 rfl rfl (dg_c 4 rfl rfl dg_0)))) ggX7_set_X7_refuse
set_option maxRecDepth 20000 in
theorem gl_X7_set_X40 : GoodIn wsX7_set wsX40 := (dg_t (dg_r gw_wsX40))
theorem ggX7_set_X4_noRow : GoodIn wsX7_set wsX4_noRow := (dg_c 19 rfl rfl (dg_c 20 rfl rfl gl_X7_set_X40))
set_option maxRecDepth 20000 in
theorem gX7_set_X4_noRow : GoodIn wsX7_set (wsV RX7 75 RX4 yX4_noRow wsX4_noRow) := goodIn_app (dg_c 15 rfl rfl (dg_c 16 rfl rfl (dg_c 17 rfl rfl (dg_c 18 rfl rfl dg_0)))) ggX7_set_X4_noRow
set_option maxRecDepth 20000 in
theorem ggX7_set_X4_hasSpan : GoodIn wsX7_set wsX4_hasSpan := (dg_c 24 rfl rfl (dg_c 25 rfl rfl gl_X7_set_X40))
set_option maxRecDepth 20000 in
theorem gX7_set_X4_hasSpan : GoodIn wsX7_set (wsV RX7 79 RX4 yX4_hasSpan wsX4_hasSpan) := goodIn_app (dg_c 21 rfl rfl (dg_c 22 rfl rfl (dg_c 23 rfl rfl (dg_c 18 rfl rfl dg_0)))) ggX7_set_X4_hasSpan
set_option maxRecDepth 20000 in
theorem ggX7_set_X4_put : GoodIn wsX7_set wsX4_put := (dg_c 29 rfl rfl (dg_c 20 rfl rfl (dg_c 30 rfl rfl gl_X7_set_X40)))
set_option maxRecDepth 20000 in
theorem gX7_set_X4_put : GoodIn wsX7_set (wsV RX7 83 RX4 yX4_put wsX4_put) := goodIn_app (dg_c 26 rfl rfl (dg_c 27 rfl rfl (dg_c 28 rfl rfl (dg_c 18 rfl rfl dg_0)))) ggX7_set_X4_put
theorem dX7_set_0 : decode cX7_set 0 = .ok (.aload_n 0, 1) := dq_42 dp_cX7_set rfl
theorem dX7_set_1 : decode cX7_set 1 = .ok (.iload_n 1, 1) := dq_27 dp_cX7_set rfl
theorem dX7_set_2 : decode cX7_set 2 = .ok (.invokevirtual 59, 3) := dq_182 dp_cX7_set rfl
theorem dX7_set_5 : decode cX7_set 5 = .ok (.astore 5, 2) := dq_58 dp_cX7_set rfl
theorem dX7_set_7 : decode cX7_set 7 = .ok (.aload 5, 2) := dq_25 dp_cX7_set rfl
theorem dX7_set_9 : decode cX7_set 9 = .ok (.ifnonnull 9, 3) := dq_199 (v := 9) dp_cX7_set rfl rfl
theorem dX7_set_12 : decode cX7_set 12 = .ok (.aload_n 0, 1) := dq_42 dp_cX7_set rfl
theorem dX7_set_13 : decode cX7_set 13 = .ok (.iconst 1, 1) := dq_4 dp_cX7_set rfl
theorem dX7_set_14 : decode cX7_set 14 = .ok (.invokevirtual 63, 3) := dq_182 dp_cX7_set rfl
theorem dX7_set_17 : decode cX7_set 17 = .ok (.ireturn, 1) := dq_172 dp_cX7_set rfl
theorem dX7_set_18 : decode cX7_set 18 = .ok (.aload 5, 2) := dq_25 dp_cX7_set rfl
theorem dX7_set_20 : decode cX7_set 20 = .ok (.invokevirtual 75, 3) := dq_182 dp_cX7_set rfl
theorem dX7_set_23 : decode cX7_set 23 = .ok (.istore 6, 2) := dq_54 dp_cX7_set rfl
theorem dX7_set_25 : decode cX7_set 25 = .ok (.iload 6, 2) := dq_21 dp_cX7_set rfl
theorem dX7_set_27 : decode cX7_set 27 = .ok (.ifCond .eq 10, 3) := dq_153 (v := 10) dp_cX7_set rfl rfl
theorem dX7_set_30 : decode cX7_set 30 = .ok (.aload_n 0, 1) := dq_42 dp_cX7_set rfl
theorem dX7_set_31 : decode cX7_set 31 = .ok (.iload 6, 2) := dq_21 dp_cX7_set rfl
theorem dX7_set_33 : decode cX7_set 33 = .ok (.invokevirtual 63, 3) := dq_182 dp_cX7_set rfl
theorem dX7_set_36 : decode cX7_set 36 = .ok (.ireturn, 1) := dq_172 dp_cX7_set rfl
theorem dX7_set_37 : decode cX7_set 37 = .ok (.aload 5, 2) := dq_25 dp_cX7_set rfl
theorem dX7_set_39 : decode cX7_set 39 = .ok (.iload_n 2, 1) := dq_28 dp_cX7_set rfl
theorem dX7_set_40 : decode cX7_set 40 = .ok (.iconst 1, 1) := dq_4 dp_cX7_set rfl
theorem dX7_set_41 : decode cX7_set 41 = .ok (.invokevirtual 79, 3) := dq_182 dp_cX7_set rfl
theorem dX7_set_44 : decode cX7_set 44 = .ok (.ifCond .ne 9, 3) := dq_154 (v := 9) dp_cX7_set rfl rfl
theorem dX7_set_47 : decode cX7_set 47 = .ok (.aload_n 0, 1) := dq_42 dp_cX7_set rfl
theorem dX7_set_48 : decode cX7_set 48 = .ok (.iconst 5, 1) := dq_8 dp_cX7_set rfl
theorem dX7_set_49 : decode cX7_set 49 = .ok (.invokevirtual 63, 3) := dq_182 dp_cX7_set rfl
theorem dX7_set_52 : decode cX7_set 52 = .ok (.ireturn, 1) := dq_172 dp_cX7_set rfl
theorem dX7_set_53 : decode cX7_set 53 = .ok (.aload 5, 2) := dq_25 dp_cX7_set rfl
theorem dX7_set_55 : decode cX7_set 55 = .ok (.iload_n 2, 1) := dq_28 dp_cX7_set rfl
theorem dX7_set_56 : decode cX7_set 56 = .ok (.lload_n 3, 1) := dq_33 dp_cX7_set rfl
theorem dX7_set_57 : decode cX7_set 57 = .ok (.invokevirtual 83, 3) := dq_182 dp_cX7_set rfl
theorem dX7_set_60 : decode cX7_set 60 = .ok (.iconst 1, 1) := dq_4 dp_cX7_set rfl
theorem dX7_set_61 : decode cX7_set 61 = .ok (.ireturn, 1) := dq_172 dp_cX7_set rfl
set_option maxRecDepth 20000 in
theorem gl_X7_copy_X70 : GoodIn wsX7_copy wsX70 := (dg_t (dg_r gw_wsX70))
theorem ggX7_copy_X7_shelfAt : GoodIn wsX7_copy wsX7_shelfAt := (dg_c 11 rfl rfl (dg_c 12 rfl rfl (dg_c 13 rfl rfl (dg_c 14 rfl rfl (dg_c 10 rfl rfl (dg_c 15 rfl rfl gl_X7_copy_X70))))))
set_option maxRecDepth 20000 in
theorem gX7_copy_X7_shelfAt : GoodIn wsX7_copy (wsV RX7 59 RX7 yX7_shelfAt wsX7_shelfAt) := goodIn_app (dg_c 7 rfl rfl (dg_c 8 rfl rfl (dg_c 9 rfl rfl (dg_c 10 rfl rfl dg_0)))) ggX7_copy_X7_shelfAt
set_option maxRecDepth 20000 in
theorem ggX7_copy_X7_refuse : GoodIn wsX7_copy wsX7_refuse := (dg_c 19 rfl rfl (dg_c 20 rfl rfl (dg_c 13 rfl rfl (dg_c 14 rfl rfl (dg_c 10 rfl rfl (dg_c 15 rfl rfl gl_X7_copy_X70))))))
set_option maxRecDepth 20000 in
theorem gX7_copy_X7_refuse : GoodIn wsX7_copy (wsV RX7 63 RX7 yX7_refuse wsX7_refuse) := goodIn_app (dg_c 16 rfl rfl (dg_c 17 rfl rfl (dg_c 18 rfl rfl (dg_c 10 rfl rfl dg_0)))) ggX7_copy_X7_refuse
set_option maxRecDepth 20000 in
theorem gl_X7_copy_X40 : GoodIn wsX7_copy wsX40 := (dg_t (dg_l (dg_r gw_wsX40)))
theorem ggX7_copy_X4_noRow : GoodIn wsX7_copy wsX4_noRow := (dg_c 25 rfl rfl (dg_c 26 rfl rfl gl_X7_copy_X40))
set_option maxRecDepth 20000 in
theorem gX7_copy_X4_noRow : GoodIn wsX7_copy (wsV RX7 75 RX4 yX4_noRow wsX4_noRow) := goodIn_app (dg_c 21 rfl rfl (dg_c 22 rfl rfl (dg_c 23 rfl rfl (dg_c 24 rfl rfl dg_0)))) ggX7_copy_X4_noRow
set_option maxRecDepth 20000 in
theorem ggX7_copy_X4_hasSpan : GoodIn wsX7_copy wsX4_hasSpan := (dg_c 30 rfl rfl (dg_c 31 rfl rfl gl_X7_copy_X40))
set_option maxRecDepth 20000 in
theorem gX7_copy_X4_hasSpan : GoodIn wsX7_copy (wsV RX7 79 RX4 yX4_hasSpan wsX4_hasSpan) := goodIn_app (dg_c 27 rfl rfl (dg_c 28 rfl rfl (dg_c 29 rfl rfl (dg_c 24 rfl rfl dg_0)))) ggX7_copy_X4_hasSpan
theorem dX7_copy_0 : decode cX7_copy 0 = .ok (.aload_n 0, 1) := dq_42 dp_cX7_copy rfl
theorem dX7_copy_1 : decode cX7_copy 1 = .ok (.iload_n 1, 1) := dq_27 dp_cX7_copy rfl
theorem dX7_copy_2 : decode cX7_copy 2 = .ok (.invokevirtual 59, 3) := dq_182 dp_cX7_copy rfl
theorem dX7_copy_5 : decode cX7_copy 5 = .ok (.astore 6, 2) := dq_58 dp_cX7_copy rfl
theorem dX7_copy_7 : decode cX7_copy 7 = .ok (.aload_n 0, 1) := dq_42 dp_cX7_copy rfl
theorem dX7_copy_8 : decode cX7_copy 8 = .ok (.iload_n 2, 1) := dq_28 dp_cX7_copy rfl
theorem dX7_copy_9 : decode cX7_copy 9 = .ok (.invokevirtual 59, 3) := dq_182 dp_cX7_copy rfl
theorem dX7_copy_12 : decode cX7_copy 12 = .ok (.astore 7, 2) := dq_58 dp_cX7_copy rfl
theorem dX7_copy_14 : decode cX7_copy 14 = .ok (.aload 6, 2) := dq_25 dp_cX7_copy rfl
theorem dX7_copy_16 : decode cX7_copy 16 = .ok (.ifnull 8, 3) := dq_198 (v := 8) dp_cX7_copy rfl rfl
theorem dX7_copy_19 : decode cX7_copy 19 = .ok (.aload 7, 2) := dq_25 dp_cX7_copy rfl
theorem dX7_copy_21 : decode cX7_copy 21 = .ok (.ifnonnull 9, 3) := dq_199 (v := 9) dp_cX7_copy rfl rfl
theorem dX7_copy_24 : decode cX7_copy 24 = .ok (.aload_n 0, 1) := dq_42 dp_cX7_copy rfl
theorem dX7_copy_25 : decode cX7_copy 25 = .ok (.iconst 1, 1) := dq_4 dp_cX7_copy rfl
theorem dX7_copy_26 : decode cX7_copy 26 = .ok (.invokevirtual 63, 3) := dq_182 dp_cX7_copy rfl
theorem dX7_copy_29 : decode cX7_copy 29 = .ok (.ireturn, 1) := dq_172 dp_cX7_copy rfl
theorem dX7_copy_30 : decode cX7_copy 30 = .ok (.aload 6, 2) := dq_25 dp_cX7_copy rfl
theorem dX7_copy_32 : decode cX7_copy 32 = .ok (.invokevirtual 75, 3) := dq_182 dp_cX7_copy rfl
theorem dX7_copy_35 : decode cX7_copy 35 = .ok (.istore 8, 2) := dq_54 dp_cX7_copy rfl
theorem dX7_copy_37 : decode cX7_copy 37 = .ok (.aload 7, 2) := dq_25 dp_cX7_copy rfl
theorem dX7_copy_39 : decode cX7_copy 39 = .ok (.invokevirtual 75, 3) := dq_182 dp_cX7_copy rfl
theorem dX7_copy_42 : decode cX7_copy 42 = .ok (.istore 9, 2) := dq_54 dp_cX7_copy rfl
theorem dX7_copy_44 : decode cX7_copy 44 = .ok (.iload 8, 2) := dq_21 dp_cX7_copy rfl
theorem dX7_copy_46 : decode cX7_copy 46 = .ok (.ifCond .ne 25, 3) := dq_154 (v := 25) dp_cX7_copy rfl rfl
theorem dX7_copy_49 : decode cX7_copy 49 = .ok (.iload 9, 2) := dq_21 dp_cX7_copy rfl
theorem dX7_copy_51 : decode cX7_copy 51 = .ok (.ifCond .ne 20, 3) := dq_154 (v := 20) dp_cX7_copy rfl rfl
theorem dX7_copy_54 : decode cX7_copy 54 = .ok (.aload 6, 2) := dq_25 dp_cX7_copy rfl
theorem dX7_copy_56 : decode cX7_copy 56 = .ok (.getfield 87, 3) := dq_180 dp_cX7_copy rfl
theorem dX7_copy_59 : decode cX7_copy 59 = .ok (.aload 7, 2) := dq_25 dp_cX7_copy rfl
theorem dX7_copy_61 : decode cX7_copy 61 = .ok (.getfield 87, 3) := dq_180 dp_cX7_copy rfl
theorem dX7_copy_64 : decode cX7_copy 64 = .ok (.if_icmp .eq 7, 3) := dq_159 (v := 7) dp_cX7_copy rfl rfl
theorem dX7_copy_67 : decode cX7_copy 67 = .ok (.iconst 1, 1) := dq_4 dp_cX7_copy rfl
theorem dX7_copy_68 : decode cX7_copy 68 = .ok (.goto 4, 3) := dq_167 (v := 4) dp_cX7_copy rfl rfl
theorem dX7_copy_71 : decode cX7_copy 71 = .ok (.iconst 0, 1) := dq_3 dp_cX7_copy rfl
theorem dX7_copy_72 : decode cX7_copy 72 = .ok (.istore 10, 2) := dq_54 dp_cX7_copy rfl
theorem dX7_copy_74 : decode cX7_copy 74 = .ok (.iload 8, 2) := dq_21 dp_cX7_copy rfl
theorem dX7_copy_76 : decode cX7_copy 76 = .ok (.iconst 2, 1) := dq_5 dp_cX7_copy rfl
theorem dX7_copy_77 : decode cX7_copy 77 = .ok (.if_icmp .eq 14, 3) := dq_159 (v := 14) dp_cX7_copy rfl rfl
theorem dX7_copy_80 : decode cX7_copy 80 = .ok (.iload 9, 2) := dq_21 dp_cX7_copy rfl
theorem dX7_copy_82 : decode cX7_copy 82 = .ok (.iconst 2, 1) := dq_5 dp_cX7_copy rfl
theorem dX7_copy_83 : decode cX7_copy 83 = .ok (.if_icmp .eq 8, 3) := dq_159 (v := 8) dp_cX7_copy rfl rfl
theorem dX7_copy_86 : decode cX7_copy 86 = .ok (.iload 10, 2) := dq_21 dp_cX7_copy rfl
theorem dX7_copy_88 : decode cX7_copy 88 = .ok (.ifCond .eq 9, 3) := dq_153 (v := 9) dp_cX7_copy rfl rfl
theorem dX7_copy_91 : decode cX7_copy 91 = .ok (.aload_n 0, 1) := dq_42 dp_cX7_copy rfl
theorem dX7_copy_92 : decode cX7_copy 92 = .ok (.iconst 2, 1) := dq_5 dp_cX7_copy rfl
theorem dX7_copy_93 : decode cX7_copy 93 = .ok (.invokevirtual 63, 3) := dq_182 dp_cX7_copy rfl
theorem dX7_copy_96 : decode cX7_copy 96 = .ok (.ireturn, 1) := dq_172 dp_cX7_copy rfl
theorem dX7_copy_97 : decode cX7_copy 97 = .ok (.iload 8, 2) := dq_21 dp_cX7_copy rfl
theorem dX7_copy_99 : decode cX7_copy 99 = .ok (.iconst 3, 1) := dq_6 dp_cX7_copy rfl
theorem dX7_copy_100 : decode cX7_copy 100 = .ok (.if_icmp .eq 9, 3) := dq_159 (v := 9) dp_cX7_copy rfl rfl
theorem dX7_copy_103 : decode cX7_copy 103 = .ok (.iload 9, 2) := dq_21 dp_cX7_copy rfl
theorem dX7_copy_105 : decode cX7_copy 105 = .ok (.iconst 3, 1) := dq_6 dp_cX7_copy rfl
theorem dX7_copy_106 : decode cX7_copy 106 = .ok (.if_icmp .ne 9, 3) := dq_160 (v := 9) dp_cX7_copy rfl rfl
theorem dX7_copy_109 : decode cX7_copy 109 = .ok (.aload_n 0, 1) := dq_42 dp_cX7_copy rfl
theorem dX7_copy_110 : decode cX7_copy 110 = .ok (.iconst 3, 1) := dq_6 dp_cX7_copy rfl
theorem dX7_copy_111 : decode cX7_copy 111 = .ok (.invokevirtual 63, 3) := dq_182 dp_cX7_copy rfl
theorem dX7_copy_114 : decode cX7_copy 114 = .ok (.ireturn, 1) := dq_172 dp_cX7_copy rfl
theorem dX7_copy_115 : decode cX7_copy 115 = .ok (.iload 5, 2) := dq_21 dp_cX7_copy rfl
theorem dX7_copy_117 : decode cX7_copy 117 = .ok (.ifCond .ge 9, 3) := dq_156 (v := 9) dp_cX7_copy rfl rfl
theorem dX7_copy_120 : decode cX7_copy 120 = .ok (.aload_n 0, 1) := dq_42 dp_cX7_copy rfl
theorem dX7_copy_121 : decode cX7_copy 121 = .ok (.iconst 4, 1) := dq_7 dp_cX7_copy rfl
theorem dX7_copy_122 : decode cX7_copy 122 = .ok (.invokevirtual 63, 3) := dq_182 dp_cX7_copy rfl
theorem dX7_copy_125 : decode cX7_copy 125 = .ok (.ireturn, 1) := dq_172 dp_cX7_copy rfl
theorem dX7_copy_126 : decode cX7_copy 126 = .ok (.aload 6, 2) := dq_25 dp_cX7_copy rfl
theorem dX7_copy_128 : decode cX7_copy 128 = .ok (.iload_n 3, 1) := dq_29 dp_cX7_copy rfl
theorem dX7_copy_129 : decode cX7_copy 129 = .ok (.iload 5, 2) := dq_21 dp_cX7_copy rfl
theorem dX7_copy_131 : decode cX7_copy 131 = .ok (.invokevirtual 79, 3) := dq_182 dp_cX7_copy rfl
theorem dX7_copy_134 : decode cX7_copy 134 = .ok (.ifCond .eq 15, 3) := dq_153 (v := 15) dp_cX7_copy rfl rfl
theorem dX7_copy_137 : decode cX7_copy 137 = .ok (.aload 7, 2) := dq_25 dp_cX7_copy rfl
theorem dX7_copy_139 : decode cX7_copy 139 = .ok (.iload 4, 2) := dq_21 dp_cX7_copy rfl
theorem dX7_copy_141 : decode cX7_copy 141 = .ok (.iload 5, 2) := dq_21 dp_cX7_copy rfl
theorem dX7_copy_143 : decode cX7_copy 143 = .ok (.invokevirtual 79, 3) := dq_182 dp_cX7_copy rfl
theorem dX7_copy_146 : decode cX7_copy 146 = .ok (.ifCond .ne 9, 3) := dq_154 (v := 9) dp_cX7_copy rfl rfl
theorem dX7_copy_149 : decode cX7_copy 149 = .ok (.aload_n 0, 1) := dq_42 dp_cX7_copy rfl
theorem dX7_copy_150 : decode cX7_copy 150 = .ok (.iconst 5, 1) := dq_8 dp_cX7_copy rfl
theorem dX7_copy_151 : decode cX7_copy 151 = .ok (.invokevirtual 63, 3) := dq_182 dp_cX7_copy rfl
theorem dX7_copy_154 : decode cX7_copy 154 = .ok (.ireturn, 1) := dq_172 dp_cX7_copy rfl
theorem dX7_copy_155 : decode cX7_copy 155 = .ok (.aload 6, 2) := dq_25 dp_cX7_copy rfl
theorem dX7_copy_157 : decode cX7_copy 157 = .ok (.getfield 90, 3) := dq_180 dp_cX7_copy rfl
theorem dX7_copy_160 : decode cX7_copy 160 = .ok (.iload_n 3, 1) := dq_29 dp_cX7_copy rfl
theorem dX7_copy_161 : decode cX7_copy 161 = .ok (.aload 7, 2) := dq_25 dp_cX7_copy rfl
theorem dX7_copy_163 : decode cX7_copy 163 = .ok (.getfield 90, 3) := dq_180 dp_cX7_copy rfl
theorem dX7_copy_166 : decode cX7_copy 166 = .ok (.iload 4, 2) := dq_21 dp_cX7_copy rfl
theorem dX7_copy_168 : decode cX7_copy 168 = .ok (.iload 5, 2) := dq_21 dp_cX7_copy rfl
theorem dX7_copy_170 : decode cX7_copy 170 = .ok (.invokestatic 94, 3) := dq_184 dp_cX7_copy rfl
theorem dX7_copy_173 : decode cX7_copy 173 = .ok (.iconst 1, 1) := dq_4 dp_cX7_copy rfl
theorem dX7_copy_174 : decode cX7_copy 174 = .ok (.ireturn, 1) := dq_172 dp_cX7_copy rfl
set_option maxRecDepth 20000 in
theorem gl_X7_element_X70 : GoodIn wsX7_element wsX70 := (dg_t (dg_t (dg_t (dg_t (dg_t (dg_t (dg_t (dg_t (dg_t (dg_t (dg_t (dg_t (dg_t (dg_t (dg_t (dg_t (dg_t (dg_t (dg_t (dg_t (dg_t (dg_t (dg_r gw_wsX70)))))))))))))))))))))))
theorem ggX7_element_X7_shelfAt : GoodIn wsX7_element wsX7_shelfAt := (dg_c 6 rfl rfl (dg_c 7 rfl rfl (dg_c 8 rfl rfl (dg_c 9 rfl rfl (dg_c 5 rfl rfl (dg_c 10 rfl rfl gl_X7_element_X70))))))
set_option maxRecDepth 20000 in
theorem gX7_element_X7_shelfAt : GoodIn wsX7_element (wsV RX7 59 RX7 yX7_shelfAt wsX7_shelfAt) := goodIn_app (dg_c 2 rfl rfl (dg_c 3 rfl rfl (dg_c 4 rfl rfl (dg_c 5 rfl rfl dg_0)))) ggX7_element_X7_shelfAt
set_option maxRecDepth 20000 in
theorem gl_X7_element_X40 : GoodIn wsX7_element wsX40 := (dg_t (dg_t (dg_t (dg_t (dg_t (dg_t (dg_t (dg_t (dg_t (dg_t (dg_t (dg_t (dg_t (dg_t (dg_t (dg_t (dg_t (dg_t (dg_t (dg_t (dg_t (dg_t (dg_l gw_wsX40)))))))))))))))))))))))
theorem ggX7_element_X4_noRow : GoodIn wsX7_element wsX4_noRow := (dg_c 15 rfl rfl (dg_c 16 rfl rfl gl_X7_element_X40))
set_option maxRecDepth 20000 in
theorem gX7_element_X4_noRow : GoodIn wsX7_element (wsV RX7 75 RX4 yX4_noRow wsX4_noRow) := goodIn_app (dg_c 11 rfl rfl (dg_c 12 rfl rfl (dg_c 13 rfl rfl (dg_c 14 rfl rfl dg_0)))) ggX7_element_X4_noRow
set_option maxRecDepth 20000 in
theorem ggX7_element_X4_hasSpan : GoodIn wsX7_element wsX4_hasSpan := (dg_c 20 rfl rfl (dg_c 21 rfl rfl gl_X7_element_X40))
set_option maxRecDepth 20000 in
theorem gX7_element_X4_hasSpan : GoodIn wsX7_element (wsV RX7 79 RX4 yX4_hasSpan wsX4_hasSpan) := goodIn_app (dg_c 17 rfl rfl (dg_c 18 rfl rfl (dg_c 19 rfl rfl (dg_c 14 rfl rfl dg_0)))) ggX7_element_X4_hasSpan
theorem dX7_element_0 : decode cX7_element 0 = .ok (.aload_n 0, 1) := dq_42 dp_cX7_element rfl
theorem dX7_element_1 : decode cX7_element 1 = .ok (.iload_n 1, 1) := dq_27 dp_cX7_element rfl
theorem dX7_element_2 : decode cX7_element 2 = .ok (.invokevirtual 59, 3) := dq_182 dp_cX7_element rfl
theorem dX7_element_5 : decode cX7_element 5 = .ok (.astore_n 3, 1) := dq_78 dp_cX7_element rfl
theorem dX7_element_6 : decode cX7_element 6 = .ok (.aload_n 3, 1) := dq_45 dp_cX7_element rfl
theorem dX7_element_7 : decode cX7_element 7 = .ok (.ifnull 19, 3) := dq_198 (v := 19) dp_cX7_element rfl rfl
theorem dX7_element_10 : decode cX7_element 10 = .ok (.aload_n 3, 1) := dq_45 dp_cX7_element rfl
theorem dX7_element_11 : decode cX7_element 11 = .ok (.invokevirtual 75, 3) := dq_182 dp_cX7_element rfl
theorem dX7_element_14 : decode cX7_element 14 = .ok (.ifCond .ne 12, 3) := dq_154 (v := 12) dp_cX7_element rfl rfl
theorem dX7_element_17 : decode cX7_element 17 = .ok (.aload_n 3, 1) := dq_45 dp_cX7_element rfl
theorem dX7_element_18 : decode cX7_element 18 = .ok (.iload_n 2, 1) := dq_28 dp_cX7_element rfl
theorem dX7_element_19 : decode cX7_element 19 = .ok (.iconst 1, 1) := dq_4 dp_cX7_element rfl
theorem dX7_element_20 : decode cX7_element 20 = .ok (.invokevirtual 79, 3) := dq_182 dp_cX7_element rfl
theorem dX7_element_23 : decode cX7_element 23 = .ok (.ifCond .ne 5, 3) := dq_154 (v := 5) dp_cX7_element rfl rfl
theorem dX7_element_26 : decode cX7_element 26 = .ok (.lconst 0, 1) := dq_9 dp_cX7_element rfl
theorem dX7_element_27 : decode cX7_element 27 = .ok (.lreturn, 1) := dq_173 dp_cX7_element rfl
theorem dX7_element_28 : decode cX7_element 28 = .ok (.aload_n 3, 1) := dq_45 dp_cX7_element rfl
theorem dX7_element_29 : decode cX7_element 29 = .ok (.getfield 90, 3) := dq_180 dp_cX7_element rfl
theorem dX7_element_32 : decode cX7_element 32 = .ok (.iload_n 2, 1) := dq_28 dp_cX7_element rfl
theorem dX7_element_33 : decode cX7_element 33 = .ok (.laload, 1) := dq_47 dp_cX7_element rfl
theorem dX7_element_34 : decode cX7_element 34 = .ok (.lreturn, 1) := dq_173 dp_cX7_element rfl
set_option maxRecDepth 20000 in
theorem gl_X7_show_X70 : GoodIn wsX7_show wsX70 := (dg_t (dg_t (dg_t (dg_t (dg_t (dg_t (dg_t (dg_t (dg_t (dg_t (dg_t (dg_t (dg_t (dg_t (dg_t (dg_t (dg_t (dg_t (dg_t (dg_t (dg_t (dg_t (dg_t (dg_t (dg_l (dg_l gw_wsX70))))))))))))))))))))))))))
theorem ggX7_show_X7_shelfAt : GoodIn wsX7_show wsX7_shelfAt := (dg_c 7 rfl rfl (dg_c 8 rfl rfl (dg_c 9 rfl rfl (dg_c 10 rfl rfl (dg_c 6 rfl rfl (dg_c 11 rfl rfl gl_X7_show_X70))))))
set_option maxRecDepth 20000 in
theorem gX7_show_X7_shelfAt : GoodIn wsX7_show (wsV RX7 59 RX7 yX7_shelfAt wsX7_shelfAt) := goodIn_app (dg_c 3 rfl rfl (dg_c 4 rfl rfl (dg_c 5 rfl rfl (dg_c 6 rfl rfl dg_0)))) ggX7_show_X7_shelfAt
set_option maxRecDepth 20000 in
theorem gl_X7_show_X00 : GoodIn wsX7_show wsX00 := (dg_t (dg_t (dg_t (dg_t (dg_t (dg_t (dg_t (dg_t (dg_t (dg_t (dg_t (dg_t (dg_t (dg_t (dg_t (dg_t (dg_t (dg_t (dg_t (dg_t (dg_t (dg_t (dg_t (dg_t (dg_r gw_wsX00)))))))))))))))))))))))))
theorem ggX7_show_X0_pullAt : GoodIn wsX7_show wsX0_pullAt := (dg_c 16 rfl rfl (dg_c 17 rfl rfl (dg_c 18 rfl rfl (dg_c 10 rfl rfl (dg_c 6 rfl rfl (dg_c 11 rfl rfl gl_X7_show_X00))))))
set_option maxRecDepth 20000 in
theorem gX7_show_X0_pullAt : GoodIn wsX7_show (wsV RX7 100 RX0 yX0_pullAt wsX0_pullAt) := goodIn_app (dg_c 12 rfl rfl (dg_c 13 rfl rfl (dg_c 14 rfl rfl (dg_c 15 rfl rfl dg_0)))) ggX7_show_X0_pullAt
set_option maxRecDepth 20000 in
theorem ggX7_show_X7_refuse : GoodIn wsX7_show wsX7_refuse := (dg_c 22 rfl rfl (dg_c 23 rfl rfl (dg_c 9 rfl rfl (dg_c 10 rfl rfl (dg_c 6 rfl rfl (dg_c 11 rfl rfl gl_X7_show_X70))))))
set_option maxRecDepth 20000 in
theorem gX7_show_X7_refuse : GoodIn wsX7_show (wsV RX7 63 RX7 yX7_refuse wsX7_refuse) := goodIn_app (dg_c 19 rfl rfl (dg_c 20 rfl rfl (dg_c 21 rfl rfl (dg_c 6 rfl rfl dg_0)))) ggX7_show_X7_refuse
theorem dX7_show_0 : decode cX7_show 0 = .ok (.aload_n 0, 1) := dq_42 dp_cX7_show rfl
theorem dX7_show_1 : decode cX7_show 1 = .ok (.iload_n 1, 1) := dq_27 dp_cX7_show rfl
theorem dX7_show_2 : decode cX7_show 2 = .ok (.invokevirtual 59, 3) := dq_182 dp_cX7_show rfl
theorem dX7_show_5 : decode cX7_show 5 = .ok (.astore_n 3, 1) := dq_78 dp_cX7_show rfl
theorem dX7_show_6 : decode cX7_show 6 = .ok (.aload_n 3, 1) := dq_45 dp_cX7_show rfl
theorem dX7_show_7 : decode cX7_show 7 = .ok (.ifnull 19, 3) := dq_198 (v := 19) dp_cX7_show rfl rfl
theorem dX7_show_10 : decode cX7_show 10 = .ok (.iload_n 2, 1) := dq_28 dp_cX7_show rfl
theorem dX7_show_11 : decode cX7_show 11 = .ok (.iconst (-1), 1) := dq_2 dp_cX7_show rfl
theorem dX7_show_12 : decode cX7_show 12 = .ok (.if_icmp .eq 20, 3) := dq_159 (v := 20) dp_cX7_show rfl rfl
theorem dX7_show_15 : decode cX7_show 15 = .ok (.aload_n 0, 1) := dq_42 dp_cX7_show rfl
theorem dX7_show_16 : decode cX7_show 16 = .ok (.getfield 18, 3) := dq_180 dp_cX7_show rfl
theorem dX7_show_19 : decode cX7_show 19 = .ok (.iload_n 2, 1) := dq_28 dp_cX7_show rfl
theorem dX7_show_20 : decode cX7_show 20 = .ok (.invokevirtual 100, 3) := dq_182 dp_cX7_show rfl
theorem dX7_show_23 : decode cX7_show 23 = .ok (.ifnonnull 9, 3) := dq_199 (v := 9) dp_cX7_show rfl rfl
theorem dX7_show_26 : decode cX7_show 26 = .ok (.aload_n 0, 1) := dq_42 dp_cX7_show rfl
theorem dX7_show_27 : decode cX7_show 27 = .ok (.iconst 1, 1) := dq_4 dp_cX7_show rfl
theorem dX7_show_28 : decode cX7_show 28 = .ok (.invokevirtual 63, 3) := dq_182 dp_cX7_show rfl
theorem dX7_show_31 : decode cX7_show 31 = .ok (.ireturn, 1) := dq_172 dp_cX7_show rfl
theorem dX7_show_32 : decode cX7_show 32 = .ok (.aload_n 3, 1) := dq_45 dp_cX7_show rfl
theorem dX7_show_33 : decode cX7_show 33 = .ok (.iload_n 2, 1) := dq_28 dp_cX7_show rfl
theorem dX7_show_34 : decode cX7_show 34 = .ok (.putfield 87, 3) := dq_181 dp_cX7_show rfl
theorem dX7_show_37 : decode cX7_show 37 = .ok (.iload_n 2, 1) := dq_28 dp_cX7_show rfl
theorem dX7_show_38 : decode cX7_show 38 = .ok (.iconst (-1), 1) := dq_2 dp_cX7_show rfl
theorem dX7_show_39 : decode cX7_show 39 = .ok (.if_icmp .ne 7, 3) := dq_160 (v := 7) dp_cX7_show rfl rfl
theorem dX7_show_42 : decode cX7_show 42 = .ok (.iconst 0, 1) := dq_3 dp_cX7_show rfl
theorem dX7_show_43 : decode cX7_show 43 = .ok (.goto 4, 3) := dq_167 (v := 4) dp_cX7_show rfl rfl
theorem dX7_show_46 : decode cX7_show 46 = .ok (.iconst 1, 1) := dq_4 dp_cX7_show rfl
theorem dX7_show_47 : decode cX7_show 47 = .ok (.ireturn, 1) := dq_172 dp_cX7_show rfl
set_option maxRecDepth 20000 in
theorem gl_X7_holds_X70 : GoodIn wsX7_holds wsX70 := (dg_t (dg_t (dg_t (dg_t (dg_t (dg_t (dg_t (dg_t (dg_t (dg_t (dg_t (dg_r gw_wsX70))))))))))))
theorem ggX7_holds_X7_shelfAt : GoodIn wsX7_holds wsX7_shelfAt := (dg_c 6 rfl rfl (dg_c 7 rfl rfl (dg_c 8 rfl rfl (dg_c 9 rfl rfl (dg_c 5 rfl rfl (dg_c 10 rfl rfl gl_X7_holds_X70))))))
set_option maxRecDepth 20000 in
theorem gX7_holds_X7_shelfAt : GoodIn wsX7_holds (wsV RX7 59 RX7 yX7_shelfAt wsX7_shelfAt) := goodIn_app (dg_c 2 rfl rfl (dg_c 3 rfl rfl (dg_c 4 rfl rfl (dg_c 5 rfl rfl dg_0)))) ggX7_holds_X7_shelfAt
theorem dX7_holds_0 : decode cX7_holds 0 = .ok (.aload_n 0, 1) := dq_42 dp_cX7_holds rfl
theorem dX7_holds_1 : decode cX7_holds 1 = .ok (.iload_n 1, 1) := dq_27 dp_cX7_holds rfl
theorem dX7_holds_2 : decode cX7_holds 2 = .ok (.invokevirtual 59, 3) := dq_182 dp_cX7_holds rfl
theorem dX7_holds_5 : decode cX7_holds 5 = .ok (.astore_n 2, 1) := dq_77 dp_cX7_holds rfl
theorem dX7_holds_6 : decode cX7_holds 6 = .ok (.aload_n 2, 1) := dq_44 dp_cX7_holds rfl
theorem dX7_holds_7 : decode cX7_holds 7 = .ok (.ifnonnull 7, 3) := dq_199 (v := 7) dp_cX7_holds rfl rfl
theorem dX7_holds_10 : decode cX7_holds 10 = .ok (.iconst (-1), 1) := dq_2 dp_cX7_holds rfl
theorem dX7_holds_11 : decode cX7_holds 11 = .ok (.goto 7, 3) := dq_167 (v := 7) dp_cX7_holds rfl rfl
theorem dX7_holds_14 : decode cX7_holds 14 = .ok (.aload_n 2, 1) := dq_44 dp_cX7_holds rfl
theorem dX7_holds_15 : decode cX7_holds 15 = .ok (.getfield 87, 3) := dq_180 dp_cX7_holds rfl
theorem dX7_holds_18 : decode cX7_holds 18 = .ok (.ireturn, 1) := dq_172 dp_cX7_holds rfl
set_option maxRecDepth 20000 in
theorem gl_X7_says_X70 : GoodIn wsX7_says wsX70 := (dg_t (dg_l (dg_l (dg_r gw_wsX70))))
theorem ggX7_says_X7_shelfAt : GoodIn wsX7_says wsX7_shelfAt := (dg_c 9 rfl rfl (dg_c 10 rfl rfl (dg_c 11 rfl rfl (dg_c 12 rfl rfl (dg_c 8 rfl rfl (dg_c 13 rfl rfl gl_X7_says_X70))))))
set_option maxRecDepth 20000 in
theorem gX7_says_X7_shelfAt : GoodIn wsX7_says (wsV RX7 59 RX7 yX7_shelfAt wsX7_shelfAt) := goodIn_app (dg_c 5 rfl rfl (dg_c 6 rfl rfl (dg_c 7 rfl rfl (dg_c 8 rfl rfl dg_0)))) ggX7_says_X7_shelfAt
set_option maxRecDepth 20000 in
theorem ggX7_says_X7_within : GoodIn wsX7_says wsX7_within := (dg_c 13 rfl rfl dg_0)
set_option maxRecDepth 20000 in
theorem gX7_says_X7_within : GoodIn wsX7_says (va_wsS RX7 67 yX7_within wsX7_within) := goodIn_app (dg_c 11 rfl rfl (dg_c 12 rfl rfl (dg_c 8 rfl rfl dg_0))) ggX7_says_X7_within
set_option maxRecDepth 20000 in
theorem ggX7_says_X7_refuse : GoodIn wsX7_says wsX7_refuse := (dg_c 17 rfl rfl (dg_c 18 rfl rfl (dg_c 11 rfl rfl (dg_c 12 rfl rfl (dg_c 8 rfl rfl (dg_c 13 rfl rfl gl_X7_says_X70))))))
set_option maxRecDepth 20000 in
theorem gX7_says_X7_refuse : GoodIn wsX7_says (wsV RX7 63 RX7 yX7_refuse wsX7_refuse) := goodIn_app (dg_c 14 rfl rfl (dg_c 15 rfl rfl (dg_c 16 rfl rfl (dg_c 8 rfl rfl dg_0)))) ggX7_says_X7_refuse
set_option maxRecDepth 20000 in
theorem gl_X7_says_X00 : GoodIn wsX7_says wsX00 := (dg_t (dg_r gw_wsX00))
theorem ggX7_says_X0_pullAt : GoodIn wsX7_says wsX0_pullAt := (dg_c 23 rfl rfl (dg_c 24 rfl rfl (dg_c 25 rfl rfl (dg_c 12 rfl rfl (dg_c 8 rfl rfl (dg_c 13 rfl rfl gl_X7_says_X00))))))
set_option maxRecDepth 20000 in
theorem gX7_says_X0_pullAt : GoodIn wsX7_says (wsV RX7 100 RX0 yX0_pullAt wsX0_pullAt) := goodIn_app (dg_c 19 rfl rfl (dg_c 20 rfl rfl (dg_c 21 rfl rfl (dg_c 22 rfl rfl dg_0)))) ggX7_says_X0_pullAt
set_option maxRecDepth 20000 in
theorem gl_X7_says_X20 : GoodIn wsX7_says wsX20 := (dg_t (dg_l (dg_r gw_wsX20)))
theorem ggX7_says_X2_isOf : GoodIn wsX7_says wsX2_isOf := (dg_c 30 rfl rfl (dg_c 31 rfl rfl (dg_c 12 rfl rfl (dg_c 8 rfl rfl (dg_c 13 rfl rfl gl_X7_says_X20)))))
set_option maxRecDepth 20000 in
theorem gX7_says_X2_isOf : GoodIn wsX7_says (wsV RX7 104 RX2 yX2_isOf wsX2_isOf) := goodIn_app (dg_c 26 rfl rfl (dg_c 27 rfl rfl (dg_c 28 rfl rfl (dg_c 29 rfl rfl dg_0)))) ggX7_says_X2_isOf
set_option maxRecDepth 20000 in
theorem ggX7_says_X2_step : GoodIn wsX7_says wsX2_step := (dg_c 35 rfl rfl (dg_c 31 rfl rfl (dg_c 36 rfl rfl gl_X7_says_X20)))
set_option maxRecDepth 20000 in
theorem gX7_says_X2_step : GoodIn wsX7_says (wsV RX7 113 RX2 yX2_step wsX2_step) := goodIn_app (dg_c 32 rfl rfl (dg_c 33 rfl rfl (dg_c 34 rfl rfl (dg_c 29 rfl rfl dg_0)))) ggX7_says_X2_step
set_option maxRecDepth 20000 in
theorem ggX7_says_X2_waysAt : GoodIn wsX7_says wsX2_waysAt := (dg_c 40 rfl rfl (dg_c 31 rfl rfl (dg_c 41 rfl rfl (dg_c 42 rfl rfl (dg_c 43 rfl rfl (dg_c 44 rfl rfl (dg_c 45 rfl rfl (dg_c 46 rfl rfl (dg_c 47 rfl rfl (dg_c 48 rfl rfl (dg_c 49 rfl rfl (dg_c 50 rfl rfl (dg_c 29 rfl rfl (dg_c 51 rfl rfl (dg_c 36 rfl rfl gl_X7_says_X20)))))))))))))))
set_option maxRecDepth 20000 in
theorem gX7_says_X2_waysAt : GoodIn wsX7_says (wsV RX7 119 RX2 yX2_waysAt wsX2_waysAt) := goodIn_app (dg_c 37 rfl rfl (dg_c 38 rfl rfl (dg_c 39 rfl rfl (dg_c 29 rfl rfl dg_0)))) ggX7_says_X2_waysAt
theorem dX7_says_0 : decode cX7_says 0 = .ok (.aload_n 0, 1) := dq_42 dp_cX7_says rfl
theorem dX7_says_1 : decode cX7_says 1 = .ok (.iload_n 1, 1) := dq_27 dp_cX7_says rfl
theorem dX7_says_2 : decode cX7_says 2 = .ok (.invokevirtual 59, 3) := dq_182 dp_cX7_says rfl
theorem dX7_says_5 : decode cX7_says 5 = .ok (.astore_n 3, 1) := dq_78 dp_cX7_says rfl
theorem dX7_says_6 : decode cX7_says 6 = .ok (.aload_n 3, 1) := dq_45 dp_cX7_says rfl
theorem dX7_says_7 : decode cX7_says 7 = .ok (.ifnull 13, 3) := dq_198 (v := 13) dp_cX7_says rfl rfl
theorem dX7_says_10 : decode cX7_says 10 = .ok (.iload_n 2, 1) := dq_28 dp_cX7_says rfl
theorem dX7_says_11 : decode cX7_says 11 = .ok (.iconst 0, 1) := dq_3 dp_cX7_says rfl
theorem dX7_says_12 : decode cX7_says 12 = .ok (.bipush 6, 2) := dq_16 (v := 6) dp_cX7_says rfl rfl
theorem dX7_says_14 : decode cX7_says 14 = .ok (.invokestatic 67, 3) := dq_184 dp_cX7_says rfl
theorem dX7_says_17 : decode cX7_says 17 = .ok (.ifCond .ne 9, 3) := dq_154 (v := 9) dp_cX7_says rfl rfl
theorem dX7_says_20 : decode cX7_says 20 = .ok (.aload_n 0, 1) := dq_42 dp_cX7_says rfl
theorem dX7_says_21 : decode cX7_says 21 = .ok (.iconst 1, 1) := dq_4 dp_cX7_says rfl
theorem dX7_says_22 : decode cX7_says 22 = .ok (.invokevirtual 63, 3) := dq_182 dp_cX7_says rfl
theorem dX7_says_25 : decode cX7_says 25 = .ok (.ireturn, 1) := dq_172 dp_cX7_says rfl
theorem dX7_says_26 : decode cX7_says 26 = .ok (.aload_n 3, 1) := dq_45 dp_cX7_says rfl
theorem dX7_says_27 : decode cX7_says 27 = .ok (.getfield 87, 3) := dq_180 dp_cX7_says rfl
theorem dX7_says_30 : decode cX7_says 30 = .ok (.iconst (-1), 1) := dq_2 dp_cX7_says rfl
theorem dX7_says_31 : decode cX7_says 31 = .ok (.if_icmp .ne 9, 3) := dq_160 (v := 9) dp_cX7_says rfl rfl
theorem dX7_says_34 : decode cX7_says 34 = .ok (.aload_n 0, 1) := dq_42 dp_cX7_says rfl
theorem dX7_says_35 : decode cX7_says 35 = .ok (.iconst 3, 1) := dq_6 dp_cX7_says rfl
theorem dX7_says_36 : decode cX7_says 36 = .ok (.invokevirtual 63, 3) := dq_182 dp_cX7_says rfl
theorem dX7_says_39 : decode cX7_says 39 = .ok (.ireturn, 1) := dq_172 dp_cX7_says rfl
theorem dX7_says_40 : decode cX7_says 40 = .ok (.aload_n 0, 1) := dq_42 dp_cX7_says rfl
theorem dX7_says_41 : decode cX7_says 41 = .ok (.getfield 18, 3) := dq_180 dp_cX7_says rfl
theorem dX7_says_44 : decode cX7_says 44 = .ok (.aload_n 3, 1) := dq_45 dp_cX7_says rfl
theorem dX7_says_45 : decode cX7_says 45 = .ok (.getfield 87, 3) := dq_180 dp_cX7_says rfl
theorem dX7_says_48 : decode cX7_says 48 = .ok (.invokevirtual 100, 3) := dq_182 dp_cX7_says rfl
theorem dX7_says_51 : decode cX7_says 51 = .ok (.astore 4, 2) := dq_58 dp_cX7_says rfl
theorem dX7_says_53 : decode cX7_says 53 = .ok (.aload 4, 2) := dq_25 dp_cX7_says rfl
theorem dX7_says_55 : decode cX7_says 55 = .ok (.ifnull 12, 3) := dq_198 (v := 12) dp_cX7_says rfl rfl
theorem dX7_says_58 : decode cX7_says 58 = .ok (.aload 4, 2) := dq_25 dp_cX7_says rfl
theorem dX7_says_60 : decode cX7_says 60 = .ok (.iload_n 2, 1) := dq_28 dp_cX7_says rfl
theorem dX7_says_61 : decode cX7_says 61 = .ok (.invokevirtual 104, 3) := dq_182 dp_cX7_says rfl
theorem dX7_says_64 : decode cX7_says 64 = .ok (.ifCond .ne 9, 3) := dq_154 (v := 9) dp_cX7_says rfl rfl
theorem dX7_says_67 : decode cX7_says 67 = .ok (.aload_n 0, 1) := dq_42 dp_cX7_says rfl
theorem dX7_says_68 : decode cX7_says 68 = .ok (.iconst 2, 1) := dq_5 dp_cX7_says rfl
theorem dX7_says_69 : decode cX7_says 69 = .ok (.invokevirtual 63, 3) := dq_182 dp_cX7_says rfl
theorem dX7_says_72 : decode cX7_says 72 = .ok (.ireturn, 1) := dq_172 dp_cX7_says rfl
theorem dX7_says_73 : decode cX7_says 73 = .ok (.iload_n 2, 1) := dq_28 dp_cX7_says rfl
theorem dX7_says_74 : decode cX7_says 74 = .ok (.tableswitch 65 0 5 #[38, 65, 44, 65, 50, 44], 38) := by decide +kernel
theorem dX7_says_112 : decode cX7_says 112 = .ok (.aload 4, 2) := dq_25 dp_cX7_says rfl
theorem dX7_says_114 : decode cX7_says 114 = .ok (.getfield 110, 3) := dq_180 dp_cX7_says rfl
theorem dX7_says_117 : decode cX7_says 117 = .ok (.ireturn, 1) := dq_172 dp_cX7_says rfl
theorem dX7_says_118 : decode cX7_says 118 = .ok (.aload 4, 2) := dq_25 dp_cX7_says rfl
theorem dX7_says_120 : decode cX7_says 120 = .ok (.invokevirtual 113, 3) := dq_182 dp_cX7_says rfl
theorem dX7_says_123 : decode cX7_says 123 = .ok (.ireturn, 1) := dq_172 dp_cX7_says rfl
theorem dX7_says_124 : decode cX7_says 124 = .ok (.aload 4, 2) := dq_25 dp_cX7_says rfl
theorem dX7_says_126 : decode cX7_says 126 = .ok (.bipush 12, 2) := dq_16 (v := 12) dp_cX7_says rfl rfl
theorem dX7_says_128 : decode cX7_says 128 = .ok (.aload_n 0, 1) := dq_42 dp_cX7_says rfl
theorem dX7_says_129 : decode cX7_says 129 = .ok (.getfield 18, 3) := dq_180 dp_cX7_says rfl
theorem dX7_says_132 : decode cX7_says 132 = .ok (.getfield 116, 3) := dq_180 dp_cX7_says rfl
theorem dX7_says_135 : decode cX7_says 135 = .ok (.invokevirtual 119, 3) := dq_182 dp_cX7_says rfl
theorem dX7_says_138 : decode cX7_says 138 = .ok (.ireturn, 1) := dq_172 dp_cX7_says rfl
theorem dX7_says_139 : decode cX7_says 139 = .ok (.aload 4, 2) := dq_25 dp_cX7_says rfl
theorem dX7_says_141 : decode cX7_says 141 = .ok (.bipush 8, 2) := dq_16 (v := 8) dp_cX7_says rfl rfl
theorem dX7_says_143 : decode cX7_says 143 = .ok (.aload_n 0, 1) := dq_42 dp_cX7_says rfl
theorem dX7_says_144 : decode cX7_says 144 = .ok (.getfield 18, 3) := dq_180 dp_cX7_says rfl
theorem dX7_says_147 : decode cX7_says 147 = .ok (.getfield 116, 3) := dq_180 dp_cX7_says rfl
theorem dX7_says_150 : decode cX7_says 150 = .ok (.invokevirtual 119, 3) := dq_182 dp_cX7_says rfl
theorem dX7_says_153 : decode cX7_says 153 = .ok (.ireturn, 1) := dq_172 dp_cX7_says rfl
set_option maxRecDepth 20000 in
theorem ggX7_pull_X7_within : GoodIn wsX7_pull wsX7_within := (dg_c 6 rfl rfl dg_0)
set_option maxRecDepth 20000 in
theorem gX7_pull_X7_within : GoodIn wsX7_pull (va_wsS RX7 67 yX7_within wsX7_within) := goodIn_app (dg_c 3 rfl rfl (dg_c 4 rfl rfl (dg_c 5 rfl rfl dg_0))) ggX7_pull_X7_within
set_option maxRecDepth 20000 in
theorem gl_X7_pull_X70 : GoodIn wsX7_pull wsX70 := (dg_t (dg_l (dg_l (dg_r gw_wsX70))))
theorem ggX7_pull_X7_refuse : GoodIn wsX7_pull wsX7_refuse := (dg_c 10 rfl rfl (dg_c 11 rfl rfl (dg_c 3 rfl rfl (dg_c 4 rfl rfl (dg_c 5 rfl rfl (dg_c 6 rfl rfl gl_X7_pull_X70))))))
set_option maxRecDepth 20000 in
theorem gX7_pull_X7_refuse : GoodIn wsX7_pull (wsV RX7 63 RX7 yX7_refuse wsX7_refuse) := goodIn_app (dg_c 7 rfl rfl (dg_c 8 rfl rfl (dg_c 9 rfl rfl (dg_c 5 rfl rfl dg_0)))) ggX7_pull_X7_refuse
set_option maxRecDepth 20000 in
theorem gl_X7_pull_X00 : GoodIn wsX7_pull wsX00 := (dg_t (dg_l (dg_r gw_wsX00)))
theorem gl_X7_pull_X20 : GoodIn wsX7_pull wsX20 := (dg_t (dg_r gw_wsX20))
theorem ggX7_pull_X0_addPull : GoodIn wsX7_pull wsX0_addPull := (dg_c 16 rfl rfl (dg_c 17 rfl rfl (dg_c 18 rfl rfl (dg_c 19 rfl rfl (dg_c 20 rfl rfl (dg_c 21 rfl rfl (dg_c 22 rfl rfl (dg_c 23 rfl rfl (dg_c 24 rfl rfl (dg_c 25 rfl rfl (dg_c 26 rfl rfl (dg_c 27 rfl rfl (dg_c 28 rfl rfl (dg_c 29 rfl rfl (dg_c 30 rfl rfl (goodIn_app gl_X7_pull_X00 gl_X7_pull_X20))))))))))))))))
set_option maxRecDepth 20000 in
theorem gX7_pull_X0_addPull : GoodIn wsX7_pull (wsV RX7 126 RX0 yX0_addPull wsX0_addPull) := goodIn_app (dg_c 12 rfl rfl (dg_c 13 rfl rfl (dg_c 14 rfl rfl (dg_c 15 rfl rfl dg_0)))) ggX7_pull_X0_addPull
theorem dX7_pull_0 : decode cX7_pull 0 = .ok (.iload_n 1, 1) := dq_27 dp_cX7_pull rfl
theorem dX7_pull_1 : decode cX7_pull 1 = .ok (.iconst 0, 1) := dq_3 dp_cX7_pull rfl
theorem dX7_pull_2 : decode cX7_pull 2 = .ok (.bipush 6, 2) := dq_16 (v := 6) dp_cX7_pull rfl rfl
theorem dX7_pull_4 : decode cX7_pull 4 = .ok (.invokestatic 67, 3) := dq_184 dp_cX7_pull rfl
theorem dX7_pull_7 : decode cX7_pull 7 = .ok (.ifCond .ne 9, 3) := dq_154 (v := 9) dp_cX7_pull rfl rfl
theorem dX7_pull_10 : decode cX7_pull 10 = .ok (.aload_n 0, 1) := dq_42 dp_cX7_pull rfl
theorem dX7_pull_11 : decode cX7_pull 11 = .ok (.iconst 1, 1) := dq_4 dp_cX7_pull rfl
theorem dX7_pull_12 : decode cX7_pull 12 = .ok (.invokevirtual 63, 3) := dq_182 dp_cX7_pull rfl
theorem dX7_pull_15 : decode cX7_pull 15 = .ok (.ireturn, 1) := dq_172 dp_cX7_pull rfl
theorem dX7_pull_16 : decode cX7_pull 16 = .ok (.iload_n 2, 1) := dq_28 dp_cX7_pull rfl
theorem dX7_pull_17 : decode cX7_pull 17 = .ok (.iconst 0, 1) := dq_3 dp_cX7_pull rfl
theorem dX7_pull_18 : decode cX7_pull 18 = .ok (.bipush 9, 2) := dq_16 (v := 9) dp_cX7_pull rfl rfl
theorem dX7_pull_20 : decode cX7_pull 20 = .ok (.invokestatic 67, 3) := dq_184 dp_cX7_pull rfl
theorem dX7_pull_23 : decode cX7_pull 23 = .ok (.ifCond .eq 13, 3) := dq_153 (v := 13) dp_cX7_pull rfl rfl
theorem dX7_pull_26 : decode cX7_pull 26 = .ok (.iload_n 3, 1) := dq_29 dp_cX7_pull rfl
theorem dX7_pull_27 : decode cX7_pull 27 = .ok (.iconst 1, 1) := dq_4 dp_cX7_pull rfl
theorem dX7_pull_28 : decode cX7_pull 28 = .ok (.bipush 60, 2) := dq_16 (v := 60) dp_cX7_pull rfl rfl
theorem dX7_pull_30 : decode cX7_pull 30 = .ok (.invokestatic 67, 3) := dq_184 dp_cX7_pull rfl
theorem dX7_pull_33 : decode cX7_pull 33 = .ok (.ifCond .ne 10, 3) := dq_154 (v := 10) dp_cX7_pull rfl rfl
theorem dX7_pull_36 : decode cX7_pull 36 = .ok (.aload_n 0, 1) := dq_42 dp_cX7_pull rfl
theorem dX7_pull_37 : decode cX7_pull 37 = .ok (.bipush 6, 2) := dq_16 (v := 6) dp_cX7_pull rfl rfl
theorem dX7_pull_39 : decode cX7_pull 39 = .ok (.invokevirtual 63, 3) := dq_182 dp_cX7_pull rfl
theorem dX7_pull_42 : decode cX7_pull 42 = .ok (.ireturn, 1) := dq_172 dp_cX7_pull rfl
theorem dX7_pull_43 : decode cX7_pull 43 = .ok (.aload_n 0, 1) := dq_42 dp_cX7_pull rfl
theorem dX7_pull_44 : decode cX7_pull 44 = .ok (.getfield 18, 3) := dq_180 dp_cX7_pull rfl
theorem dX7_pull_47 : decode cX7_pull 47 = .ok (.getfield 123, 3) := dq_180 dp_cX7_pull rfl
theorem dX7_pull_50 : decode cX7_pull 50 = .ok (.bipush 8, 2) := dq_16 (v := 8) dp_cX7_pull rfl rfl
theorem dX7_pull_52 : decode cX7_pull 52 = .ok (.if_icmp .lt 10, 3) := dq_161 (v := 10) dp_cX7_pull rfl rfl
theorem dX7_pull_55 : decode cX7_pull 55 = .ok (.aload_n 0, 1) := dq_42 dp_cX7_pull rfl
theorem dX7_pull_56 : decode cX7_pull 56 = .ok (.bipush 7, 2) := dq_16 (v := 7) dp_cX7_pull rfl rfl
theorem dX7_pull_58 : decode cX7_pull 58 = .ok (.invokevirtual 63, 3) := dq_182 dp_cX7_pull rfl
theorem dX7_pull_61 : decode cX7_pull 61 = .ok (.ireturn, 1) := dq_172 dp_cX7_pull rfl
theorem dX7_pull_62 : decode cX7_pull 62 = .ok (.aload_n 0, 1) := dq_42 dp_cX7_pull rfl
theorem dX7_pull_63 : decode cX7_pull 63 = .ok (.getfield 18, 3) := dq_180 dp_cX7_pull rfl
theorem dX7_pull_66 : decode cX7_pull 66 = .ok (.iload_n 1, 1) := dq_27 dp_cX7_pull rfl
theorem dX7_pull_67 : decode cX7_pull 67 = .ok (.iload_n 2, 1) := dq_28 dp_cX7_pull rfl
theorem dX7_pull_68 : decode cX7_pull 68 = .ok (.iload_n 3, 1) := dq_29 dp_cX7_pull rfl
theorem dX7_pull_69 : decode cX7_pull 69 = .ok (.invokevirtual 126, 3) := dq_182 dp_cX7_pull rfl
theorem dX7_pull_72 : decode cX7_pull 72 = .ok (.ireturn, 1) := dq_172 dp_cX7_pull rfl
set_option maxRecDepth 20000 in
theorem gl_X7_pullOf_X00 : GoodIn wsX7_pullOf wsX00 := (dg_t (dg_r gw_wsX00))
theorem ggX7_pullOf_X0_pullAt : GoodIn wsX7_pullOf wsX0_pullAt := (dg_c 9 rfl rfl (dg_c 10 rfl rfl (dg_c 11 rfl rfl (dg_c 12 rfl rfl (dg_c 13 rfl rfl (dg_c 14 rfl rfl gl_X7_pullOf_X00))))))
set_option maxRecDepth 20000 in
theorem gX7_pullOf_X0_pullAt : GoodIn wsX7_pullOf (wsV RX7 100 RX0 yX0_pullAt wsX0_pullAt) := goodIn_app (dg_c 5 rfl rfl (dg_c 6 rfl rfl (dg_c 7 rfl rfl (dg_c 8 rfl rfl dg_0)))) ggX7_pullOf_X0_pullAt
set_option maxRecDepth 20000 in
theorem gl_X7_pullOf_X70 : GoodIn wsX7_pullOf wsX70 := (dg_t (dg_l (dg_l (dg_r gw_wsX70))))
theorem ggX7_pullOf_X7_refuse : GoodIn wsX7_pullOf wsX7_refuse := (dg_c 18 rfl rfl (dg_c 19 rfl rfl (dg_c 20 rfl rfl (dg_c 12 rfl rfl (dg_c 13 rfl rfl (dg_c 14 rfl rfl gl_X7_pullOf_X70))))))
set_option maxRecDepth 20000 in
theorem gX7_pullOf_X7_refuse : GoodIn wsX7_pullOf (wsV RX7 63 RX7 yX7_refuse wsX7_refuse) := goodIn_app (dg_c 15 rfl rfl (dg_c 16 rfl rfl (dg_c 17 rfl rfl (dg_c 13 rfl rfl dg_0)))) ggX7_pullOf_X7_refuse
set_option maxRecDepth 20000 in
theorem gl_X7_pullOf_X20 : GoodIn wsX7_pullOf wsX20 := (dg_t (dg_l (dg_r gw_wsX20)))
theorem ggX7_pullOf_X2_step : GoodIn wsX7_pullOf wsX2_step := (dg_c 25 rfl rfl (dg_c 26 rfl rfl (dg_c 27 rfl rfl gl_X7_pullOf_X20)))
set_option maxRecDepth 20000 in
theorem gX7_pullOf_X2_step : GoodIn wsX7_pullOf (wsV RX7 113 RX2 yX2_step wsX2_step) := goodIn_app (dg_c 21 rfl rfl (dg_c 22 rfl rfl (dg_c 23 rfl rfl (dg_c 24 rfl rfl dg_0)))) ggX7_pullOf_X2_step
set_option maxRecDepth 20000 in
theorem ggX7_pullOf_X0_mayBe : GoodIn wsX7_pullOf wsX0_mayBe := (dg_c 31 rfl rfl (dg_c 32 rfl rfl (dg_c 33 rfl rfl (dg_c 34 rfl rfl (dg_c 35 rfl rfl (dg_c 36 rfl rfl (dg_c 24 rfl rfl (dg_c 37 rfl rfl (dg_c 38 rfl rfl (goodIn_app gl_X7_pullOf_X00 gl_X7_pullOf_X20))))))))))
set_option maxRecDepth 20000 in
theorem gX7_pullOf_X0_mayBe : GoodIn wsX7_pullOf (wsV RX7 136 RX0 yX0_mayBe wsX0_mayBe) := goodIn_app (dg_c 28 rfl rfl (dg_c 29 rfl rfl (dg_c 30 rfl rfl (dg_c 8 rfl rfl dg_0)))) ggX7_pullOf_X0_mayBe
theorem dX7_pullOf_0 : decode cX7_pullOf 0 = .ok (.aload_n 0, 1) := dq_42 dp_cX7_pullOf rfl
theorem dX7_pullOf_1 : decode cX7_pullOf 1 = .ok (.getfield 18, 3) := dq_180 dp_cX7_pullOf rfl
theorem dX7_pullOf_4 : decode cX7_pullOf 4 = .ok (.iload_n 1, 1) := dq_27 dp_cX7_pullOf rfl
theorem dX7_pullOf_5 : decode cX7_pullOf 5 = .ok (.invokevirtual 100, 3) := dq_182 dp_cX7_pullOf rfl
theorem dX7_pullOf_8 : decode cX7_pullOf 8 = .ok (.astore_n 3, 1) := dq_78 dp_cX7_pullOf rfl
theorem dX7_pullOf_9 : decode cX7_pullOf 9 = .ok (.aload_n 3, 1) := dq_45 dp_cX7_pullOf rfl
theorem dX7_pullOf_10 : decode cX7_pullOf 10 = .ok (.ifnonnull 9, 3) := dq_199 (v := 9) dp_cX7_pullOf rfl rfl
theorem dX7_pullOf_13 : decode cX7_pullOf 13 = .ok (.aload_n 0, 1) := dq_42 dp_cX7_pullOf rfl
theorem dX7_pullOf_14 : decode cX7_pullOf 14 = .ok (.iconst 5, 1) := dq_8 dp_cX7_pullOf rfl
theorem dX7_pullOf_15 : decode cX7_pullOf 15 = .ok (.invokevirtual 63, 3) := dq_182 dp_cX7_pullOf rfl
theorem dX7_pullOf_18 : decode cX7_pullOf 18 = .ok (.ireturn, 1) := dq_172 dp_cX7_pullOf rfl
theorem dX7_pullOf_19 : decode cX7_pullOf 19 = .ok (.iload_n 2, 1) := dq_28 dp_cX7_pullOf rfl
theorem dX7_pullOf_20 : decode cX7_pullOf 20 = .ok (.tableswitch 73 0 4 #[36, 41, 46, 51, 56], 36) := by decide +kernel
theorem dX7_pullOf_56 : decode cX7_pullOf 56 = .ok (.aload_n 3, 1) := dq_45 dp_cX7_pullOf rfl
theorem dX7_pullOf_57 : decode cX7_pullOf 57 = .ok (.getfield 130, 3) := dq_180 dp_cX7_pullOf rfl
theorem dX7_pullOf_60 : decode cX7_pullOf 60 = .ok (.ireturn, 1) := dq_172 dp_cX7_pullOf rfl
theorem dX7_pullOf_61 : decode cX7_pullOf 61 = .ok (.aload_n 3, 1) := dq_45 dp_cX7_pullOf rfl
theorem dX7_pullOf_62 : decode cX7_pullOf 62 = .ok (.getfield 133, 3) := dq_180 dp_cX7_pullOf rfl
theorem dX7_pullOf_65 : decode cX7_pullOf 65 = .ok (.ireturn, 1) := dq_172 dp_cX7_pullOf rfl
theorem dX7_pullOf_66 : decode cX7_pullOf 66 = .ok (.aload_n 3, 1) := dq_45 dp_cX7_pullOf rfl
theorem dX7_pullOf_67 : decode cX7_pullOf 67 = .ok (.getfield 110, 3) := dq_180 dp_cX7_pullOf rfl
theorem dX7_pullOf_70 : decode cX7_pullOf 70 = .ok (.ireturn, 1) := dq_172 dp_cX7_pullOf rfl
theorem dX7_pullOf_71 : decode cX7_pullOf 71 = .ok (.aload_n 3, 1) := dq_45 dp_cX7_pullOf rfl
theorem dX7_pullOf_72 : decode cX7_pullOf 72 = .ok (.invokevirtual 113, 3) := dq_182 dp_cX7_pullOf rfl
theorem dX7_pullOf_75 : decode cX7_pullOf 75 = .ok (.ireturn, 1) := dq_172 dp_cX7_pullOf rfl
theorem dX7_pullOf_76 : decode cX7_pullOf 76 = .ok (.aload_n 0, 1) := dq_42 dp_cX7_pullOf rfl
theorem dX7_pullOf_77 : decode cX7_pullOf 77 = .ok (.getfield 18, 3) := dq_180 dp_cX7_pullOf rfl
theorem dX7_pullOf_80 : decode cX7_pullOf 80 = .ok (.aload_n 3, 1) := dq_45 dp_cX7_pullOf rfl
theorem dX7_pullOf_81 : decode cX7_pullOf 81 = .ok (.invokevirtual 136, 3) := dq_182 dp_cX7_pullOf rfl
theorem dX7_pullOf_84 : decode cX7_pullOf 84 = .ok (.ifCond .eq 7, 3) := dq_153 (v := 7) dp_cX7_pullOf rfl rfl
theorem dX7_pullOf_87 : decode cX7_pullOf 87 = .ok (.iconst 1, 1) := dq_4 dp_cX7_pullOf rfl
theorem dX7_pullOf_88 : decode cX7_pullOf 88 = .ok (.goto 4, 3) := dq_167 (v := 4) dp_cX7_pullOf rfl rfl
theorem dX7_pullOf_91 : decode cX7_pullOf 91 = .ok (.iconst 0, 1) := dq_3 dp_cX7_pullOf rfl
theorem dX7_pullOf_92 : decode cX7_pullOf 92 = .ok (.ireturn, 1) := dq_172 dp_cX7_pullOf rfl
theorem dX7_pullOf_93 : decode cX7_pullOf 93 = .ok (.aload_n 0, 1) := dq_42 dp_cX7_pullOf rfl
theorem dX7_pullOf_94 : decode cX7_pullOf 94 = .ok (.iconst 5, 1) := dq_8 dp_cX7_pullOf rfl
theorem dX7_pullOf_95 : decode cX7_pullOf 95 = .ok (.invokevirtual 63, 3) := dq_182 dp_cX7_pullOf rfl
theorem dX7_pullOf_98 : decode cX7_pullOf 98 = .ok (.ireturn, 1) := dq_172 dp_cX7_pullOf rfl
set_option maxRecDepth 20000 in
theorem ggX7_teeth_X7_within : GoodIn wsX7_teeth wsX7_within := (dg_c 7 rfl rfl dg_0)
set_option maxRecDepth 20000 in
theorem gX7_teeth_X7_within : GoodIn wsX7_teeth (va_wsS RX7 67 yX7_within wsX7_within) := goodIn_app (dg_c 4 rfl rfl (dg_c 5 rfl rfl (dg_c 6 rfl rfl dg_0))) ggX7_teeth_X7_within
set_option maxRecDepth 20000 in
theorem gl_X7_teeth_X70 : GoodIn wsX7_teeth wsX70 := (dg_t (dg_t (dg_t (dg_t (dg_t (dg_t (dg_t (dg_t (dg_t (dg_t (dg_t (dg_t (dg_t (dg_t (dg_t (dg_t (dg_t (dg_t (dg_t (dg_t (dg_t (dg_t (dg_l (dg_l gw_wsX70))))))))))))))))))))))))
theorem ggX7_teeth_X7_refuse : GoodIn wsX7_teeth wsX7_refuse := (dg_c 11 rfl rfl (dg_c 12 rfl rfl (dg_c 4 rfl rfl (dg_c 5 rfl rfl (dg_c 6 rfl rfl (dg_c 7 rfl rfl gl_X7_teeth_X70))))))
set_option maxRecDepth 20000 in
theorem gX7_teeth_X7_refuse : GoodIn wsX7_teeth (wsV RX7 63 RX7 yX7_refuse wsX7_refuse) := goodIn_app (dg_c 8 rfl rfl (dg_c 9 rfl rfl (dg_c 10 rfl rfl (dg_c 6 rfl rfl dg_0)))) ggX7_teeth_X7_refuse
set_option maxRecDepth 20000 in
theorem gl_X7_teeth_X60 : GoodIn wsX7_teeth wsX60 := (dg_t (dg_t (dg_t (dg_t (dg_t (dg_t (dg_t (dg_t (dg_t (dg_t (dg_t (dg_t (dg_t (dg_t (dg_t (dg_t (dg_t (dg_t (dg_t (dg_t (dg_t (dg_t (dg_r gw_wsX60)))))))))))))))))))))))
theorem ggX7_teeth_X6_renew : GoodIn wsX7_teeth wsX6_renew := (dg_c 17 rfl rfl (dg_c 18 rfl rfl (dg_c 19 rfl rfl (dg_c 20 rfl rfl (dg_c 21 rfl rfl gl_X7_teeth_X60)))))
set_option maxRecDepth 20000 in
theorem gX7_teeth_X6_renew : GoodIn wsX7_teeth (wsV RX7 149 RX6 yX6_renew wsX6_renew) := goodIn_app (dg_c 13 rfl rfl (dg_c 14 rfl rfl (dg_c 15 rfl rfl (dg_c 16 rfl rfl dg_0)))) ggX7_teeth_X6_renew
theorem dX7_teeth_0 : decode cX7_teeth 0 = .ok (.iload_n 1, 1) := dq_27 dp_cX7_teeth rfl
theorem dX7_teeth_1 : decode cX7_teeth 1 = .ok (.iconst 4, 1) := dq_7 dp_cX7_teeth rfl
theorem dX7_teeth_2 : decode cX7_teeth 2 = .ok (.bipush 40, 2) := dq_16 (v := 40) dp_cX7_teeth rfl rfl
theorem dX7_teeth_4 : decode cX7_teeth 4 = .ok (.invokestatic 67, 3) := dq_184 dp_cX7_teeth rfl
theorem dX7_teeth_7 : decode cX7_teeth 7 = .ok (.ifCond .ne 10, 3) := dq_154 (v := 10) dp_cX7_teeth rfl rfl
theorem dX7_teeth_10 : decode cX7_teeth 10 = .ok (.aload_n 0, 1) := dq_42 dp_cX7_teeth rfl
theorem dX7_teeth_11 : decode cX7_teeth 11 = .ok (.bipush 6, 2) := dq_16 (v := 6) dp_cX7_teeth rfl rfl
theorem dX7_teeth_13 : decode cX7_teeth 13 = .ok (.invokevirtual 63, 3) := dq_182 dp_cX7_teeth rfl
theorem dX7_teeth_16 : decode cX7_teeth 16 = .ok (.ireturn, 1) := dq_172 dp_cX7_teeth rfl
theorem dX7_teeth_17 : decode cX7_teeth 17 = .ok (.aload_n 0, 1) := dq_42 dp_cX7_teeth rfl
theorem dX7_teeth_18 : decode cX7_teeth 18 = .ok (.getfield 18, 3) := dq_180 dp_cX7_teeth rfl
theorem dX7_teeth_21 : decode cX7_teeth 21 = .ok (.getfield 140, 3) := dq_180 dp_cX7_teeth rfl
theorem dX7_teeth_24 : decode cX7_teeth 24 = .ok (.getfield 144, 3) := dq_180 dp_cX7_teeth rfl
theorem dX7_teeth_27 : decode cX7_teeth 27 = .ok (.istore_n 2, 1) := dq_61 dp_cX7_teeth rfl
theorem dX7_teeth_28 : decode cX7_teeth 28 = .ok (.aload_n 0, 1) := dq_42 dp_cX7_teeth rfl
theorem dX7_teeth_29 : decode cX7_teeth 29 = .ok (.getfield 18, 3) := dq_180 dp_cX7_teeth rfl
theorem dX7_teeth_32 : decode cX7_teeth 32 = .ok (.getfield 140, 3) := dq_180 dp_cX7_teeth rfl
theorem dX7_teeth_35 : decode cX7_teeth 35 = .ok (.iload_n 1, 1) := dq_27 dp_cX7_teeth rfl
theorem dX7_teeth_36 : decode cX7_teeth 36 = .ok (.invokevirtual 149, 3) := dq_182 dp_cX7_teeth rfl
theorem dX7_teeth_39 : decode cX7_teeth 39 = .ok (.iload_n 2, 1) := dq_28 dp_cX7_teeth rfl
theorem dX7_teeth_40 : decode cX7_teeth 40 = .ok (.ireturn, 1) := dq_172 dp_cX7_teeth rfl
set_option maxRecDepth 20000 in
theorem gl_X7_lack_X60 : GoodIn wsX7_lack wsX60 := (dg_t (dg_t (dg_t (dg_t (dg_t (dg_t (dg_t (dg_t (dg_t (dg_t (dg_t (dg_t (dg_t (dg_t (dg_t (dg_t (dg_t (dg_t (dg_t (dg_r gw_wsX60))))))))))))))))))))
theorem ggX7_lack_X6_has : GoodIn wsX7_lack wsX6_has := (dg_c 8 rfl rfl (dg_c 9 rfl rfl gl_X7_lack_X60))
set_option maxRecDepth 20000 in
theorem gX7_lack_X6_has : GoodIn wsX7_lack (wsV RX7 153 RX6 yX6_has wsX6_has) := goodIn_app (dg_c 4 rfl rfl (dg_c 5 rfl rfl (dg_c 6 rfl rfl (dg_c 7 rfl rfl dg_0)))) ggX7_lack_X6_has
set_option maxRecDepth 20000 in
theorem gl_X7_lack_X70 : GoodIn wsX7_lack wsX70 := (dg_t (dg_t (dg_t (dg_t (dg_t (dg_t (dg_t (dg_t (dg_t (dg_t (dg_t (dg_t (dg_t (dg_t (dg_t (dg_t (dg_t (dg_t (dg_t (dg_l (dg_l gw_wsX70)))))))))))))))))))))
theorem ggX7_lack_X7_refuse : GoodIn wsX7_lack wsX7_refuse := (dg_c 14 rfl rfl (dg_c 15 rfl rfl (dg_c 16 rfl rfl (dg_c 17 rfl rfl (dg_c 13 rfl rfl (dg_c 18 rfl rfl gl_X7_lack_X70))))))
set_option maxRecDepth 20000 in
theorem gX7_lack_X7_refuse : GoodIn wsX7_lack (wsV RX7 63 RX7 yX7_refuse wsX7_refuse) := goodIn_app (dg_c 10 rfl rfl (dg_c 11 rfl rfl (dg_c 12 rfl rfl (dg_c 13 rfl rfl dg_0)))) ggX7_lack_X7_refuse
theorem dX7_lack_0 : decode cX7_lack 0 = .ok (.aload_n 0, 1) := dq_42 dp_cX7_lack rfl
theorem dX7_lack_1 : decode cX7_lack 1 = .ok (.getfield 18, 3) := dq_180 dp_cX7_lack rfl
theorem dX7_lack_4 : decode cX7_lack 4 = .ok (.getfield 140, 3) := dq_180 dp_cX7_lack rfl
theorem dX7_lack_7 : decode cX7_lack 7 = .ok (.iload_n 1, 1) := dq_27 dp_cX7_lack rfl
theorem dX7_lack_8 : decode cX7_lack 8 = .ok (.invokevirtual 153, 3) := dq_182 dp_cX7_lack rfl
theorem dX7_lack_11 : decode cX7_lack 11 = .ok (.ifCond .ne 9, 3) := dq_154 (v := 9) dp_cX7_lack rfl rfl
theorem dX7_lack_14 : decode cX7_lack 14 = .ok (.aload_n 0, 1) := dq_42 dp_cX7_lack rfl
theorem dX7_lack_15 : decode cX7_lack 15 = .ok (.iconst 1, 1) := dq_4 dp_cX7_lack rfl
theorem dX7_lack_16 : decode cX7_lack 16 = .ok (.invokevirtual 63, 3) := dq_182 dp_cX7_lack rfl
theorem dX7_lack_19 : decode cX7_lack 19 = .ok (.ireturn, 1) := dq_172 dp_cX7_lack rfl
theorem dX7_lack_20 : decode cX7_lack 20 = .ok (.aload_n 0, 1) := dq_42 dp_cX7_lack rfl
theorem dX7_lack_21 : decode cX7_lack 21 = .ok (.getfield 18, 3) := dq_180 dp_cX7_lack rfl
theorem dX7_lack_24 : decode cX7_lack 24 = .ok (.getfield 140, 3) := dq_180 dp_cX7_lack rfl
theorem dX7_lack_27 : decode cX7_lack 27 = .ok (.getfield 156, 3) := dq_180 dp_cX7_lack rfl
theorem dX7_lack_30 : decode cX7_lack 30 = .ok (.iload_n 1, 1) := dq_27 dp_cX7_lack rfl
theorem dX7_lack_31 : decode cX7_lack 31 = .ok (.baload, 1) := dq_51 dp_cX7_lack rfl
theorem dX7_lack_32 : decode cX7_lack 32 = .ok (.istore_n 3, 1) := dq_62 dp_cX7_lack rfl
theorem dX7_lack_33 : decode cX7_lack 33 = .ok (.aload_n 0, 1) := dq_42 dp_cX7_lack rfl
theorem dX7_lack_34 : decode cX7_lack 34 = .ok (.getfield 18, 3) := dq_180 dp_cX7_lack rfl
theorem dX7_lack_37 : decode cX7_lack 37 = .ok (.getfield 140, 3) := dq_180 dp_cX7_lack rfl
theorem dX7_lack_40 : decode cX7_lack 40 = .ok (.getfield 156, 3) := dq_180 dp_cX7_lack rfl
theorem dX7_lack_43 : decode cX7_lack 43 = .ok (.iload_n 1, 1) := dq_27 dp_cX7_lack rfl
theorem dX7_lack_44 : decode cX7_lack 44 = .ok (.iload_n 2, 1) := dq_28 dp_cX7_lack rfl
theorem dX7_lack_45 : decode cX7_lack 45 = .ok (.bastore, 1) := dq_84 dp_cX7_lack rfl
theorem dX7_lack_46 : decode cX7_lack 46 = .ok (.iload_n 3, 1) := dq_29 dp_cX7_lack rfl
theorem dX7_lack_47 : decode cX7_lack 47 = .ok (.ifCond .eq 7, 3) := dq_153 (v := 7) dp_cX7_lack rfl rfl
theorem dX7_lack_50 : decode cX7_lack 50 = .ok (.iconst 1, 1) := dq_4 dp_cX7_lack rfl
theorem dX7_lack_51 : decode cX7_lack 51 = .ok (.goto 4, 3) := dq_167 (v := 4) dp_cX7_lack rfl rfl
theorem dX7_lack_54 : decode cX7_lack 54 = .ok (.iconst 0, 1) := dq_3 dp_cX7_lack rfl
theorem dX7_lack_55 : decode cX7_lack 55 = .ok (.ireturn, 1) := dq_172 dp_cX7_lack rfl
set_option maxRecDepth 20000 in
theorem gl_X7_slack_X60 : GoodIn wsX7_slack wsX60 := (dg_t (dg_t (dg_t (dg_t (dg_t (dg_t (dg_t (dg_t (dg_t (dg_t (dg_t (dg_t (dg_t (dg_t (dg_t (dg_t (dg_t (dg_t (dg_t (dg_r gw_wsX60))))))))))))))))))))
theorem ggX7_slack_X6_has : GoodIn wsX7_slack wsX6_has := (dg_c 8 rfl rfl (dg_c 9 rfl rfl gl_X7_slack_X60))
set_option maxRecDepth 20000 in
theorem gX7_slack_X6_has : GoodIn wsX7_slack (wsV RX7 153 RX6 yX6_has wsX6_has) := goodIn_app (dg_c 4 rfl rfl (dg_c 5 rfl rfl (dg_c 6 rfl rfl (dg_c 7 rfl rfl dg_0)))) ggX7_slack_X6_has
set_option maxRecDepth 20000 in
theorem gl_X7_slack_X70 : GoodIn wsX7_slack wsX70 := (dg_t (dg_t (dg_t (dg_t (dg_t (dg_t (dg_t (dg_t (dg_t (dg_t (dg_t (dg_t (dg_t (dg_t (dg_t (dg_t (dg_t (dg_t (dg_t (dg_l (dg_l gw_wsX70)))))))))))))))))))))
theorem ggX7_slack_X7_refuse : GoodIn wsX7_slack wsX7_refuse := (dg_c 14 rfl rfl (dg_c 15 rfl rfl (dg_c 16 rfl rfl (dg_c 17 rfl rfl (dg_c 13 rfl rfl (dg_c 18 rfl rfl gl_X7_slack_X70))))))
set_option maxRecDepth 20000 in
theorem gX7_slack_X7_refuse : GoodIn wsX7_slack (wsV RX7 63 RX7 yX7_refuse wsX7_refuse) := goodIn_app (dg_c 10 rfl rfl (dg_c 11 rfl rfl (dg_c 12 rfl rfl (dg_c 13 rfl rfl dg_0)))) ggX7_slack_X7_refuse
set_option maxRecDepth 20000 in
theorem ggX7_slack_X7_within : GoodIn wsX7_slack wsX7_within := (dg_c 18 rfl rfl dg_0)
set_option maxRecDepth 20000 in
theorem gX7_slack_X7_within : GoodIn wsX7_slack (va_wsS RX7 67 yX7_within wsX7_within) := goodIn_app (dg_c 16 rfl rfl (dg_c 17 rfl rfl (dg_c 13 rfl rfl dg_0))) ggX7_slack_X7_within
theorem dX7_slack_0 : decode cX7_slack 0 = .ok (.aload_n 0, 1) := dq_42 dp_cX7_slack rfl
theorem dX7_slack_1 : decode cX7_slack 1 = .ok (.getfield 18, 3) := dq_180 dp_cX7_slack rfl
theorem dX7_slack_4 : decode cX7_slack 4 = .ok (.getfield 140, 3) := dq_180 dp_cX7_slack rfl
theorem dX7_slack_7 : decode cX7_slack 7 = .ok (.iload_n 1, 1) := dq_27 dp_cX7_slack rfl
theorem dX7_slack_8 : decode cX7_slack 8 = .ok (.invokevirtual 153, 3) := dq_182 dp_cX7_slack rfl
theorem dX7_slack_11 : decode cX7_slack 11 = .ok (.ifCond .ne 9, 3) := dq_154 (v := 9) dp_cX7_slack rfl rfl
theorem dX7_slack_14 : decode cX7_slack 14 = .ok (.aload_n 0, 1) := dq_42 dp_cX7_slack rfl
theorem dX7_slack_15 : decode cX7_slack 15 = .ok (.iconst 1, 1) := dq_4 dp_cX7_slack rfl
theorem dX7_slack_16 : decode cX7_slack 16 = .ok (.invokevirtual 63, 3) := dq_182 dp_cX7_slack rfl
theorem dX7_slack_19 : decode cX7_slack 19 = .ok (.ireturn, 1) := dq_172 dp_cX7_slack rfl
theorem dX7_slack_20 : decode cX7_slack 20 = .ok (.iload_n 2, 1) := dq_28 dp_cX7_slack rfl
theorem dX7_slack_21 : decode cX7_slack 21 = .ok (.iconst 0, 1) := dq_3 dp_cX7_slack rfl
theorem dX7_slack_22 : decode cX7_slack 22 = .ok (.bipush 9, 2) := dq_16 (v := 9) dp_cX7_slack rfl rfl
theorem dX7_slack_24 : decode cX7_slack 24 = .ok (.invokestatic 67, 3) := dq_184 dp_cX7_slack rfl
theorem dX7_slack_27 : decode cX7_slack 27 = .ok (.ifCond .ne 10, 3) := dq_154 (v := 10) dp_cX7_slack rfl rfl
theorem dX7_slack_30 : decode cX7_slack 30 = .ok (.aload_n 0, 1) := dq_42 dp_cX7_slack rfl
theorem dX7_slack_31 : decode cX7_slack 31 = .ok (.bipush 6, 2) := dq_16 (v := 6) dp_cX7_slack rfl rfl
theorem dX7_slack_33 : decode cX7_slack 33 = .ok (.invokevirtual 63, 3) := dq_182 dp_cX7_slack rfl
theorem dX7_slack_36 : decode cX7_slack 36 = .ok (.ireturn, 1) := dq_172 dp_cX7_slack rfl
theorem dX7_slack_37 : decode cX7_slack 37 = .ok (.aload_n 0, 1) := dq_42 dp_cX7_slack rfl
theorem dX7_slack_38 : decode cX7_slack 38 = .ok (.getfield 18, 3) := dq_180 dp_cX7_slack rfl
theorem dX7_slack_41 : decode cX7_slack 41 = .ok (.getfield 140, 3) := dq_180 dp_cX7_slack rfl
theorem dX7_slack_44 : decode cX7_slack 44 = .ok (.getfield 160, 3) := dq_180 dp_cX7_slack rfl
theorem dX7_slack_47 : decode cX7_slack 47 = .ok (.iload_n 1, 1) := dq_27 dp_cX7_slack rfl
theorem dX7_slack_48 : decode cX7_slack 48 = .ok (.iaload, 1) := dq_46 dp_cX7_slack rfl
theorem dX7_slack_49 : decode cX7_slack 49 = .ok (.istore_n 3, 1) := dq_62 dp_cX7_slack rfl
theorem dX7_slack_50 : decode cX7_slack 50 = .ok (.aload_n 0, 1) := dq_42 dp_cX7_slack rfl
theorem dX7_slack_51 : decode cX7_slack 51 = .ok (.getfield 18, 3) := dq_180 dp_cX7_slack rfl
theorem dX7_slack_54 : decode cX7_slack 54 = .ok (.getfield 140, 3) := dq_180 dp_cX7_slack rfl
theorem dX7_slack_57 : decode cX7_slack 57 = .ok (.getfield 160, 3) := dq_180 dp_cX7_slack rfl
theorem dX7_slack_60 : decode cX7_slack 60 = .ok (.iload_n 1, 1) := dq_27 dp_cX7_slack rfl
theorem dX7_slack_61 : decode cX7_slack 61 = .ok (.iload_n 2, 1) := dq_28 dp_cX7_slack rfl
theorem dX7_slack_62 : decode cX7_slack 62 = .ok (.iastore, 1) := dq_79 dp_cX7_slack rfl
theorem dX7_slack_63 : decode cX7_slack 63 = .ok (.iload_n 3, 1) := dq_29 dp_cX7_slack rfl
theorem dX7_slack_64 : decode cX7_slack 64 = .ok (.ireturn, 1) := dq_172 dp_cX7_slack rfl
set_option maxRecDepth 20000 in
theorem ggX7_ask_X7_within : GoodIn wsX7_ask wsX7_within := (dg_c 5 rfl rfl dg_0)
set_option maxRecDepth 20000 in
theorem gX7_ask_X7_within : GoodIn wsX7_ask (va_wsS RX7 67 yX7_within wsX7_within) := goodIn_app (dg_c 2 rfl rfl (dg_c 3 rfl rfl (dg_c 4 rfl rfl dg_0))) ggX7_ask_X7_within
set_option maxRecDepth 20000 in
theorem ggX7_ask_X0_leastOf : GoodIn wsX7_ask wsX0_leastOf := (dg_c 9 rfl rfl dg_0)
set_option maxRecDepth 20000 in
theorem gX7_ask_X0_leastOf : GoodIn wsX7_ask (va_wsS RX7 163 yX0_leastOf wsX0_leastOf) := goodIn_app (dg_c 6 rfl rfl (dg_c 7 rfl rfl (dg_c 8 rfl rfl dg_0))) ggX7_ask_X0_leastOf
set_option maxRecDepth 20000 in
theorem gl_X7_ask_X00 : GoodIn wsX7_ask wsX00 := (dg_t (dg_l (dg_r gw_wsX00)))
theorem gl_X7_ask_X60 : GoodIn wsX7_ask wsX60 := (dg_t (dg_r gw_wsX60))
theorem ggX7_ask_X0_mostOf : GoodIn wsX7_ask wsX0_mostOf := (dg_c 13 rfl rfl (dg_c 14 rfl rfl (dg_c 15 rfl rfl (goodIn_app gl_X7_ask_X00 gl_X7_ask_X60))))
set_option maxRecDepth 20000 in
theorem gX7_ask_X0_mostOf : GoodIn wsX7_ask (wsV RX7 166 RX0 yX0_mostOf wsX0_mostOf) := goodIn_app (dg_c 10 rfl rfl (dg_c 11 rfl rfl (dg_c 12 rfl rfl (dg_c 8 rfl rfl dg_0)))) ggX7_ask_X0_mostOf
set_option maxRecDepth 20000 in
theorem gl_X7_ask_X70 : GoodIn wsX7_ask wsX70 := (dg_t (dg_l (dg_l (dg_r gw_wsX70))))
theorem ggX7_ask_X7_refuse : GoodIn wsX7_ask wsX7_refuse := (dg_c 19 rfl rfl (dg_c 20 rfl rfl (dg_c 2 rfl rfl (dg_c 3 rfl rfl (dg_c 4 rfl rfl (dg_c 5 rfl rfl gl_X7_ask_X70))))))
set_option maxRecDepth 20000 in
theorem gX7_ask_X7_refuse : GoodIn wsX7_ask (wsV RX7 63 RX7 yX7_refuse wsX7_refuse) := goodIn_app (dg_c 16 rfl rfl (dg_c 17 rfl rfl (dg_c 18 rfl rfl (dg_c 4 rfl rfl dg_0)))) ggX7_ask_X7_refuse
set_option maxRecDepth 20000 in
theorem ggX7_ask_X0_number : GoodIn wsX7_ask wsX0_number := (dg_c 24 rfl rfl (dg_c 25 rfl rfl (dg_c 26 rfl rfl (dg_c 27 rfl rfl (dg_c 14 rfl rfl (dg_c 28 rfl rfl (dg_c 29 rfl rfl (dg_c 30 rfl rfl (dg_c 3 rfl rfl (dg_c 4 rfl rfl (dg_c 5 rfl rfl (goodIn_app gl_X7_ask_X00 gl_X7_ask_X60))))))))))))
set_option maxRecDepth 20000 in
theorem gX7_ask_X0_number : GoodIn wsX7_ask (wsV RX7 169 RX0 yX0_number wsX0_number) := goodIn_app (dg_c 21 rfl rfl (dg_c 22 rfl rfl (dg_c 23 rfl rfl (dg_c 8 rfl rfl dg_0)))) ggX7_ask_X0_number
set_option maxRecDepth 20000 in
theorem ggX7_ask_X0_setNumber : GoodIn wsX7_ask wsX0_setNumber := (dg_c 34 rfl rfl (dg_c 25 rfl rfl (dg_c 26 rfl rfl (dg_c 27 rfl rfl (dg_c 14 rfl rfl (dg_c 28 rfl rfl (dg_c 29 rfl rfl (dg_c 30 rfl rfl (dg_c 3 rfl rfl (dg_c 4 rfl rfl (dg_c 5 rfl rfl (goodIn_app gl_X7_ask_X00 gl_X7_ask_X60))))))))))))
set_option maxRecDepth 20000 in
theorem gX7_ask_X0_setNumber : GoodIn wsX7_ask (wsV RX7 172 RX0 yX0_setNumber wsX0_setNumber) := goodIn_app (dg_c 31 rfl rfl (dg_c 32 rfl rfl (dg_c 33 rfl rfl (dg_c 8 rfl rfl dg_0)))) ggX7_ask_X0_setNumber
theorem dX7_ask_0 : decode cX7_ask 0 = .ok (.iload_n 1, 1) := dq_27 dp_cX7_ask rfl
theorem dX7_ask_1 : decode cX7_ask 1 = .ok (.iconst 0, 1) := dq_3 dp_cX7_ask rfl
theorem dX7_ask_2 : decode cX7_ask 2 = .ok (.bipush 7, 2) := dq_16 (v := 7) dp_cX7_ask rfl rfl
theorem dX7_ask_4 : decode cX7_ask 4 = .ok (.invokestatic 67, 3) := dq_184 dp_cX7_ask rfl
theorem dX7_ask_7 : decode cX7_ask 7 = .ok (.ifCond .eq 22, 3) := dq_153 (v := 22) dp_cX7_ask rfl rfl
theorem dX7_ask_10 : decode cX7_ask 10 = .ok (.iload_n 2, 1) := dq_28 dp_cX7_ask rfl
theorem dX7_ask_11 : decode cX7_ask 11 = .ok (.iload_n 1, 1) := dq_27 dp_cX7_ask rfl
theorem dX7_ask_12 : decode cX7_ask 12 = .ok (.invokestatic 163, 3) := dq_184 dp_cX7_ask rfl
theorem dX7_ask_15 : decode cX7_ask 15 = .ok (.aload_n 0, 1) := dq_42 dp_cX7_ask rfl
theorem dX7_ask_16 : decode cX7_ask 16 = .ok (.getfield 18, 3) := dq_180 dp_cX7_ask rfl
theorem dX7_ask_19 : decode cX7_ask 19 = .ok (.iload_n 1, 1) := dq_27 dp_cX7_ask rfl
theorem dX7_ask_20 : decode cX7_ask 20 = .ok (.invokevirtual 166, 3) := dq_182 dp_cX7_ask rfl
theorem dX7_ask_23 : decode cX7_ask 23 = .ok (.invokestatic 67, 3) := dq_184 dp_cX7_ask rfl
theorem dX7_ask_26 : decode cX7_ask 26 = .ok (.ifCond .ne 10, 3) := dq_154 (v := 10) dp_cX7_ask rfl rfl
theorem dX7_ask_29 : decode cX7_ask 29 = .ok (.aload_n 0, 1) := dq_42 dp_cX7_ask rfl
theorem dX7_ask_30 : decode cX7_ask 30 = .ok (.bipush 6, 2) := dq_16 (v := 6) dp_cX7_ask rfl rfl
theorem dX7_ask_32 : decode cX7_ask 32 = .ok (.invokevirtual 63, 3) := dq_182 dp_cX7_ask rfl
theorem dX7_ask_35 : decode cX7_ask 35 = .ok (.ireturn, 1) := dq_172 dp_cX7_ask rfl
theorem dX7_ask_36 : decode cX7_ask 36 = .ok (.aload_n 0, 1) := dq_42 dp_cX7_ask rfl
theorem dX7_ask_37 : decode cX7_ask 37 = .ok (.getfield 18, 3) := dq_180 dp_cX7_ask rfl
theorem dX7_ask_40 : decode cX7_ask 40 = .ok (.iload_n 1, 1) := dq_27 dp_cX7_ask rfl
theorem dX7_ask_41 : decode cX7_ask 41 = .ok (.invokevirtual 169, 3) := dq_182 dp_cX7_ask rfl
theorem dX7_ask_44 : decode cX7_ask 44 = .ok (.istore_n 3, 1) := dq_62 dp_cX7_ask rfl
theorem dX7_ask_45 : decode cX7_ask 45 = .ok (.aload_n 0, 1) := dq_42 dp_cX7_ask rfl
theorem dX7_ask_46 : decode cX7_ask 46 = .ok (.getfield 18, 3) := dq_180 dp_cX7_ask rfl
theorem dX7_ask_49 : decode cX7_ask 49 = .ok (.iload_n 1, 1) := dq_27 dp_cX7_ask rfl
theorem dX7_ask_50 : decode cX7_ask 50 = .ok (.iload_n 2, 1) := dq_28 dp_cX7_ask rfl
theorem dX7_ask_51 : decode cX7_ask 51 = .ok (.invokevirtual 172, 3) := dq_182 dp_cX7_ask rfl
theorem dX7_ask_54 : decode cX7_ask 54 = .ok (.iload_n 3, 1) := dq_29 dp_cX7_ask rfl
theorem dX7_ask_55 : decode cX7_ask 55 = .ok (.ireturn, 1) := dq_172 dp_cX7_ask rfl
set_option maxRecDepth 20000 in
theorem gl_X7_jacket_X70 : GoodIn wsX7_jacket wsX70 := (dg_t (dg_l (dg_l (dg_l (dg_l (dg_l (dg_r gw_wsX70)))))))
theorem ggX7_jacket_X7_shelfAt : GoodIn wsX7_jacket wsX7_shelfAt := (dg_c 12 rfl rfl (dg_c 13 rfl rfl (dg_c 14 rfl rfl (dg_c 15 rfl rfl (dg_c 11 rfl rfl (dg_c 16 rfl rfl gl_X7_jacket_X70))))))
set_option maxRecDepth 20000 in
theorem gX7_jacket_X7_shelfAt : GoodIn wsX7_jacket (wsV RX7 59 RX7 yX7_shelfAt wsX7_shelfAt) := goodIn_app (dg_c 8 rfl rfl (dg_c 9 rfl rfl (dg_c 10 rfl rfl (dg_c 11 rfl rfl dg_0)))) ggX7_jacket_X7_shelfAt
set_option maxRecDepth 20000 in
theorem ggX7_jacket_X7_refuse : GoodIn wsX7_jacket wsX7_refuse := (dg_c 20 rfl rfl (dg_c 21 rfl rfl (dg_c 14 rfl rfl (dg_c 15 rfl rfl (dg_c 11 rfl rfl (dg_c 16 rfl rfl gl_X7_jacket_X70))))))
set_option maxRecDepth 20000 in
theorem gX7_jacket_X7_refuse : GoodIn wsX7_jacket (wsV RX7 63 RX7 yX7_refuse wsX7_refuse) := goodIn_app (dg_c 17 rfl rfl (dg_c 18 rfl rfl (dg_c 19 rfl rfl (dg_c 11 rfl rfl dg_0)))) ggX7_jacket_X7_refuse
set_option maxRecDepth 20000 in
theorem gl_X7_jacket_X40 : GoodIn wsX7_jacket wsX40 := (dg_t (dg_l (dg_r gw_wsX40)))
theorem ggX7_jacket_X4_noRow : GoodIn wsX7_jacket wsX4_noRow := (dg_c 26 rfl rfl (dg_c 27 rfl rfl gl_X7_jacket_X40))
set_option maxRecDepth 20000 in
theorem gX7_jacket_X4_noRow : GoodIn wsX7_jacket (wsV RX7 75 RX4 yX4_noRow wsX4_noRow) := goodIn_app (dg_c 22 rfl rfl (dg_c 23 rfl rfl (dg_c 24 rfl rfl (dg_c 25 rfl rfl dg_0)))) ggX7_jacket_X4_noRow
set_option maxRecDepth 20000 in
theorem gl_X7_jacket_X30 : GoodIn wsX7_jacket wsX30 := (dg_t (dg_l (dg_l (dg_r gw_wsX30))))
theorem ggX7_jacket_X3_read : GoodIn wsX7_jacket wsX3_read := (dg_c 32 rfl rfl (goodIn_app (goodIn_app (goodIn_app (dg_c 33 rfl rfl (dg_c 34 rfl rfl (dg_c 35 rfl rfl (dg_c 36 rfl rfl (dg_c 37 rfl rfl (dg_c 38 rfl rfl (dg_c 39 rfl rfl (dg_c 40 rfl rfl (dg_c 41 rfl rfl (dg_c 31 rfl rfl (dg_c 42 rfl rfl (dg_c 43 rfl rfl (dg_c 44 rfl rfl (dg_c 45 rfl rfl (dg_c 46 rfl rfl (dg_c 47 rfl rfl (dg_c 48 rfl rfl (dg_c 49 rfl rfl (dg_c 50 rfl rfl (dg_c 51 rfl rfl (dg_c 25 rfl rfl (dg_c 52 rfl rfl (dg_c 53 rfl rfl (dg_c 54 rfl rfl dg_0)))))))))))))))))))))))) (goodIn_app (dg_c 55 rfl rfl (dg_c 56 rfl rfl (dg_c 57 rfl rfl (dg_c 58 rfl rfl (dg_c 59 rfl rfl (dg_c 60 rfl rfl (dg_c 61 rfl rfl (dg_c 62 rfl rfl (dg_c 63 rfl rfl (dg_c 64 rfl rfl (dg_c 65 rfl rfl (dg_c 66 rfl rfl (dg_c 67 rfl rfl (dg_c 68 rfl rfl (dg_c 69 rfl rfl (dg_c 70 rfl rfl (dg_c 71 rfl rfl (dg_c 72 rfl rfl (dg_c 73 rfl rfl (dg_c 74 rfl rfl (dg_c 75 rfl rfl (dg_c 76 rfl rfl (dg_c 77 rfl rfl (dg_c 78 rfl rfl dg_0)))))))))))))))))))))))) (goodIn_app (dg_c 79 rfl rfl (dg_c 80 rfl rfl (dg_c 81 rfl rfl (dg_c 82 rfl rfl (dg_c 83 rfl rfl (dg_c 84 rfl rfl (dg_c 85 rfl rfl (dg_c 86 rfl rfl (dg_c 87 rfl rfl (dg_c 88 rfl rfl (dg_c 89 rfl rfl (dg_c 90 rfl rfl (dg_c 91 rfl rfl (dg_c 92 rfl rfl (dg_c 93 rfl rfl (dg_c 94 rfl rfl (dg_c 95 rfl rfl (dg_c 96 rfl rfl (dg_c 97 rfl rfl (dg_c 98 rfl rfl (dg_c 99 rfl rfl (dg_c 100 rfl rfl (dg_c 101 rfl rfl (dg_c 102 rfl rfl dg_0)))))))))))))))))))))))) (goodIn_app (dg_c 103 rfl rfl (dg_c 104 rfl rfl (dg_c 105 rfl rfl (dg_c 106 rfl rfl (dg_c 107 rfl rfl (dg_c 108 rfl rfl (dg_c 109 rfl rfl (dg_c 110 rfl rfl (dg_c 111 rfl rfl (dg_c 112 rfl rfl (dg_c 113 rfl rfl (dg_c 114 rfl rfl (dg_c 115 rfl rfl (dg_c 116 rfl rfl (dg_c 117 rfl rfl (dg_c 118 rfl rfl (dg_c 119 rfl rfl (dg_c 120 rfl rfl (dg_c 121 rfl rfl (dg_c 122 rfl rfl (dg_c 123 rfl rfl (dg_c 124 rfl rfl (dg_c 125 rfl rfl (dg_c 126 rfl rfl dg_0)))))))))))))))))))))))) (goodIn_app (dg_c 127 rfl rfl (dg_c 128 rfl rfl (dg_c 129 rfl rfl (dg_c 130 rfl rfl (dg_c 131 rfl rfl (dg_c 132 rfl rfl (dg_c 133 rfl rfl (dg_c 134 rfl rfl (dg_c 135 rfl rfl (dg_c 136 rfl rfl (dg_c 137 rfl rfl (dg_c 138 rfl rfl (dg_c 139 rfl rfl (dg_c 140 rfl rfl (dg_c 141 rfl rfl (dg_c 142 rfl rfl (dg_c 143 rfl rfl (dg_c 144 rfl rfl (dg_c 145 rfl rfl (dg_c 146 rfl rfl (dg_c 147 rfl rfl (dg_c 148 rfl rfl (dg_c 149 rfl rfl (dg_c 150 rfl rfl dg_0)))))))))))))))))))))))) (dg_c 151 rfl rfl (dg_c 152 rfl rfl (dg_c 153 rfl rfl (dg_c 154 rfl rfl (dg_c 155 rfl rfl (dg_c 15 rfl rfl (dg_c 11 rfl rfl (dg_c 16 rfl rfl dg_0))))))))))))) gl_X7_jacket_X30) gl_X7_jacket_X40))
set_option maxRecDepth 20000 in
theorem gX7_jacket_X3_read : GoodIn wsX7_jacket (wsV RX7 175 RX3 yX3_read wsX3_read) := goodIn_app (dg_c 28 rfl rfl (dg_c 29 rfl rfl (dg_c 30 rfl rfl (dg_c 31 rfl rfl dg_0)))) ggX7_jacket_X3_read
set_option maxRecDepth 20000 in
theorem gl_X7_jacket_X00 : GoodIn wsX7_jacket wsX00 := (dg_t (dg_l (dg_l (dg_l (dg_l (dg_r gw_wsX00))))))
theorem gl_X7_jacket_X60 : GoodIn wsX7_jacket wsX60 := (dg_t (dg_l (dg_l (dg_l (dg_r gw_wsX60)))))
theorem gl_X7_jacket_X20 : GoodIn wsX7_jacket wsX20 := (dg_t (dg_r gw_wsX20))
theorem ggX7_jacket_X3_tell : GoodIn wsX7_jacket wsX3_tell := (dg_c 159 rfl rfl (goodIn_app (goodIn_app (goodIn_app (goodIn_app (goodIn_app (dg_c 37 rfl rfl (dg_c 160 rfl rfl (dg_c 161 rfl rfl (dg_c 162 rfl rfl (dg_c 31 rfl rfl (dg_c 163 rfl rfl (dg_c 63 rfl rfl (dg_c 164 rfl rfl (dg_c 165 rfl rfl (dg_c 166 rfl rfl (dg_c 167 rfl rfl (dg_c 168 rfl rfl (dg_c 169 rfl rfl (dg_c 170 rfl rfl (dg_c 171 rfl rfl (dg_c 172 rfl rfl (dg_c 173 rfl rfl (dg_c 174 rfl rfl (dg_c 175 rfl rfl (dg_c 176 rfl rfl (dg_c 177 rfl rfl (dg_c 178 rfl rfl (dg_c 179 rfl rfl (dg_c 180 rfl rfl dg_0)))))))))))))))))))))))) (goodIn_app (dg_c 181 rfl rfl (dg_c 182 rfl rfl (dg_c 183 rfl rfl (dg_c 184 rfl rfl (dg_c 185 rfl rfl (dg_c 186 rfl rfl (dg_c 187 rfl rfl (dg_c 188 rfl rfl (dg_c 189 rfl rfl (dg_c 190 rfl rfl (dg_c 191 rfl rfl (dg_c 192 rfl rfl (dg_c 193 rfl rfl (dg_c 194 rfl rfl (dg_c 195 rfl rfl (dg_c 196 rfl rfl (dg_c 197 rfl rfl (dg_c 198 rfl rfl (dg_c 199 rfl rfl (dg_c 200 rfl rfl (dg_c 201 rfl rfl (dg_c 202 rfl rfl (dg_c 203 rfl rfl (dg_c 204 rfl rfl dg_0)))))))))))))))))))))))) (dg_c 205 rfl rfl (dg_c 206 rfl rfl (dg_c 207 rfl rfl (dg_c 15 rfl rfl (dg_c 11 rfl rfl (dg_c 16 rfl rfl dg_0)))))))) gl_X7_jacket_X30) gl_X7_jacket_X00) gl_X7_jacket_X60) gl_X7_jacket_X20))
set_option maxRecDepth 20000 in
theorem gX7_jacket_X3_tell : GoodIn wsX7_jacket (wsV RX7 179 RX3 yX3_tell wsX3_tell) := goodIn_app (dg_c 156 rfl rfl (dg_c 157 rfl rfl (dg_c 158 rfl rfl (dg_c 31 rfl rfl dg_0)))) ggX7_jacket_X3_tell
theorem dX7_jacket_0 : decode cX7_jacket 0 = .ok (.aload_n 0, 1) := dq_42 dp_cX7_jacket rfl
theorem dX7_jacket_1 : decode cX7_jacket 1 = .ok (.iload_n 1, 1) := dq_27 dp_cX7_jacket rfl
theorem dX7_jacket_2 : decode cX7_jacket 2 = .ok (.invokevirtual 59, 3) := dq_182 dp_cX7_jacket rfl
theorem dX7_jacket_5 : decode cX7_jacket 5 = .ok (.astore_n 2, 1) := dq_77 dp_cX7_jacket rfl
theorem dX7_jacket_6 : decode cX7_jacket 6 = .ok (.aload_n 2, 1) := dq_44 dp_cX7_jacket rfl
theorem dX7_jacket_7 : decode cX7_jacket 7 = .ok (.ifnonnull 9, 3) := dq_199 (v := 9) dp_cX7_jacket rfl rfl
theorem dX7_jacket_10 : decode cX7_jacket 10 = .ok (.aload_n 0, 1) := dq_42 dp_cX7_jacket rfl
theorem dX7_jacket_11 : decode cX7_jacket 11 = .ok (.iconst 1, 1) := dq_4 dp_cX7_jacket rfl
theorem dX7_jacket_12 : decode cX7_jacket 12 = .ok (.invokevirtual 63, 3) := dq_182 dp_cX7_jacket rfl
theorem dX7_jacket_15 : decode cX7_jacket 15 = .ok (.ireturn, 1) := dq_172 dp_cX7_jacket rfl
theorem dX7_jacket_16 : decode cX7_jacket 16 = .ok (.aload_n 2, 1) := dq_44 dp_cX7_jacket rfl
theorem dX7_jacket_17 : decode cX7_jacket 17 = .ok (.invokevirtual 75, 3) := dq_182 dp_cX7_jacket rfl
theorem dX7_jacket_20 : decode cX7_jacket 20 = .ok (.istore_n 3, 1) := dq_62 dp_cX7_jacket rfl
theorem dX7_jacket_21 : decode cX7_jacket 21 = .ok (.iload_n 3, 1) := dq_29 dp_cX7_jacket rfl
theorem dX7_jacket_22 : decode cX7_jacket 22 = .ok (.ifCond .eq 9, 3) := dq_153 (v := 9) dp_cX7_jacket rfl rfl
theorem dX7_jacket_25 : decode cX7_jacket 25 = .ok (.aload_n 0, 1) := dq_42 dp_cX7_jacket rfl
theorem dX7_jacket_26 : decode cX7_jacket 26 = .ok (.iload_n 3, 1) := dq_29 dp_cX7_jacket rfl
theorem dX7_jacket_27 : decode cX7_jacket 27 = .ok (.invokevirtual 63, 3) := dq_182 dp_cX7_jacket rfl
theorem dX7_jacket_30 : decode cX7_jacket 30 = .ok (.ireturn, 1) := dq_172 dp_cX7_jacket rfl
theorem dX7_jacket_31 : decode cX7_jacket 31 = .ok (.aload_n 0, 1) := dq_42 dp_cX7_jacket rfl
theorem dX7_jacket_32 : decode cX7_jacket 32 = .ok (.aload_n 0, 1) := dq_42 dp_cX7_jacket rfl
theorem dX7_jacket_33 : decode cX7_jacket 33 = .ok (.getfield 35, 3) := dq_180 dp_cX7_jacket rfl
theorem dX7_jacket_36 : decode cX7_jacket 36 = .ok (.aload_n 2, 1) := dq_44 dp_cX7_jacket rfl
theorem dX7_jacket_37 : decode cX7_jacket 37 = .ok (.aload_n 0, 1) := dq_42 dp_cX7_jacket rfl
theorem dX7_jacket_38 : decode cX7_jacket 38 = .ok (.getfield 18, 3) := dq_180 dp_cX7_jacket rfl
theorem dX7_jacket_41 : decode cX7_jacket 41 = .ok (.getfield 140, 3) := dq_180 dp_cX7_jacket rfl
theorem dX7_jacket_44 : decode cX7_jacket 44 = .ok (.getfield 144, 3) := dq_180 dp_cX7_jacket rfl
theorem dX7_jacket_47 : decode cX7_jacket 47 = .ok (.aload_n 0, 1) := dq_42 dp_cX7_jacket rfl
theorem dX7_jacket_48 : decode cX7_jacket 48 = .ok (.getfield 18, 3) := dq_180 dp_cX7_jacket rfl
theorem dX7_jacket_51 : decode cX7_jacket 51 = .ok (.getfield 123, 3) := dq_180 dp_cX7_jacket rfl
theorem dX7_jacket_54 : decode cX7_jacket 54 = .ok (.invokevirtual 175, 3) := dq_182 dp_cX7_jacket rfl
theorem dX7_jacket_57 : decode cX7_jacket 57 = .ok (.putfield 54, 3) := dq_181 dp_cX7_jacket rfl
theorem dX7_jacket_60 : decode cX7_jacket 60 = .ok (.aload_n 0, 1) := dq_42 dp_cX7_jacket rfl
theorem dX7_jacket_61 : decode cX7_jacket 61 = .ok (.getfield 54, 3) := dq_180 dp_cX7_jacket rfl
theorem dX7_jacket_64 : decode cX7_jacket 64 = .ok (.iconst (-1), 1) := dq_2 dp_cX7_jacket rfl
theorem dX7_jacket_65 : decode cX7_jacket 65 = .ok (.if_icmp .eq 10, 3) := dq_159 (v := 10) dp_cX7_jacket rfl rfl
theorem dX7_jacket_68 : decode cX7_jacket 68 = .ok (.aload_n 0, 1) := dq_42 dp_cX7_jacket rfl
theorem dX7_jacket_69 : decode cX7_jacket 69 = .ok (.bipush 6, 2) := dq_16 (v := 6) dp_cX7_jacket rfl rfl
theorem dX7_jacket_71 : decode cX7_jacket 71 = .ok (.invokevirtual 63, 3) := dq_182 dp_cX7_jacket rfl
theorem dX7_jacket_74 : decode cX7_jacket 74 = .ok (.ireturn, 1) := dq_172 dp_cX7_jacket rfl
theorem dX7_jacket_75 : decode cX7_jacket 75 = .ok (.aload_n 0, 1) := dq_42 dp_cX7_jacket rfl
theorem dX7_jacket_76 : decode cX7_jacket 76 = .ok (.getfield 35, 3) := dq_180 dp_cX7_jacket rfl
theorem dX7_jacket_79 : decode cX7_jacket 79 = .ok (.aload_n 0, 1) := dq_42 dp_cX7_jacket rfl
theorem dX7_jacket_80 : decode cX7_jacket 80 = .ok (.getfield 18, 3) := dq_180 dp_cX7_jacket rfl
theorem dX7_jacket_83 : decode cX7_jacket 83 = .ok (.invokevirtual 179, 3) := dq_182 dp_cX7_jacket rfl
theorem dX7_jacket_86 : decode cX7_jacket 86 = .ok (.aload_n 0, 1) := dq_42 dp_cX7_jacket rfl
theorem dX7_jacket_87 : decode cX7_jacket 87 = .ok (.getfield 35, 3) := dq_180 dp_cX7_jacket rfl
theorem dX7_jacket_90 : decode cX7_jacket 90 = .ok (.getfield 183, 3) := dq_180 dp_cX7_jacket rfl
theorem dX7_jacket_93 : decode cX7_jacket 93 = .ok (.ireturn, 1) := dq_172 dp_cX7_jacket rfl
theorem dX7_fault_0 : decode cX7_fault 0 = .ok (.aload_n 0, 1) := dq_42 dp_cX7_fault rfl
theorem dX7_fault_1 : decode cX7_fault 1 = .ok (.getfield 54, 3) := dq_180 dp_cX7_fault rfl
theorem dX7_fault_4 : decode cX7_fault 4 = .ok (.ireturn, 1) := dq_172 dp_cX7_fault rfl
set_option maxRecDepth 20000 in
theorem gl_X7_frees_X00 : GoodIn wsX7_frees wsX00 := (dg_t (dg_l (dg_r gw_wsX00)))
theorem ggX7_frees_X0_pullAt : GoodIn wsX7_frees wsX0_pullAt := (dg_c 7 rfl rfl (dg_c 8 rfl rfl (dg_c 9 rfl rfl (dg_c 10 rfl rfl (dg_c 11 rfl rfl (dg_c 12 rfl rfl gl_X7_frees_X00))))))
set_option maxRecDepth 20000 in
theorem gX7_frees_X0_pullAt : GoodIn wsX7_frees (wsV RX7 100 RX0 yX0_pullAt wsX0_pullAt) := goodIn_app (dg_c 3 rfl rfl (dg_c 4 rfl rfl (dg_c 5 rfl rfl (dg_c 6 rfl rfl dg_0)))) ggX7_frees_X0_pullAt
set_option maxRecDepth 20000 in
theorem gl_X7_frees_X70 : GoodIn wsX7_frees wsX70 := (dg_t (dg_l (dg_l (dg_r gw_wsX70))))
theorem ggX7_frees_X7_refuse : GoodIn wsX7_frees wsX7_refuse := (dg_c 16 rfl rfl (dg_c 17 rfl rfl (dg_c 18 rfl rfl (dg_c 10 rfl rfl (dg_c 11 rfl rfl (dg_c 12 rfl rfl gl_X7_frees_X70))))))
set_option maxRecDepth 20000 in
theorem gX7_frees_X7_refuse : GoodIn wsX7_frees (wsV RX7 63 RX7 yX7_refuse wsX7_refuse) := goodIn_app (dg_c 13 rfl rfl (dg_c 14 rfl rfl (dg_c 15 rfl rfl (dg_c 11 rfl rfl dg_0)))) ggX7_frees_X7_refuse
set_option maxRecDepth 20000 in
theorem ggX7_frees_X7_within : GoodIn wsX7_frees wsX7_within := (dg_c 12 rfl rfl dg_0)
set_option maxRecDepth 20000 in
theorem gX7_frees_X7_within : GoodIn wsX7_frees (va_wsS RX7 67 yX7_within wsX7_within) := goodIn_app (dg_c 18 rfl rfl (dg_c 10 rfl rfl (dg_c 11 rfl rfl dg_0))) ggX7_frees_X7_within
set_option maxRecDepth 20000 in
theorem gl_X7_frees_X20 : GoodIn wsX7_frees wsX20 := (dg_t (dg_r gw_wsX20))
theorem ggX7_frees_X2_waysAt : GoodIn wsX7_frees wsX2_waysAt := (dg_c 23 rfl rfl (dg_c 24 rfl rfl (dg_c 25 rfl rfl (dg_c 26 rfl rfl (dg_c 27 rfl rfl (dg_c 28 rfl rfl (dg_c 29 rfl rfl (dg_c 30 rfl rfl (dg_c 31 rfl rfl (dg_c 32 rfl rfl (dg_c 33 rfl rfl (dg_c 34 rfl rfl (dg_c 22 rfl rfl (dg_c 35 rfl rfl (dg_c 36 rfl rfl gl_X7_frees_X20)))))))))))))))
set_option maxRecDepth 20000 in
theorem gX7_frees_X2_waysAt : GoodIn wsX7_frees (wsV RX7 119 RX2 yX2_waysAt wsX2_waysAt) := goodIn_app (dg_c 19 rfl rfl (dg_c 20 rfl rfl (dg_c 21 rfl rfl (dg_c 22 rfl rfl dg_0)))) ggX7_frees_X2_waysAt
set_option maxRecDepth 20000 in
theorem ggX7_frees_X2_shallower : GoodIn wsX7_frees wsX2_shallower := (dg_c 40 rfl rfl (dg_c 29 rfl rfl (dg_c 30 rfl rfl (dg_c 27 rfl rfl (dg_c 31 rfl rfl (dg_c 41 rfl rfl (dg_c 42 rfl rfl (dg_c 43 rfl rfl (dg_c 22 rfl rfl (dg_c 44 rfl rfl (dg_c 24 rfl rfl (dg_c 36 rfl rfl gl_X7_frees_X20))))))))))))
set_option maxRecDepth 20000 in
theorem gX7_frees_X2_shallower : GoodIn wsX7_frees (wsV RX7 186 RX2 yX2_shallower wsX2_shallower) := goodIn_app (dg_c 37 rfl rfl (dg_c 38 rfl rfl (dg_c 39 rfl rfl (dg_c 22 rfl rfl dg_0)))) ggX7_frees_X2_shallower
set_option maxRecDepth 20000 in
theorem ggX7_frees_X2_deeper : GoodIn wsX7_frees wsX2_deeper := (dg_c 48 rfl rfl (dg_c 24 rfl rfl (dg_c 36 rfl rfl (dg_c 25 rfl rfl (dg_c 26 rfl rfl (dg_c 27 rfl rfl (dg_c 28 rfl rfl gl_X7_frees_X20)))))))
set_option maxRecDepth 20000 in
theorem gX7_frees_X2_deeper : GoodIn wsX7_frees (wsV RX7 189 RX2 yX2_deeper wsX2_deeper) := goodIn_app (dg_c 45 rfl rfl (dg_c 46 rfl rfl (dg_c 47 rfl rfl (dg_c 22 rfl rfl dg_0)))) ggX7_frees_X2_deeper
theorem dX7_frees_0 : decode cX7_frees 0 = .ok (.aload_n 0, 1) := dq_42 dp_cX7_frees rfl
theorem dX7_frees_1 : decode cX7_frees 1 = .ok (.getfield 18, 3) := dq_180 dp_cX7_frees rfl
theorem dX7_frees_4 : decode cX7_frees 4 = .ok (.iload_n 1, 1) := dq_27 dp_cX7_frees rfl
theorem dX7_frees_5 : decode cX7_frees 5 = .ok (.invokevirtual 100, 3) := dq_182 dp_cX7_frees rfl
theorem dX7_frees_8 : decode cX7_frees 8 = .ok (.astore 4, 2) := dq_58 dp_cX7_frees rfl
theorem dX7_frees_10 : decode cX7_frees 10 = .ok (.aload 4, 2) := dq_25 dp_cX7_frees rfl
theorem dX7_frees_12 : decode cX7_frees 12 = .ok (.ifnonnull 9, 3) := dq_199 (v := 9) dp_cX7_frees rfl rfl
theorem dX7_frees_15 : decode cX7_frees 15 = .ok (.aload_n 0, 1) := dq_42 dp_cX7_frees rfl
theorem dX7_frees_16 : decode cX7_frees 16 = .ok (.iconst 1, 1) := dq_4 dp_cX7_frees rfl
theorem dX7_frees_17 : decode cX7_frees 17 = .ok (.invokevirtual 63, 3) := dq_182 dp_cX7_frees rfl
theorem dX7_frees_20 : decode cX7_frees 20 = .ok (.ireturn, 1) := dq_172 dp_cX7_frees rfl
theorem dX7_frees_21 : decode cX7_frees 21 = .ok (.iload_n 3, 1) := dq_29 dp_cX7_frees rfl
theorem dX7_frees_22 : decode cX7_frees 22 = .ok (.iconst 0, 1) := dq_3 dp_cX7_frees rfl
theorem dX7_frees_23 : decode cX7_frees 23 = .ok (.iconst 2, 1) := dq_5 dp_cX7_frees rfl
theorem dX7_frees_24 : decode cX7_frees 24 = .ok (.invokestatic 67, 3) := dq_184 dp_cX7_frees rfl
theorem dX7_frees_27 : decode cX7_frees 27 = .ok (.ifCond .ne 9, 3) := dq_154 (v := 9) dp_cX7_frees rfl rfl
theorem dX7_frees_30 : decode cX7_frees 30 = .ok (.aload_n 0, 1) := dq_42 dp_cX7_frees rfl
theorem dX7_frees_31 : decode cX7_frees 31 = .ok (.iconst 5, 1) := dq_8 dp_cX7_frees rfl
theorem dX7_frees_32 : decode cX7_frees 32 = .ok (.invokevirtual 63, 3) := dq_182 dp_cX7_frees rfl
theorem dX7_frees_35 : decode cX7_frees 35 = .ok (.ireturn, 1) := dq_172 dp_cX7_frees rfl
theorem dX7_frees_36 : decode cX7_frees 36 = .ok (.iload_n 2, 1) := dq_28 dp_cX7_frees rfl
theorem dX7_frees_37 : decode cX7_frees 37 = .ok (.iconst 1, 1) := dq_4 dp_cX7_frees rfl
theorem dX7_frees_38 : decode cX7_frees 38 = .ok (.bipush 24, 2) := dq_16 (v := 24) dp_cX7_frees rfl rfl
theorem dX7_frees_40 : decode cX7_frees 40 = .ok (.invokestatic 67, 3) := dq_184 dp_cX7_frees rfl
theorem dX7_frees_43 : decode cX7_frees 43 = .ok (.ifCond .ne 10, 3) := dq_154 (v := 10) dp_cX7_frees rfl rfl
theorem dX7_frees_46 : decode cX7_frees 46 = .ok (.aload_n 0, 1) := dq_42 dp_cX7_frees rfl
theorem dX7_frees_47 : decode cX7_frees 47 = .ok (.bipush 6, 2) := dq_16 (v := 6) dp_cX7_frees rfl rfl
theorem dX7_frees_49 : decode cX7_frees 49 = .ok (.invokevirtual 63, 3) := dq_182 dp_cX7_frees rfl
theorem dX7_frees_52 : decode cX7_frees 52 = .ok (.ireturn, 1) := dq_172 dp_cX7_frees rfl
theorem dX7_frees_53 : decode cX7_frees 53 = .ok (.iload_n 3, 1) := dq_29 dp_cX7_frees rfl
theorem dX7_frees_54 : decode cX7_frees 54 = .ok (.ifCond .ne 17, 3) := dq_154 (v := 17) dp_cX7_frees rfl rfl
theorem dX7_frees_57 : decode cX7_frees 57 = .ok (.aload 4, 2) := dq_25 dp_cX7_frees rfl
theorem dX7_frees_59 : decode cX7_frees 59 = .ok (.iload_n 2, 1) := dq_28 dp_cX7_frees rfl
theorem dX7_frees_60 : decode cX7_frees 60 = .ok (.aload_n 0, 1) := dq_42 dp_cX7_frees rfl
theorem dX7_frees_61 : decode cX7_frees 61 = .ok (.getfield 18, 3) := dq_180 dp_cX7_frees rfl
theorem dX7_frees_64 : decode cX7_frees 64 = .ok (.getfield 116, 3) := dq_180 dp_cX7_frees rfl
theorem dX7_frees_67 : decode cX7_frees 67 = .ok (.invokevirtual 119, 3) := dq_182 dp_cX7_frees rfl
theorem dX7_frees_70 : decode cX7_frees 70 = .ok (.ireturn, 1) := dq_172 dp_cX7_frees rfl
theorem dX7_frees_71 : decode cX7_frees 71 = .ok (.iload_n 3, 1) := dq_29 dp_cX7_frees rfl
theorem dX7_frees_72 : decode cX7_frees 72 = .ok (.iconst 1, 1) := dq_4 dp_cX7_frees rfl
theorem dX7_frees_73 : decode cX7_frees 73 = .ok (.if_icmp .ne 12, 3) := dq_160 (v := 12) dp_cX7_frees rfl rfl
theorem dX7_frees_76 : decode cX7_frees 76 = .ok (.aload 4, 2) := dq_25 dp_cX7_frees rfl
theorem dX7_frees_78 : decode cX7_frees 78 = .ok (.iload_n 2, 1) := dq_28 dp_cX7_frees rfl
theorem dX7_frees_79 : decode cX7_frees 79 = .ok (.invokevirtual 186, 3) := dq_182 dp_cX7_frees rfl
theorem dX7_frees_82 : decode cX7_frees 82 = .ok (.goto 16, 3) := dq_167 (v := 16) dp_cX7_frees rfl rfl
theorem dX7_frees_85 : decode cX7_frees 85 = .ok (.aload 4, 2) := dq_25 dp_cX7_frees rfl
theorem dX7_frees_87 : decode cX7_frees 87 = .ok (.iload_n 2, 1) := dq_28 dp_cX7_frees rfl
theorem dX7_frees_88 : decode cX7_frees 88 = .ok (.aload_n 0, 1) := dq_42 dp_cX7_frees rfl
theorem dX7_frees_89 : decode cX7_frees 89 = .ok (.getfield 18, 3) := dq_180 dp_cX7_frees rfl
theorem dX7_frees_92 : decode cX7_frees 92 = .ok (.getfield 116, 3) := dq_180 dp_cX7_frees rfl
theorem dX7_frees_95 : decode cX7_frees 95 = .ok (.invokevirtual 189, 3) := dq_182 dp_cX7_frees rfl
theorem dX7_frees_98 : decode cX7_frees 98 = .ok (.ireturn, 1) := dq_172 dp_cX7_frees rfl
set_option maxRecDepth 20000 in
theorem ggX7_cases_X7_within : GoodIn wsX7_cases wsX7_within := (dg_c 9 rfl rfl dg_0)
set_option maxRecDepth 20000 in
theorem gX7_cases_X7_within : GoodIn wsX7_cases (va_wsS RX7 67 yX7_within wsX7_within) := goodIn_app (dg_c 6 rfl rfl (dg_c 7 rfl rfl (dg_c 8 rfl rfl dg_0))) ggX7_cases_X7_within
set_option maxRecDepth 20000 in
theorem gl_X7_cases_X70 : GoodIn wsX7_cases wsX70 := (dg_t (dg_l (dg_l (dg_l (dg_r gw_wsX70)))))
theorem ggX7_cases_X7_refuseLower : GoodIn wsX7_cases wsX7_refuseLower := (dg_c 13 rfl rfl (dg_c 14 rfl rfl (dg_c 15 rfl rfl (dg_c 16 rfl rfl (dg_c 8 rfl rfl (dg_c 17 rfl rfl (dg_c 18 rfl rfl (dg_c 6 rfl rfl (dg_c 7 rfl rfl (dg_c 9 rfl rfl gl_X7_cases_X70))))))))))
set_option maxRecDepth 20000 in
theorem gX7_cases_X7_refuseLower : GoodIn wsX7_cases (wsV RX7 192 RX7 yX7_refuseLower wsX7_refuseLower) := goodIn_app (dg_c 10 rfl rfl (dg_c 11 rfl rfl (dg_c 12 rfl rfl (dg_c 8 rfl rfl dg_0)))) ggX7_cases_X7_refuseLower
set_option maxRecDepth 20000 in
theorem gl_X7_cases_X00 : GoodIn wsX7_cases wsX00 := (dg_t (dg_l (dg_l (dg_r gw_wsX00))))
theorem gl_X7_cases_X50 : GoodIn wsX7_cases wsX50 := (dg_t (dg_l (dg_r gw_wsX50)))
theorem gl_X7_cases_X20 : GoodIn wsX7_cases wsX20 := (dg_t (dg_r gw_wsX20))
theorem ggX7_cases_X5_look : GoodIn wsX7_cases wsX5_look := (dg_c 23 rfl rfl (goodIn_app (goodIn_app (goodIn_app (goodIn_app (dg_c 24 rfl rfl (dg_c 25 rfl rfl (dg_c 26 rfl rfl (dg_c 27 rfl rfl (dg_c 28 rfl rfl (dg_c 29 rfl rfl (dg_c 30 rfl rfl (dg_c 31 rfl rfl (dg_c 32 rfl rfl (dg_c 33 rfl rfl (dg_c 34 rfl rfl (dg_c 35 rfl rfl (dg_c 36 rfl rfl (dg_c 37 rfl rfl (dg_c 38 rfl rfl (dg_c 39 rfl rfl (dg_c 40 rfl rfl (dg_c 41 rfl rfl (dg_c 42 rfl rfl (dg_c 43 rfl rfl (dg_c 44 rfl rfl (dg_c 45 rfl rfl (dg_c 46 rfl rfl (dg_c 47 rfl rfl dg_0)))))))))))))))))))))))) (dg_c 48 rfl rfl (dg_c 49 rfl rfl (dg_c 7 rfl rfl (dg_c 8 rfl rfl (dg_c 9 rfl rfl (dg_c 50 rfl rfl (dg_c 51 rfl rfl (dg_c 52 rfl rfl (dg_c 53 rfl rfl dg_0)))))))))) gl_X7_cases_X00) gl_X7_cases_X50) gl_X7_cases_X20))
set_option maxRecDepth 20000 in
theorem gX7_cases_X5_look : GoodIn wsX7_cases (wsV RX7 195 RX5 yX5_look wsX5_look) := goodIn_app (dg_c 19 rfl rfl (dg_c 20 rfl rfl (dg_c 21 rfl rfl (dg_c 22 rfl rfl dg_0)))) ggX7_cases_X5_look
set_option maxRecDepth 20000 in
theorem ggX7_cases_X5_next : GoodIn wsX7_cases wsX5_next := (dg_c 57 rfl rfl (goodIn_app (goodIn_app (goodIn_app (dg_c 25 rfl rfl (dg_c 58 rfl rfl (dg_c 59 rfl rfl (dg_c 60 rfl rfl (dg_c 22 rfl rfl (dg_c 61 rfl rfl (dg_c 29 rfl rfl (dg_c 7 rfl rfl (dg_c 8 rfl rfl (dg_c 9 rfl rfl (dg_c 62 rfl rfl (dg_c 63 rfl rfl (dg_c 64 rfl rfl (dg_c 65 rfl rfl (dg_c 66 rfl rfl (dg_c 67 rfl rfl (dg_c 68 rfl rfl (dg_c 69 rfl rfl (dg_c 70 rfl rfl (dg_c 71 rfl rfl (dg_c 26 rfl rfl (dg_c 30 rfl rfl (dg_c 72 rfl rfl (dg_c 73 rfl rfl dg_0)))))))))))))))))))))))) (goodIn_app (dg_c 74 rfl rfl (dg_c 75 rfl rfl (dg_c 76 rfl rfl (dg_c 77 rfl rfl (dg_c 78 rfl rfl (dg_c 33 rfl rfl (dg_c 79 rfl rfl (dg_c 80 rfl rfl (dg_c 32 rfl rfl (dg_c 34 rfl rfl (dg_c 81 rfl rfl (dg_c 82 rfl rfl (dg_c 83 rfl rfl (dg_c 84 rfl rfl (dg_c 85 rfl rfl (dg_c 86 rfl rfl (dg_c 87 rfl rfl (dg_c 88 rfl rfl (dg_c 89 rfl rfl (dg_c 90 rfl rfl (dg_c 91 rfl rfl (dg_c 92 rfl rfl (dg_c 93 rfl rfl (dg_c 94 rfl rfl dg_0)))))))))))))))))))))))) (dg_c 95 rfl rfl (dg_c 96 rfl rfl (dg_c 97 rfl rfl (dg_c 98 rfl rfl (dg_c 99 rfl rfl (dg_c 100 rfl rfl (dg_c 101 rfl rfl (dg_c 102 rfl rfl (dg_c 27 rfl rfl (dg_c 41 rfl rfl (dg_c 31 rfl rfl dg_0))))))))))))) gl_X7_cases_X50) gl_X7_cases_X20))
set_option maxRecDepth 20000 in
theorem gX7_cases_X5_next : GoodIn wsX7_cases (wsV RX7 205 RX5 yX5_next wsX5_next) := goodIn_app (dg_c 54 rfl rfl (dg_c 55 rfl rfl (dg_c 56 rfl rfl (dg_c 22 rfl rfl dg_0)))) ggX7_cases_X5_next
set_option maxRecDepth 20000 in
theorem ggX7_cases_X5_most : GoodIn wsX7_cases wsX5_most := (dg_c 101 rfl rfl (goodIn_app (goodIn_app (goodIn_app (dg_c 102 rfl rfl (dg_c 27 rfl rfl (dg_c 41 rfl rfl (dg_c 25 rfl rfl (dg_c 31 rfl rfl (dg_c 32 rfl rfl (dg_c 33 rfl rfl (dg_c 34 rfl rfl (dg_c 58 rfl rfl (dg_c 59 rfl rfl (dg_c 60 rfl rfl (dg_c 22 rfl rfl (dg_c 61 rfl rfl (dg_c 29 rfl rfl (dg_c 7 rfl rfl (dg_c 8 rfl rfl (dg_c 9 rfl rfl (dg_c 62 rfl rfl (dg_c 63 rfl rfl (dg_c 64 rfl rfl (dg_c 65 rfl rfl (dg_c 66 rfl rfl (dg_c 67 rfl rfl (dg_c 68 rfl rfl dg_0)))))))))))))))))))))))) (goodIn_app (dg_c 69 rfl rfl (dg_c 70 rfl rfl (dg_c 71 rfl rfl (dg_c 26 rfl rfl (dg_c 30 rfl rfl (dg_c 72 rfl rfl (dg_c 73 rfl rfl (dg_c 74 rfl rfl (dg_c 75 rfl rfl (dg_c 76 rfl rfl (dg_c 77 rfl rfl (dg_c 78 rfl rfl (dg_c 79 rfl rfl (dg_c 80 rfl rfl (dg_c 81 rfl rfl (dg_c 82 rfl rfl (dg_c 83 rfl rfl (dg_c 84 rfl rfl (dg_c 85 rfl rfl (dg_c 86 rfl rfl (dg_c 87 rfl rfl (dg_c 88 rfl rfl (dg_c 89 rfl rfl (dg_c 90 rfl rfl dg_0)))))))))))))))))))))))) (dg_c 91 rfl rfl (dg_c 92 rfl rfl (dg_c 93 rfl rfl (dg_c 94 rfl rfl (dg_c 95 rfl rfl (dg_c 96 rfl rfl (dg_c 97 rfl rfl (dg_c 98 rfl rfl (dg_c 99 rfl rfl (dg_c 100 rfl rfl dg_0)))))))))))) gl_X7_cases_X50) gl_X7_cases_X20))
set_option maxRecDepth 20000 in
theorem gX7_cases_X5_most_n208 : GoodIn wsX7_cases (wsX5_most) := ggX7_cases_X5_most
theorem dX7_cases_0 : decode cX7_cases 0 = .ok (.iload_n 2, 1) := dq_28 dp_cX7_cases rfl
theorem dX7_cases_1 : decode cX7_cases 1 = .ok (.iconst 0, 1) := dq_3 dp_cX7_cases rfl
theorem dX7_cases_2 : decode cX7_cases 2 = .ok (.iconst 2, 1) := dq_5 dp_cX7_cases rfl
theorem dX7_cases_3 : decode cX7_cases 3 = .ok (.invokestatic 67, 3) := dq_184 dp_cX7_cases rfl
theorem dX7_cases_6 : decode cX7_cases 6 = .ok (.ifCond .ne 9, 3) := dq_154 (v := 9) dp_cX7_cases rfl rfl
theorem dX7_cases_9 : decode cX7_cases 9 = .ok (.aload_n 0, 1) := dq_42 dp_cX7_cases rfl
theorem dX7_cases_10 : decode cX7_cases 10 = .ok (.iconst 5, 1) := dq_8 dp_cX7_cases rfl
theorem dX7_cases_11 : decode cX7_cases 11 = .ok (.invokevirtual 192, 3) := dq_182 dp_cX7_cases rfl
theorem dX7_cases_14 : decode cX7_cases 14 = .ok (.ireturn, 1) := dq_172 dp_cX7_cases rfl
theorem dX7_cases_15 : decode cX7_cases 15 = .ok (.iload_n 1, 1) := dq_27 dp_cX7_cases rfl
theorem dX7_cases_16 : decode cX7_cases 16 = .ok (.iconst 0, 1) := dq_3 dp_cX7_cases rfl
theorem dX7_cases_17 : decode cX7_cases 17 = .ok (.iconst 4, 1) := dq_7 dp_cX7_cases rfl
theorem dX7_cases_18 : decode cX7_cases 18 = .ok (.invokestatic 67, 3) := dq_184 dp_cX7_cases rfl
theorem dX7_cases_21 : decode cX7_cases 21 = .ok (.ifCond .ne 10, 3) := dq_154 (v := 10) dp_cX7_cases rfl rfl
theorem dX7_cases_24 : decode cX7_cases 24 = .ok (.aload_n 0, 1) := dq_42 dp_cX7_cases rfl
theorem dX7_cases_25 : decode cX7_cases 25 = .ok (.bipush 6, 2) := dq_16 (v := 6) dp_cX7_cases rfl rfl
theorem dX7_cases_27 : decode cX7_cases 27 = .ok (.invokevirtual 192, 3) := dq_182 dp_cX7_cases rfl
theorem dX7_cases_30 : decode cX7_cases 30 = .ok (.ireturn, 1) := dq_172 dp_cX7_cases rfl
theorem dX7_cases_31 : decode cX7_cases 31 = .ok (.aload_n 0, 1) := dq_42 dp_cX7_cases rfl
theorem dX7_cases_32 : decode cX7_cases 32 = .ok (.getfield 28, 3) := dq_180 dp_cX7_cases rfl
theorem dX7_cases_35 : decode cX7_cases 35 = .ok (.aload_n 0, 1) := dq_42 dp_cX7_cases rfl
theorem dX7_cases_36 : decode cX7_cases 36 = .ok (.getfield 18, 3) := dq_180 dp_cX7_cases rfl
theorem dX7_cases_39 : decode cX7_cases 39 = .ok (.aload_n 0, 1) := dq_42 dp_cX7_cases rfl
theorem dX7_cases_40 : decode cX7_cases 40 = .ok (.getfield 18, 3) := dq_180 dp_cX7_cases rfl
theorem dX7_cases_43 : decode cX7_cases 43 = .ok (.getfield 116, 3) := dq_180 dp_cX7_cases rfl
theorem dX7_cases_46 : decode cX7_cases 46 = .ok (.iload_n 2, 1) := dq_28 dp_cX7_cases rfl
theorem dX7_cases_47 : decode cX7_cases 47 = .ok (.iconst 2, 1) := dq_5 dp_cX7_cases rfl
theorem dX7_cases_48 : decode cX7_cases 48 = .ok (.if_icmp .eq 7, 3) := dq_159 (v := 7) dp_cX7_cases rfl rfl
theorem dX7_cases_51 : decode cX7_cases 51 = .ok (.iconst 1, 1) := dq_4 dp_cX7_cases rfl
theorem dX7_cases_52 : decode cX7_cases 52 = .ok (.goto 4, 3) := dq_167 (v := 4) dp_cX7_cases rfl rfl
theorem dX7_cases_55 : decode cX7_cases 55 = .ok (.iconst 0, 1) := dq_3 dp_cX7_cases rfl
theorem dX7_cases_56 : decode cX7_cases 56 = .ok (.invokevirtual 195, 3) := dq_182 dp_cX7_cases rfl
theorem dX7_cases_59 : decode cX7_cases 59 = .ok (.iload_n 2, 1) := dq_28 dp_cX7_cases rfl
theorem dX7_cases_60 : decode cX7_cases 60 = .ok (.iconst 1, 1) := dq_4 dp_cX7_cases rfl
theorem dX7_cases_61 : decode cX7_cases 61 = .ok (.if_icmp .ne 26, 3) := dq_160 (v := 26) dp_cX7_cases rfl rfl
theorem dX7_cases_64 : decode cX7_cases 64 = .ok (.aload_n 0, 1) := dq_42 dp_cX7_cases rfl
theorem dX7_cases_65 : decode cX7_cases 65 = .ok (.getfield 28, 3) := dq_180 dp_cX7_cases rfl
theorem dX7_cases_68 : decode cX7_cases 68 = .ok (.iload_n 1, 1) := dq_27 dp_cX7_cases rfl
theorem dX7_cases_69 : decode cX7_cases 69 = .ok (.aload_n 0, 1) := dq_42 dp_cX7_cases rfl
theorem dX7_cases_70 : decode cX7_cases 70 = .ok (.getfield 18, 3) := dq_180 dp_cX7_cases rfl
theorem dX7_cases_73 : decode cX7_cases 73 = .ok (.getfield 199, 3) := dq_180 dp_cX7_cases rfl
theorem dX7_cases_76 : decode cX7_cases 76 = .ok (.aload_n 0, 1) := dq_42 dp_cX7_cases rfl
theorem dX7_cases_77 : decode cX7_cases 77 = .ok (.getfield 18, 3) := dq_180 dp_cX7_cases rfl
theorem dX7_cases_80 : decode cX7_cases 80 = .ok (.getfield 202, 3) := dq_180 dp_cX7_cases rfl
theorem dX7_cases_83 : decode cX7_cases 83 = .ok (.invokevirtual 205, 3) := dq_182 dp_cX7_cases rfl
theorem dX7_cases_86 : decode cX7_cases 86 = .ok (.ireturn, 1) := dq_172 dp_cX7_cases rfl
theorem dX7_cases_87 : decode cX7_cases 87 = .ok (.aload_n 0, 1) := dq_42 dp_cX7_cases rfl
theorem dX7_cases_88 : decode cX7_cases 88 = .ok (.getfield 28, 3) := dq_180 dp_cX7_cases rfl
theorem dX7_cases_91 : decode cX7_cases 91 = .ok (.iload_n 1, 1) := dq_27 dp_cX7_cases rfl
theorem dX7_cases_92 : decode cX7_cases 92 = .ok (.aload_n 0, 1) := dq_42 dp_cX7_cases rfl
theorem dX7_cases_93 : decode cX7_cases 93 = .ok (.getfield 18, 3) := dq_180 dp_cX7_cases rfl
theorem dX7_cases_96 : decode cX7_cases 96 = .ok (.getfield 199, 3) := dq_180 dp_cX7_cases rfl
theorem dX7_cases_99 : decode cX7_cases 99 = .ok (.aload_n 0, 1) := dq_42 dp_cX7_cases rfl
theorem dX7_cases_100 : decode cX7_cases 100 = .ok (.getfield 18, 3) := dq_180 dp_cX7_cases rfl
theorem dX7_cases_103 : decode cX7_cases 103 = .ok (.getfield 202, 3) := dq_180 dp_cX7_cases rfl
theorem dX7_cases_106 : decode cX7_cases 106 = .ok (.invokevirtual 208, 3) := dq_182 dp_cX7_cases rfl
theorem dX7_cases_109 : decode cX7_cases 109 = .ok (.ireturn, 1) := dq_172 dp_cX7_cases rfl
set_option maxRecDepth 20000 in
theorem ggX7_line_X7_within : GoodIn wsX7_line wsX7_within := (dg_c 9 rfl rfl dg_0)
set_option maxRecDepth 20000 in
theorem gX7_line_X7_within : GoodIn wsX7_line (va_wsS RX7 67 yX7_within wsX7_within) := goodIn_app (dg_c 6 rfl rfl (dg_c 7 rfl rfl (dg_c 8 rfl rfl dg_0))) ggX7_line_X7_within
set_option maxRecDepth 20000 in
theorem gl_X7_line_X70 : GoodIn wsX7_line wsX70 := (dg_t (dg_l (dg_l (dg_l (dg_r gw_wsX70)))))
theorem ggX7_line_X7_refuseLower : GoodIn wsX7_line wsX7_refuseLower := (dg_c 13 rfl rfl (dg_c 14 rfl rfl (dg_c 15 rfl rfl (dg_c 16 rfl rfl (dg_c 8 rfl rfl (dg_c 17 rfl rfl (dg_c 18 rfl rfl (dg_c 6 rfl rfl (dg_c 7 rfl rfl (dg_c 9 rfl rfl gl_X7_line_X70))))))))))
set_option maxRecDepth 20000 in
theorem gX7_line_X7_refuseLower : GoodIn wsX7_line (wsV RX7 192 RX7 yX7_refuseLower wsX7_refuseLower) := goodIn_app (dg_c 10 rfl rfl (dg_c 11 rfl rfl (dg_c 12 rfl rfl (dg_c 8 rfl rfl dg_0)))) ggX7_line_X7_refuseLower
set_option maxRecDepth 20000 in
theorem gl_X7_line_X00 : GoodIn wsX7_line wsX00 := (dg_t (dg_l (dg_l (dg_r gw_wsX00))))
theorem gl_X7_line_X50 : GoodIn wsX7_line wsX50 := (dg_t (dg_l (dg_r gw_wsX50)))
theorem gl_X7_line_X20 : GoodIn wsX7_line wsX20 := (dg_t (dg_r gw_wsX20))
theorem ggX7_line_X5_look : GoodIn wsX7_line wsX5_look := (dg_c 23 rfl rfl (goodIn_app (goodIn_app (goodIn_app (goodIn_app (dg_c 24 rfl rfl (dg_c 25 rfl rfl (dg_c 26 rfl rfl (dg_c 27 rfl rfl (dg_c 28 rfl rfl (dg_c 29 rfl rfl (dg_c 30 rfl rfl (dg_c 31 rfl rfl (dg_c 32 rfl rfl (dg_c 33 rfl rfl (dg_c 34 rfl rfl (dg_c 35 rfl rfl (dg_c 36 rfl rfl (dg_c 37 rfl rfl (dg_c 38 rfl rfl (dg_c 39 rfl rfl (dg_c 40 rfl rfl (dg_c 41 rfl rfl (dg_c 42 rfl rfl (dg_c 43 rfl rfl (dg_c 44 rfl rfl (dg_c 45 rfl rfl (dg_c 46 rfl rfl (dg_c 47 rfl rfl dg_0)))))))))))))))))))))))) (dg_c 48 rfl rfl (dg_c 49 rfl rfl (dg_c 7 rfl rfl (dg_c 8 rfl rfl (dg_c 9 rfl rfl (dg_c 50 rfl rfl (dg_c 51 rfl rfl (dg_c 52 rfl rfl (dg_c 53 rfl rfl dg_0)))))))))) gl_X7_line_X00) gl_X7_line_X50) gl_X7_line_X20))
set_option maxRecDepth 20000 in
theorem gX7_line_X5_look : GoodIn wsX7_line (wsV RX7 195 RX5 yX5_look wsX5_look) := goodIn_app (dg_c 19 rfl rfl (dg_c 20 rfl rfl (dg_c 21 rfl rfl (dg_c 22 rfl rfl dg_0)))) ggX7_line_X5_look
set_option maxRecDepth 20000 in
theorem ggX7_line_X5_first : GoodIn wsX7_line wsX5_first := (dg_c 57 rfl rfl (goodIn_app (goodIn_app (goodIn_app (dg_c 25 rfl rfl (dg_c 58 rfl rfl (dg_c 59 rfl rfl (dg_c 60 rfl rfl (dg_c 22 rfl rfl (dg_c 61 rfl rfl (dg_c 27 rfl rfl (dg_c 42 rfl rfl (dg_c 62 rfl rfl (dg_c 63 rfl rfl (dg_c 33 rfl rfl (dg_c 64 rfl rfl (dg_c 65 rfl rfl (dg_c 66 rfl rfl (dg_c 67 rfl rfl (dg_c 68 rfl rfl (dg_c 69 rfl rfl (dg_c 36 rfl rfl (dg_c 70 rfl rfl (dg_c 71 rfl rfl (dg_c 72 rfl rfl (dg_c 73 rfl rfl (dg_c 74 rfl rfl (dg_c 75 rfl rfl dg_0)))))))))))))))))))))))) (goodIn_app (dg_c 76 rfl rfl (dg_c 77 rfl rfl (dg_c 29 rfl rfl (dg_c 7 rfl rfl (dg_c 8 rfl rfl (dg_c 9 rfl rfl (dg_c 78 rfl rfl (dg_c 79 rfl rfl (dg_c 80 rfl rfl (dg_c 81 rfl rfl (dg_c 82 rfl rfl (dg_c 83 rfl rfl (dg_c 84 rfl rfl (dg_c 85 rfl rfl (dg_c 86 rfl rfl (dg_c 87 rfl rfl (dg_c 26 rfl rfl (dg_c 30 rfl rfl (dg_c 28 rfl rfl (dg_c 88 rfl rfl (dg_c 89 rfl rfl (dg_c 90 rfl rfl (dg_c 91 rfl rfl (dg_c 92 rfl rfl dg_0)))))))))))))))))))))))) (dg_c 93 rfl rfl (dg_c 94 rfl rfl (dg_c 32 rfl rfl (dg_c 34 rfl rfl (dg_c 95 rfl rfl (dg_c 96 rfl rfl (dg_c 97 rfl rfl (dg_c 98 rfl rfl (dg_c 99 rfl rfl (dg_c 100 rfl rfl (dg_c 101 rfl rfl (dg_c 102 rfl rfl (dg_c 103 rfl rfl (dg_c 104 rfl rfl (dg_c 105 rfl rfl (dg_c 106 rfl rfl (dg_c 107 rfl rfl (dg_c 108 rfl rfl (dg_c 109 rfl rfl (dg_c 110 rfl rfl (dg_c 111 rfl rfl dg_0))))))))))))))))))))))) gl_X7_line_X50) gl_X7_line_X20))
set_option maxRecDepth 20000 in
theorem gX7_line_X5_first : GoodIn wsX7_line (wsV RX7 211 RX5 yX5_first wsX5_first) := goodIn_app (dg_c 54 rfl rfl (dg_c 55 rfl rfl (dg_c 56 rfl rfl (dg_c 22 rfl rfl dg_0)))) ggX7_line_X5_first
set_option maxRecDepth 20000 in
theorem ggX7_line_X5_least : GoodIn wsX7_line wsX5_least := (dg_c 61 rfl rfl (goodIn_app (goodIn_app (goodIn_app (dg_c 27 rfl rfl (dg_c 42 rfl rfl (dg_c 25 rfl rfl (dg_c 62 rfl rfl (dg_c 63 rfl rfl (dg_c 33 rfl rfl (dg_c 64 rfl rfl (dg_c 65 rfl rfl (dg_c 66 rfl rfl (dg_c 67 rfl rfl (dg_c 22 rfl rfl (dg_c 68 rfl rfl (dg_c 69 rfl rfl (dg_c 36 rfl rfl (dg_c 70 rfl rfl (dg_c 71 rfl rfl (dg_c 72 rfl rfl (dg_c 73 rfl rfl (dg_c 74 rfl rfl (dg_c 75 rfl rfl (dg_c 76 rfl rfl (dg_c 77 rfl rfl (dg_c 29 rfl rfl (dg_c 7 rfl rfl dg_0)))))))))))))))))))))))) (goodIn_app (dg_c 8 rfl rfl (dg_c 9 rfl rfl (dg_c 78 rfl rfl (dg_c 79 rfl rfl (dg_c 80 rfl rfl (dg_c 81 rfl rfl (dg_c 82 rfl rfl (dg_c 83 rfl rfl (dg_c 84 rfl rfl (dg_c 85 rfl rfl (dg_c 86 rfl rfl (dg_c 87 rfl rfl (dg_c 26 rfl rfl (dg_c 30 rfl rfl (dg_c 28 rfl rfl (dg_c 88 rfl rfl (dg_c 89 rfl rfl (dg_c 90 rfl rfl (dg_c 91 rfl rfl (dg_c 92 rfl rfl (dg_c 93 rfl rfl (dg_c 94 rfl rfl (dg_c 32 rfl rfl (dg_c 34 rfl rfl dg_0)))))))))))))))))))))))) (dg_c 95 rfl rfl (dg_c 96 rfl rfl (dg_c 97 rfl rfl (dg_c 98 rfl rfl (dg_c 99 rfl rfl (dg_c 100 rfl rfl (dg_c 101 rfl rfl (dg_c 102 rfl rfl (dg_c 103 rfl rfl (dg_c 104 rfl rfl (dg_c 105 rfl rfl (dg_c 106 rfl rfl (dg_c 107 rfl rfl (dg_c 58 rfl rfl (dg_c 59 rfl rfl (dg_c 60 rfl rfl (dg_c 108 rfl rfl (dg_c 109 rfl rfl (dg_c 110 rfl rfl (dg_c 111 rfl rfl dg_0)))))))))))))))))))))) gl_X7_line_X50) gl_X7_line_X20))
set_option maxRecDepth 20000 in
theorem gX7_line_X5_least_n214 : GoodIn wsX7_line (wsX5_least) := ggX7_line_X5_least
theorem dX7_line_0 : decode cX7_line 0 = .ok (.iload_n 2, 1) := dq_28 dp_cX7_line rfl
theorem dX7_line_1 : decode cX7_line 1 = .ok (.iconst 0, 1) := dq_3 dp_cX7_line rfl
theorem dX7_line_2 : decode cX7_line 2 = .ok (.iconst 1, 1) := dq_4 dp_cX7_line rfl
theorem dX7_line_3 : decode cX7_line 3 = .ok (.invokestatic 67, 3) := dq_184 dp_cX7_line rfl
theorem dX7_line_6 : decode cX7_line 6 = .ok (.ifCond .ne 9, 3) := dq_154 (v := 9) dp_cX7_line rfl rfl
theorem dX7_line_9 : decode cX7_line 9 = .ok (.aload_n 0, 1) := dq_42 dp_cX7_line rfl
theorem dX7_line_10 : decode cX7_line 10 = .ok (.iconst 5, 1) := dq_8 dp_cX7_line rfl
theorem dX7_line_11 : decode cX7_line 11 = .ok (.invokevirtual 192, 3) := dq_182 dp_cX7_line rfl
theorem dX7_line_14 : decode cX7_line 14 = .ok (.ireturn, 1) := dq_172 dp_cX7_line rfl
theorem dX7_line_15 : decode cX7_line 15 = .ok (.iload_n 1, 1) := dq_27 dp_cX7_line rfl
theorem dX7_line_16 : decode cX7_line 16 = .ok (.iconst 0, 1) := dq_3 dp_cX7_line rfl
theorem dX7_line_17 : decode cX7_line 17 = .ok (.iconst 4, 1) := dq_7 dp_cX7_line rfl
theorem dX7_line_18 : decode cX7_line 18 = .ok (.invokestatic 67, 3) := dq_184 dp_cX7_line rfl
theorem dX7_line_21 : decode cX7_line 21 = .ok (.ifCond .ne 10, 3) := dq_154 (v := 10) dp_cX7_line rfl rfl
theorem dX7_line_24 : decode cX7_line 24 = .ok (.aload_n 0, 1) := dq_42 dp_cX7_line rfl
theorem dX7_line_25 : decode cX7_line 25 = .ok (.bipush 6, 2) := dq_16 (v := 6) dp_cX7_line rfl rfl
theorem dX7_line_27 : decode cX7_line 27 = .ok (.invokevirtual 192, 3) := dq_182 dp_cX7_line rfl
theorem dX7_line_30 : decode cX7_line 30 = .ok (.ireturn, 1) := dq_172 dp_cX7_line rfl
theorem dX7_line_31 : decode cX7_line 31 = .ok (.aload_n 0, 1) := dq_42 dp_cX7_line rfl
theorem dX7_line_32 : decode cX7_line 32 = .ok (.getfield 28, 3) := dq_180 dp_cX7_line rfl
theorem dX7_line_35 : decode cX7_line 35 = .ok (.aload_n 0, 1) := dq_42 dp_cX7_line rfl
theorem dX7_line_36 : decode cX7_line 36 = .ok (.getfield 18, 3) := dq_180 dp_cX7_line rfl
theorem dX7_line_39 : decode cX7_line 39 = .ok (.aload_n 0, 1) := dq_42 dp_cX7_line rfl
theorem dX7_line_40 : decode cX7_line 40 = .ok (.getfield 18, 3) := dq_180 dp_cX7_line rfl
theorem dX7_line_43 : decode cX7_line 43 = .ok (.getfield 116, 3) := dq_180 dp_cX7_line rfl
theorem dX7_line_46 : decode cX7_line 46 = .ok (.iconst 1, 1) := dq_4 dp_cX7_line rfl
theorem dX7_line_47 : decode cX7_line 47 = .ok (.invokevirtual 195, 3) := dq_182 dp_cX7_line rfl
theorem dX7_line_50 : decode cX7_line 50 = .ok (.iload_n 2, 1) := dq_28 dp_cX7_line rfl
theorem dX7_line_51 : decode cX7_line 51 = .ok (.iconst 1, 1) := dq_4 dp_cX7_line rfl
theorem dX7_line_52 : decode cX7_line 52 = .ok (.if_icmp .ne 26, 3) := dq_160 (v := 26) dp_cX7_line rfl rfl
theorem dX7_line_55 : decode cX7_line 55 = .ok (.aload_n 0, 1) := dq_42 dp_cX7_line rfl
theorem dX7_line_56 : decode cX7_line 56 = .ok (.getfield 28, 3) := dq_180 dp_cX7_line rfl
theorem dX7_line_59 : decode cX7_line 59 = .ok (.iload_n 1, 1) := dq_27 dp_cX7_line rfl
theorem dX7_line_60 : decode cX7_line 60 = .ok (.aload_n 0, 1) := dq_42 dp_cX7_line rfl
theorem dX7_line_61 : decode cX7_line 61 = .ok (.getfield 18, 3) := dq_180 dp_cX7_line rfl
theorem dX7_line_64 : decode cX7_line 64 = .ok (.getfield 199, 3) := dq_180 dp_cX7_line rfl
theorem dX7_line_67 : decode cX7_line 67 = .ok (.aload_n 0, 1) := dq_42 dp_cX7_line rfl
theorem dX7_line_68 : decode cX7_line 68 = .ok (.getfield 18, 3) := dq_180 dp_cX7_line rfl
theorem dX7_line_71 : decode cX7_line 71 = .ok (.getfield 202, 3) := dq_180 dp_cX7_line rfl
theorem dX7_line_74 : decode cX7_line 74 = .ok (.invokevirtual 211, 3) := dq_182 dp_cX7_line rfl
theorem dX7_line_77 : decode cX7_line 77 = .ok (.ireturn, 1) := dq_172 dp_cX7_line rfl
theorem dX7_line_78 : decode cX7_line 78 = .ok (.aload_n 0, 1) := dq_42 dp_cX7_line rfl
theorem dX7_line_79 : decode cX7_line 79 = .ok (.getfield 28, 3) := dq_180 dp_cX7_line rfl
theorem dX7_line_82 : decode cX7_line 82 = .ok (.iload_n 1, 1) := dq_27 dp_cX7_line rfl
theorem dX7_line_83 : decode cX7_line 83 = .ok (.aload_n 0, 1) := dq_42 dp_cX7_line rfl
theorem dX7_line_84 : decode cX7_line 84 = .ok (.getfield 18, 3) := dq_180 dp_cX7_line rfl
theorem dX7_line_87 : decode cX7_line 87 = .ok (.getfield 199, 3) := dq_180 dp_cX7_line rfl
theorem dX7_line_90 : decode cX7_line 90 = .ok (.aload_n 0, 1) := dq_42 dp_cX7_line rfl
theorem dX7_line_91 : decode cX7_line 91 = .ok (.getfield 18, 3) := dq_180 dp_cX7_line rfl
theorem dX7_line_94 : decode cX7_line 94 = .ok (.getfield 202, 3) := dq_180 dp_cX7_line rfl
theorem dX7_line_97 : decode cX7_line 97 = .ok (.invokevirtual 214, 3) := dq_182 dp_cX7_line rfl
theorem dX7_line_100 : decode cX7_line 100 = .ok (.ireturn, 1) := dq_172 dp_cX7_line rfl
set_option maxRecDepth 20000 in
theorem ggX7_haste_X7_within : GoodIn wsX7_haste wsX7_within := (dg_c 4 rfl rfl dg_0)
set_option maxRecDepth 20000 in
theorem gX7_haste_X7_within : GoodIn wsX7_haste (va_wsS RX7 67 yX7_within wsX7_within) := goodIn_app (dg_c 1 rfl rfl (dg_c 2 rfl rfl (dg_c 3 rfl rfl dg_0))) ggX7_haste_X7_within
set_option maxRecDepth 20000 in
theorem gl_X7_haste_X70 : GoodIn wsX7_haste wsX70 := (dg_t (dg_l (dg_l (dg_l (dg_r gw_wsX70)))))
theorem ggX7_haste_X7_refuse : GoodIn wsX7_haste wsX7_refuse := (dg_c 8 rfl rfl (dg_c 9 rfl rfl (dg_c 1 rfl rfl (dg_c 2 rfl rfl (dg_c 3 rfl rfl (dg_c 4 rfl rfl gl_X7_haste_X70))))))
set_option maxRecDepth 20000 in
theorem gX7_haste_X7_refuse : GoodIn wsX7_haste (wsV RX7 63 RX7 yX7_refuse wsX7_refuse) := goodIn_app (dg_c 5 rfl rfl (dg_c 6 rfl rfl (dg_c 7 rfl rfl (dg_c 3 rfl rfl dg_0)))) ggX7_haste_X7_refuse
set_option maxRecDepth 20000 in
theorem gl_X7_haste_X00 : GoodIn wsX7_haste wsX00 := (dg_t (dg_l (dg_l (dg_r gw_wsX00))))
theorem gl_X7_haste_X50 : GoodIn wsX7_haste wsX50 := (dg_t (dg_l (dg_r gw_wsX50)))
theorem gl_X7_haste_X20 : GoodIn wsX7_haste wsX20 := (dg_t (dg_r gw_wsX20))
theorem ggX7_haste_X7_casesBy : GoodIn wsX7_haste wsX7_casesBy := (dg_c 13 rfl rfl (goodIn_app (goodIn_app (goodIn_app (goodIn_app (goodIn_app (dg_c 14 rfl rfl (dg_c 15 rfl rfl (dg_c 16 rfl rfl (dg_c 17 rfl rfl (dg_c 18 rfl rfl (dg_c 19 rfl rfl (dg_c 20 rfl rfl (dg_c 21 rfl rfl (dg_c 22 rfl rfl (dg_c 23 rfl rfl (dg_c 24 rfl rfl (dg_c 25 rfl rfl (dg_c 26 rfl rfl (dg_c 27 rfl rfl (dg_c 28 rfl rfl (dg_c 29 rfl rfl (dg_c 30 rfl rfl (dg_c 31 rfl rfl (dg_c 32 rfl rfl (dg_c 33 rfl rfl (dg_c 34 rfl rfl (dg_c 35 rfl rfl (dg_c 36 rfl rfl (dg_c 37 rfl rfl dg_0)))))))))))))))))))))))) (goodIn_app (dg_c 38 rfl rfl (dg_c 39 rfl rfl (dg_c 40 rfl rfl (dg_c 41 rfl rfl (dg_c 42 rfl rfl (dg_c 43 rfl rfl (dg_c 44 rfl rfl (dg_c 45 rfl rfl (dg_c 46 rfl rfl (dg_c 47 rfl rfl (dg_c 48 rfl rfl (dg_c 2 rfl rfl (dg_c 3 rfl rfl (dg_c 4 rfl rfl (dg_c 49 rfl rfl (dg_c 50 rfl rfl (dg_c 51 rfl rfl (dg_c 52 rfl rfl (dg_c 53 rfl rfl (dg_c 54 rfl rfl (dg_c 55 rfl rfl (dg_c 56 rfl rfl (dg_c 57 rfl rfl (dg_c 58 rfl rfl dg_0)))))))))))))))))))))))) (goodIn_app (dg_c 59 rfl rfl (dg_c 60 rfl rfl (dg_c 61 rfl rfl (dg_c 62 rfl rfl (dg_c 63 rfl rfl (dg_c 64 rfl rfl (dg_c 65 rfl rfl (dg_c 66 rfl rfl (dg_c 67 rfl rfl (dg_c 68 rfl rfl (dg_c 69 rfl rfl (dg_c 70 rfl rfl (dg_c 71 rfl rfl (dg_c 72 rfl rfl (dg_c 73 rfl rfl (dg_c 74 rfl rfl (dg_c 75 rfl rfl (dg_c 76 rfl rfl (dg_c 77 rfl rfl (dg_c 78 rfl rfl (dg_c 79 rfl rfl (dg_c 80 rfl rfl (dg_c 81 rfl rfl (dg_c 82 rfl rfl dg_0)))))))))))))))))))))))) (dg_c 83 rfl rfl (dg_c 84 rfl rfl (dg_c 85 rfl rfl (dg_c 86 rfl rfl (dg_c 87 rfl rfl (dg_c 88 rfl rfl (dg_c 89 rfl rfl (dg_c 90 rfl rfl (dg_c 91 rfl rfl (dg_c 92 rfl rfl (dg_c 93 rfl rfl (dg_c 94 rfl rfl (dg_c 95 rfl rfl (dg_c 96 rfl rfl (dg_c 97 rfl rfl dg_0)))))))))))))))))) gl_X7_haste_X70) gl_X7_haste_X00) gl_X7_haste_X50) gl_X7_haste_X20))
set_option maxRecDepth 20000 in
theorem gX7_haste_X7_casesBy : GoodIn wsX7_haste (wsV RX7 217 RX7 yX7_casesBy wsX7_casesBy) := goodIn_app (dg_c 10 rfl rfl (dg_c 11 rfl rfl (dg_c 12 rfl rfl (dg_c 3 rfl rfl dg_0)))) ggX7_haste_X7_casesBy
theorem dX7_haste_0 : decode cX7_haste 0 = .ok (.iload_n 2, 1) := dq_28 dp_cX7_haste rfl
theorem dX7_haste_1 : decode cX7_haste 1 = .ok (.iconst 0, 1) := dq_3 dp_cX7_haste rfl
theorem dX7_haste_2 : decode cX7_haste 2 = .ok (.iconst 1, 1) := dq_4 dp_cX7_haste rfl
theorem dX7_haste_3 : decode cX7_haste 3 = .ok (.invokestatic 67, 3) := dq_184 dp_cX7_haste rfl
theorem dX7_haste_6 : decode cX7_haste 6 = .ok (.ifCond .ne 9, 3) := dq_154 (v := 9) dp_cX7_haste rfl rfl
theorem dX7_haste_9 : decode cX7_haste 9 = .ok (.aload_n 0, 1) := dq_42 dp_cX7_haste rfl
theorem dX7_haste_10 : decode cX7_haste 10 = .ok (.iconst 5, 1) := dq_8 dp_cX7_haste rfl
theorem dX7_haste_11 : decode cX7_haste 11 = .ok (.invokevirtual 63, 3) := dq_182 dp_cX7_haste rfl
theorem dX7_haste_14 : decode cX7_haste 14 = .ok (.ireturn, 1) := dq_172 dp_cX7_haste rfl
theorem dX7_haste_15 : decode cX7_haste 15 = .ok (.iload_n 1, 1) := dq_27 dp_cX7_haste rfl
theorem dX7_haste_16 : decode cX7_haste 16 = .ok (.iconst 0, 1) := dq_3 dp_cX7_haste rfl
theorem dX7_haste_17 : decode cX7_haste 17 = .ok (.iconst 4, 1) := dq_7 dp_cX7_haste rfl
theorem dX7_haste_18 : decode cX7_haste 18 = .ok (.invokestatic 67, 3) := dq_184 dp_cX7_haste rfl
theorem dX7_haste_21 : decode cX7_haste 21 = .ok (.ifCond .ne 10, 3) := dq_154 (v := 10) dp_cX7_haste rfl rfl
theorem dX7_haste_24 : decode cX7_haste 24 = .ok (.aload_n 0, 1) := dq_42 dp_cX7_haste rfl
theorem dX7_haste_25 : decode cX7_haste 25 = .ok (.bipush 6, 2) := dq_16 (v := 6) dp_cX7_haste rfl rfl
theorem dX7_haste_27 : decode cX7_haste 27 = .ok (.invokevirtual 63, 3) := dq_182 dp_cX7_haste rfl
theorem dX7_haste_30 : decode cX7_haste 30 = .ok (.ireturn, 1) := dq_172 dp_cX7_haste rfl
theorem dX7_haste_31 : decode cX7_haste 31 = .ok (.iload_n 2, 1) := dq_28 dp_cX7_haste rfl
theorem dX7_haste_32 : decode cX7_haste 32 = .ok (.iconst 1, 1) := dq_4 dp_cX7_haste rfl
theorem dX7_haste_33 : decode cX7_haste 33 = .ok (.if_icmp .ne 25, 3) := dq_160 (v := 25) dp_cX7_haste rfl rfl
theorem dX7_haste_36 : decode cX7_haste 36 = .ok (.aload_n 0, 1) := dq_42 dp_cX7_haste rfl
theorem dX7_haste_37 : decode cX7_haste 37 = .ok (.bipush 9, 2) := dq_16 (v := 9) dp_cX7_haste rfl rfl
theorem dX7_haste_39 : decode cX7_haste 39 = .ok (.iload_n 1, 1) := dq_27 dp_cX7_haste rfl
theorem dX7_haste_40 : decode cX7_haste 40 = .ok (.invokevirtual 217, 3) := dq_182 dp_cX7_haste rfl
theorem dX7_haste_43 : decode cX7_haste 43 = .ok (.aload_n 0, 1) := dq_42 dp_cX7_haste rfl
theorem dX7_haste_44 : decode cX7_haste 44 = .ok (.iconst 0, 1) := dq_3 dp_cX7_haste rfl
theorem dX7_haste_45 : decode cX7_haste 45 = .ok (.iload_n 1, 1) := dq_27 dp_cX7_haste rfl
theorem dX7_haste_46 : decode cX7_haste 46 = .ok (.invokevirtual 217, 3) := dq_182 dp_cX7_haste rfl
theorem dX7_haste_49 : decode cX7_haste 49 = .ok (.if_icmp .ge 7, 3) := dq_162 (v := 7) dp_cX7_haste rfl rfl
theorem dX7_haste_52 : decode cX7_haste 52 = .ok (.iconst 1, 1) := dq_4 dp_cX7_haste rfl
theorem dX7_haste_53 : decode cX7_haste 53 = .ok (.goto 4, 3) := dq_167 (v := 4) dp_cX7_haste rfl rfl
theorem dX7_haste_56 : decode cX7_haste 56 = .ok (.iconst 0, 1) := dq_3 dp_cX7_haste rfl
theorem dX7_haste_57 : decode cX7_haste 57 = .ok (.ireturn, 1) := dq_172 dp_cX7_haste rfl
theorem dX7_haste_58 : decode cX7_haste 58 = .ok (.iconst 0, 1) := dq_3 dp_cX7_haste rfl
theorem dX7_haste_59 : decode cX7_haste 59 = .ok (.istore_n 3, 1) := dq_62 dp_cX7_haste rfl
theorem dX7_haste_60 : decode cX7_haste 60 = .ok (.aload_n 0, 1) := dq_42 dp_cX7_haste rfl
theorem dX7_haste_61 : decode cX7_haste 61 = .ok (.iconst 0, 1) := dq_3 dp_cX7_haste rfl
theorem dX7_haste_62 : decode cX7_haste 62 = .ok (.iload_n 1, 1) := dq_27 dp_cX7_haste rfl
theorem dX7_haste_63 : decode cX7_haste 63 = .ok (.invokevirtual 217, 3) := dq_182 dp_cX7_haste rfl
theorem dX7_haste_66 : decode cX7_haste 66 = .ok (.istore 4, 2) := dq_54 dp_cX7_haste rfl
theorem dX7_haste_68 : decode cX7_haste 68 = .ok (.iconst 1, 1) := dq_4 dp_cX7_haste rfl
theorem dX7_haste_69 : decode cX7_haste 69 = .ok (.istore 5, 2) := dq_54 dp_cX7_haste rfl
theorem dX7_haste_71 : decode cX7_haste 71 = .ok (.iload 5, 2) := dq_21 dp_cX7_haste rfl
theorem dX7_haste_73 : decode cX7_haste 73 = .ok (.bipush 9, 2) := dq_16 (v := 9) dp_cX7_haste rfl rfl
theorem dX7_haste_75 : decode cX7_haste 75 = .ok (.if_icmp .gt 32, 3) := dq_163 (v := 32) dp_cX7_haste rfl rfl
theorem dX7_haste_78 : decode cX7_haste 78 = .ok (.aload_n 0, 1) := dq_42 dp_cX7_haste rfl
theorem dX7_haste_79 : decode cX7_haste 79 = .ok (.iload 5, 2) := dq_21 dp_cX7_haste rfl
theorem dX7_haste_81 : decode cX7_haste 81 = .ok (.iload_n 1, 1) := dq_27 dp_cX7_haste rfl
theorem dX7_haste_82 : decode cX7_haste 82 = .ok (.invokevirtual 217, 3) := dq_182 dp_cX7_haste rfl
theorem dX7_haste_85 : decode cX7_haste 85 = .ok (.istore 6, 2) := dq_54 dp_cX7_haste rfl
theorem dX7_haste_87 : decode cX7_haste 87 = .ok (.iload 6, 2) := dq_21 dp_cX7_haste rfl
theorem dX7_haste_89 : decode cX7_haste 89 = .ok (.iload 4, 2) := dq_21 dp_cX7_haste rfl
theorem dX7_haste_91 : decode cX7_haste 91 = .ok (.if_icmp .le 10, 3) := dq_164 (v := 10) dp_cX7_haste rfl rfl
theorem dX7_haste_94 : decode cX7_haste 94 = .ok (.iload 6, 2) := dq_21 dp_cX7_haste rfl
theorem dX7_haste_96 : decode cX7_haste 96 = .ok (.istore 4, 2) := dq_54 dp_cX7_haste rfl
theorem dX7_haste_98 : decode cX7_haste 98 = .ok (.iload 5, 2) := dq_21 dp_cX7_haste rfl
theorem dX7_haste_100 : decode cX7_haste 100 = .ok (.istore_n 3, 1) := dq_62 dp_cX7_haste rfl
theorem dX7_haste_101 : decode cX7_haste 101 = .ok (.iinc 5 1, 3) := dq_132 (v := 1) dp_cX7_haste rfl (by decide) rfl
theorem dX7_haste_104 : decode cX7_haste 104 = .ok (.goto (-33), 3) := dq_167 (v := 65503) dp_cX7_haste rfl rfl
theorem dX7_haste_107 : decode cX7_haste 107 = .ok (.iload_n 3, 1) := dq_29 dp_cX7_haste rfl
theorem dX7_haste_108 : decode cX7_haste 108 = .ok (.ireturn, 1) := dq_172 dp_cX7_haste rfl
set_option maxRecDepth 20000 in
theorem gl_X7_freed_X70 : GoodIn wsX7_freed wsX70 := (dg_t (dg_l (dg_l (dg_l (dg_r gw_wsX70)))))
theorem ggX7_freed_X7_shelfAt : GoodIn wsX7_freed wsX7_shelfAt := (dg_c 6 rfl rfl (dg_c 7 rfl rfl (dg_c 8 rfl rfl (dg_c 9 rfl rfl (dg_c 5 rfl rfl (dg_c 10 rfl rfl gl_X7_freed_X70))))))
set_option maxRecDepth 20000 in
theorem gX7_freed_X7_shelfAt : GoodIn wsX7_freed (wsV RX7 59 RX7 yX7_shelfAt wsX7_shelfAt) := goodIn_app (dg_c 2 rfl rfl (dg_c 3 rfl rfl (dg_c 4 rfl rfl (dg_c 5 rfl rfl dg_0)))) ggX7_freed_X7_shelfAt
set_option maxRecDepth 20000 in
theorem gl_X7_freed_X00 : GoodIn wsX7_freed wsX00 := (dg_t (dg_l (dg_l (dg_r gw_wsX00))))
theorem ggX7_freed_X0_pullAt : GoodIn wsX7_freed wsX0_pullAt := (dg_c 15 rfl rfl (dg_c 16 rfl rfl (dg_c 17 rfl rfl (dg_c 9 rfl rfl (dg_c 5 rfl rfl (dg_c 10 rfl rfl gl_X7_freed_X00))))))
set_option maxRecDepth 20000 in
theorem gX7_freed_X0_pullAt : GoodIn wsX7_freed (wsV RX7 100 RX0 yX0_pullAt wsX0_pullAt) := goodIn_app (dg_c 11 rfl rfl (dg_c 12 rfl rfl (dg_c 13 rfl rfl (dg_c 14 rfl rfl dg_0)))) ggX7_freed_X0_pullAt
set_option maxRecDepth 20000 in
theorem ggX7_freed_X7_refuse : GoodIn wsX7_freed wsX7_refuse := (dg_c 21 rfl rfl (dg_c 22 rfl rfl (dg_c 8 rfl rfl (dg_c 9 rfl rfl (dg_c 5 rfl rfl (dg_c 10 rfl rfl gl_X7_freed_X70))))))
set_option maxRecDepth 20000 in
theorem gX7_freed_X7_refuse : GoodIn wsX7_freed (wsV RX7 63 RX7 yX7_refuse wsX7_refuse) := goodIn_app (dg_c 18 rfl rfl (dg_c 19 rfl rfl (dg_c 20 rfl rfl (dg_c 5 rfl rfl dg_0)))) ggX7_freed_X7_refuse
set_option maxRecDepth 20000 in
theorem gl_X7_freed_X40 : GoodIn wsX7_freed wsX40 := (dg_t (dg_l (dg_r gw_wsX40)))
theorem ggX7_freed_X4_noBelief : GoodIn wsX7_freed wsX4_noBelief := (dg_c 27 rfl rfl (dg_c 28 rfl rfl (dg_c 29 rfl rfl (dg_c 30 rfl rfl (dg_c 31 rfl rfl (dg_c 26 rfl rfl (dg_c 32 rfl rfl (dg_c 33 rfl rfl (dg_c 34 rfl rfl (dg_c 35 rfl rfl (dg_c 36 rfl rfl (dg_c 37 rfl rfl (dg_c 38 rfl rfl (dg_c 39 rfl rfl (dg_c 40 rfl rfl (dg_c 41 rfl rfl (dg_c 42 rfl rfl (dg_c 43 rfl rfl (dg_c 44 rfl rfl (dg_c 45 rfl rfl (dg_c 46 rfl rfl (dg_c 9 rfl rfl (dg_c 5 rfl rfl (dg_c 10 rfl rfl gl_X7_freed_X40))))))))))))))))))))))))
set_option maxRecDepth 20000 in
theorem gX7_freed_X4_noBelief : GoodIn wsX7_freed (wsV RX7 220 RX4 yX4_noBelief wsX4_noBelief) := goodIn_app (dg_c 23 rfl rfl (dg_c 24 rfl rfl (dg_c 25 rfl rfl (dg_c 26 rfl rfl dg_0)))) ggX7_freed_X4_noBelief
set_option maxRecDepth 20000 in
theorem gl_X7_freed_X20 : GoodIn wsX7_freed wsX20 := (dg_t (dg_r gw_wsX20))
theorem ggX7_freed_X7_freedWeight : GoodIn wsX7_freed wsX7_freedWeight := (dg_c 50 rfl rfl (goodIn_app (goodIn_app (goodIn_app (goodIn_app (goodIn_app (dg_c 1 rfl rfl (dg_c 51 rfl rfl (dg_c 52 rfl rfl (dg_c 39 rfl rfl (dg_c 40 rfl rfl (dg_c 26 rfl rfl (dg_c 41 rfl rfl (dg_c 42 rfl rfl (dg_c 43 rfl rfl (dg_c 44 rfl rfl (dg_c 45 rfl rfl (dg_c 46 rfl rfl (dg_c 28 rfl rfl (dg_c 53 rfl rfl (dg_c 54 rfl rfl (dg_c 55 rfl rfl (dg_c 56 rfl rfl (dg_c 57 rfl rfl (dg_c 58 rfl rfl (dg_c 59 rfl rfl (dg_c 60 rfl rfl (dg_c 61 rfl rfl (dg_c 62 rfl rfl (dg_c 63 rfl rfl dg_0)))))))))))))))))))))))) (dg_c 64 rfl rfl (dg_c 65 rfl rfl (dg_c 66 rfl rfl (dg_c 67 rfl rfl (dg_c 68 rfl rfl (dg_c 69 rfl rfl (dg_c 70 rfl rfl dg_0)))))))) gl_X7_freed_X70) gl_X7_freed_X00) gl_X7_freed_X40) gl_X7_freed_X20))
set_option maxRecDepth 20000 in
theorem gX7_freed_X7_freedWeight : GoodIn wsX7_freed (wsV RX7 223 RX7 yX7_freedWeight wsX7_freedWeight) := goodIn_app (dg_c 47 rfl rfl (dg_c 48 rfl rfl (dg_c 49 rfl rfl (dg_c 5 rfl rfl dg_0)))) ggX7_freed_X7_freedWeight
theorem dX7_freed_0 : decode cX7_freed 0 = .ok (.aload_n 0, 1) := dq_42 dp_cX7_freed rfl
theorem dX7_freed_1 : decode cX7_freed 1 = .ok (.iload_n 1, 1) := dq_27 dp_cX7_freed rfl
theorem dX7_freed_2 : decode cX7_freed 2 = .ok (.invokevirtual 59, 3) := dq_182 dp_cX7_freed rfl
theorem dX7_freed_5 : decode cX7_freed 5 = .ok (.astore_n 3, 1) := dq_78 dp_cX7_freed rfl
theorem dX7_freed_6 : decode cX7_freed 6 = .ok (.aload_n 0, 1) := dq_42 dp_cX7_freed rfl
theorem dX7_freed_7 : decode cX7_freed 7 = .ok (.getfield 18, 3) := dq_180 dp_cX7_freed rfl
theorem dX7_freed_10 : decode cX7_freed 10 = .ok (.iload_n 2, 1) := dq_28 dp_cX7_freed rfl
theorem dX7_freed_11 : decode cX7_freed 11 = .ok (.invokevirtual 100, 3) := dq_182 dp_cX7_freed rfl
theorem dX7_freed_14 : decode cX7_freed 14 = .ok (.astore 4, 2) := dq_58 dp_cX7_freed rfl
theorem dX7_freed_16 : decode cX7_freed 16 = .ok (.aload_n 3, 1) := dq_45 dp_cX7_freed rfl
theorem dX7_freed_17 : decode cX7_freed 17 = .ok (.ifnull 8, 3) := dq_198 (v := 8) dp_cX7_freed rfl rfl
theorem dX7_freed_20 : decode cX7_freed 20 = .ok (.aload 4, 2) := dq_25 dp_cX7_freed rfl
theorem dX7_freed_22 : decode cX7_freed 22 = .ok (.ifnonnull 9, 3) := dq_199 (v := 9) dp_cX7_freed rfl rfl
theorem dX7_freed_25 : decode cX7_freed 25 = .ok (.aload_n 0, 1) := dq_42 dp_cX7_freed rfl
theorem dX7_freed_26 : decode cX7_freed 26 = .ok (.iconst 1, 1) := dq_4 dp_cX7_freed rfl
theorem dX7_freed_27 : decode cX7_freed 27 = .ok (.invokevirtual 63, 3) := dq_182 dp_cX7_freed rfl
theorem dX7_freed_30 : decode cX7_freed 30 = .ok (.ireturn, 1) := dq_172 dp_cX7_freed rfl
theorem dX7_freed_31 : decode cX7_freed 31 = .ok (.aload_n 3, 1) := dq_45 dp_cX7_freed rfl
theorem dX7_freed_32 : decode cX7_freed 32 = .ok (.invokevirtual 220, 3) := dq_182 dp_cX7_freed rfl
theorem dX7_freed_35 : decode cX7_freed 35 = .ok (.istore 5, 2) := dq_54 dp_cX7_freed rfl
theorem dX7_freed_37 : decode cX7_freed 37 = .ok (.iload 5, 2) := dq_21 dp_cX7_freed rfl
theorem dX7_freed_39 : decode cX7_freed 39 = .ok (.ifCond .eq 10, 3) := dq_153 (v := 10) dp_cX7_freed rfl rfl
theorem dX7_freed_42 : decode cX7_freed 42 = .ok (.aload_n 0, 1) := dq_42 dp_cX7_freed rfl
theorem dX7_freed_43 : decode cX7_freed 43 = .ok (.iload 5, 2) := dq_21 dp_cX7_freed rfl
theorem dX7_freed_45 : decode cX7_freed 45 = .ok (.invokevirtual 63, 3) := dq_182 dp_cX7_freed rfl
theorem dX7_freed_48 : decode cX7_freed 48 = .ok (.ireturn, 1) := dq_172 dp_cX7_freed rfl
theorem dX7_freed_49 : decode cX7_freed 49 = .ok (.aload_n 0, 1) := dq_42 dp_cX7_freed rfl
theorem dX7_freed_50 : decode cX7_freed 50 = .ok (.aload_n 3, 1) := dq_45 dp_cX7_freed rfl
theorem dX7_freed_51 : decode cX7_freed 51 = .ok (.aload 4, 2) := dq_25 dp_cX7_freed rfl
theorem dX7_freed_53 : decode cX7_freed 53 = .ok (.invokevirtual 223, 3) := dq_182 dp_cX7_freed rfl
theorem dX7_freed_56 : decode cX7_freed 56 = .ok (.ireturn, 1) := dq_172 dp_cX7_freed rfl
set_option maxRecDepth 20000 in
theorem gl_X7_best_X70 : GoodIn wsX7_best wsX70 := (dg_t (dg_l (dg_l (dg_l (dg_r gw_wsX70)))))
theorem ggX7_best_X7_shelfAt : GoodIn wsX7_best wsX7_shelfAt := (dg_c 7 rfl rfl (dg_c 8 rfl rfl (dg_c 9 rfl rfl (dg_c 10 rfl rfl (dg_c 6 rfl rfl (dg_c 11 rfl rfl gl_X7_best_X70))))))
set_option maxRecDepth 20000 in
theorem gX7_best_X7_shelfAt : GoodIn wsX7_best (wsV RX7 59 RX7 yX7_shelfAt wsX7_shelfAt) := goodIn_app (dg_c 3 rfl rfl (dg_c 4 rfl rfl (dg_c 5 rfl rfl (dg_c 6 rfl rfl dg_0)))) ggX7_best_X7_shelfAt
set_option maxRecDepth 20000 in
theorem ggX7_best_X7_refuseLower : GoodIn wsX7_best wsX7_refuseLower := (dg_c 15 rfl rfl (dg_c 16 rfl rfl (dg_c 17 rfl rfl (dg_c 18 rfl rfl (dg_c 6 rfl rfl (dg_c 19 rfl rfl (dg_c 20 rfl rfl (dg_c 9 rfl rfl (dg_c 10 rfl rfl (dg_c 11 rfl rfl gl_X7_best_X70))))))))))
set_option maxRecDepth 20000 in
theorem gX7_best_X7_refuseLower : GoodIn wsX7_best (wsV RX7 192 RX7 yX7_refuseLower wsX7_refuseLower) := goodIn_app (dg_c 12 rfl rfl (dg_c 13 rfl rfl (dg_c 14 rfl rfl (dg_c 6 rfl rfl dg_0)))) ggX7_best_X7_refuseLower
set_option maxRecDepth 20000 in
theorem gl_X7_best_X40 : GoodIn wsX7_best wsX40 := (dg_t (dg_l (dg_r gw_wsX40)))
theorem ggX7_best_X4_noBelief : GoodIn wsX7_best wsX4_noBelief := (dg_c 25 rfl rfl (dg_c 26 rfl rfl (dg_c 27 rfl rfl (dg_c 28 rfl rfl (dg_c 29 rfl rfl (dg_c 24 rfl rfl (dg_c 30 rfl rfl (dg_c 31 rfl rfl (dg_c 32 rfl rfl (dg_c 33 rfl rfl (dg_c 34 rfl rfl (dg_c 35 rfl rfl (dg_c 36 rfl rfl (dg_c 37 rfl rfl (dg_c 38 rfl rfl (dg_c 39 rfl rfl (dg_c 40 rfl rfl (dg_c 41 rfl rfl (dg_c 42 rfl rfl (dg_c 43 rfl rfl (dg_c 44 rfl rfl (dg_c 10 rfl rfl (dg_c 6 rfl rfl (dg_c 11 rfl rfl gl_X7_best_X40))))))))))))))))))))))))
set_option maxRecDepth 20000 in
theorem gX7_best_X4_noBelief : GoodIn wsX7_best (wsV RX7 220 RX4 yX4_noBelief wsX4_noBelief) := goodIn_app (dg_c 21 rfl rfl (dg_c 22 rfl rfl (dg_c 23 rfl rfl (dg_c 24 rfl rfl dg_0)))) ggX7_best_X4_noBelief
set_option maxRecDepth 20000 in
theorem gl_X7_best_X00 : GoodIn wsX7_best wsX00 := (dg_t (dg_l (dg_l (dg_r gw_wsX00))))
theorem ggX7_best_X0_pullAt : GoodIn wsX7_best wsX0_pullAt := (dg_c 49 rfl rfl (dg_c 50 rfl rfl (dg_c 51 rfl rfl (dg_c 10 rfl rfl (dg_c 6 rfl rfl (dg_c 11 rfl rfl gl_X7_best_X00))))))
set_option maxRecDepth 20000 in
theorem gX7_best_X0_pullAt : GoodIn wsX7_best (wsV RX7 100 RX0 yX0_pullAt wsX0_pullAt) := goodIn_app (dg_c 45 rfl rfl (dg_c 46 rfl rfl (dg_c 47 rfl rfl (dg_c 48 rfl rfl dg_0)))) ggX7_best_X0_pullAt
set_option maxRecDepth 20000 in
theorem gl_X7_best_X20 : GoodIn wsX7_best wsX20 := (dg_t (dg_r gw_wsX20))
theorem ggX7_best_X7_freedWeight : GoodIn wsX7_best wsX7_freedWeight := (dg_c 55 rfl rfl (goodIn_app (goodIn_app (goodIn_app (goodIn_app (goodIn_app (dg_c 1 rfl rfl (dg_c 56 rfl rfl (dg_c 57 rfl rfl (dg_c 37 rfl rfl (dg_c 38 rfl rfl (dg_c 24 rfl rfl (dg_c 39 rfl rfl (dg_c 40 rfl rfl (dg_c 41 rfl rfl (dg_c 42 rfl rfl (dg_c 43 rfl rfl (dg_c 44 rfl rfl (dg_c 26 rfl rfl (dg_c 58 rfl rfl (dg_c 59 rfl rfl (dg_c 60 rfl rfl (dg_c 61 rfl rfl (dg_c 62 rfl rfl (dg_c 63 rfl rfl (dg_c 64 rfl rfl (dg_c 65 rfl rfl (dg_c 66 rfl rfl (dg_c 67 rfl rfl (dg_c 68 rfl rfl dg_0)))))))))))))))))))))))) (dg_c 69 rfl rfl (dg_c 70 rfl rfl (dg_c 71 rfl rfl (dg_c 72 rfl rfl (dg_c 73 rfl rfl (dg_c 74 rfl rfl (dg_c 75 rfl rfl dg_0)))))))) gl_X7_best_X70) gl_X7_best_X00) gl_X7_best_X40) gl_X7_best_X20))
set_option maxRecDepth 20000 in
theorem gX7_best_X7_freedWeight : GoodIn wsX7_best (wsV RX7 223 RX7 yX7_freedWeight wsX7_freedWeight) := goodIn_app (dg_c 52 rfl rfl (dg_c 53 rfl rfl (dg_c 54 rfl rfl (dg_c 6 rfl rfl dg_0)))) ggX7_best_X7_freedWeight
theorem dX7_best_0 : decode cX7_best 0 = .ok (.aload_n 0, 1) := dq_42 dp_cX7_best rfl
theorem dX7_best_1 : decode cX7_best 1 = .ok (.iload_n 1, 1) := dq_27 dp_cX7_best rfl
theorem dX7_best_2 : decode cX7_best 2 = .ok (.invokevirtual 59, 3) := dq_182 dp_cX7_best rfl
theorem dX7_best_5 : decode cX7_best 5 = .ok (.astore_n 2, 1) := dq_77 dp_cX7_best rfl
theorem dX7_best_6 : decode cX7_best 6 = .ok (.aload_n 2, 1) := dq_44 dp_cX7_best rfl
theorem dX7_best_7 : decode cX7_best 7 = .ok (.ifnonnull 9, 3) := dq_199 (v := 9) dp_cX7_best rfl rfl
theorem dX7_best_10 : decode cX7_best 10 = .ok (.aload_n 0, 1) := dq_42 dp_cX7_best rfl
theorem dX7_best_11 : decode cX7_best 11 = .ok (.iconst 1, 1) := dq_4 dp_cX7_best rfl
theorem dX7_best_12 : decode cX7_best 12 = .ok (.invokevirtual 192, 3) := dq_182 dp_cX7_best rfl
theorem dX7_best_15 : decode cX7_best 15 = .ok (.ireturn, 1) := dq_172 dp_cX7_best rfl
theorem dX7_best_16 : decode cX7_best 16 = .ok (.aload_n 2, 1) := dq_44 dp_cX7_best rfl
theorem dX7_best_17 : decode cX7_best 17 = .ok (.invokevirtual 220, 3) := dq_182 dp_cX7_best rfl
theorem dX7_best_20 : decode cX7_best 20 = .ok (.istore_n 3, 1) := dq_62 dp_cX7_best rfl
theorem dX7_best_21 : decode cX7_best 21 = .ok (.iload_n 3, 1) := dq_29 dp_cX7_best rfl
theorem dX7_best_22 : decode cX7_best 22 = .ok (.ifCond .eq 9, 3) := dq_153 (v := 9) dp_cX7_best rfl rfl
theorem dX7_best_25 : decode cX7_best 25 = .ok (.aload_n 0, 1) := dq_42 dp_cX7_best rfl
theorem dX7_best_26 : decode cX7_best 26 = .ok (.iload_n 3, 1) := dq_29 dp_cX7_best rfl
theorem dX7_best_27 : decode cX7_best 27 = .ok (.invokevirtual 192, 3) := dq_182 dp_cX7_best rfl
theorem dX7_best_30 : decode cX7_best 30 = .ok (.ireturn, 1) := dq_172 dp_cX7_best rfl
theorem dX7_best_31 : decode cX7_best 31 = .ok (.iconst (-1), 1) := dq_2 dp_cX7_best rfl
theorem dX7_best_32 : decode cX7_best 32 = .ok (.istore 4, 2) := dq_54 dp_cX7_best rfl
theorem dX7_best_34 : decode cX7_best 34 = .ok (.iconst (-1), 1) := dq_2 dp_cX7_best rfl
theorem dX7_best_35 : decode cX7_best 35 = .ok (.istore 5, 2) := dq_54 dp_cX7_best rfl
theorem dX7_best_37 : decode cX7_best 37 = .ok (.iconst 0, 1) := dq_3 dp_cX7_best rfl
theorem dX7_best_38 : decode cX7_best 38 = .ok (.istore 6, 2) := dq_54 dp_cX7_best rfl
theorem dX7_best_40 : decode cX7_best 40 = .ok (.iload 6, 2) := dq_21 dp_cX7_best rfl
theorem dX7_best_42 : decode cX7_best 42 = .ok (.aload_n 0, 1) := dq_42 dp_cX7_best rfl
theorem dX7_best_43 : decode cX7_best 43 = .ok (.getfield 18, 3) := dq_180 dp_cX7_best rfl
theorem dX7_best_46 : decode cX7_best 46 = .ok (.getfield 123, 3) := dq_180 dp_cX7_best rfl
theorem dX7_best_49 : decode cX7_best 49 = .ok (.if_icmp .ge 53, 3) := dq_162 (v := 53) dp_cX7_best rfl rfl
theorem dX7_best_52 : decode cX7_best 52 = .ok (.aload_n 0, 1) := dq_42 dp_cX7_best rfl
theorem dX7_best_53 : decode cX7_best 53 = .ok (.getfield 18, 3) := dq_180 dp_cX7_best rfl
theorem dX7_best_56 : decode cX7_best 56 = .ok (.iload 6, 2) := dq_21 dp_cX7_best rfl
theorem dX7_best_58 : decode cX7_best 58 = .ok (.invokevirtual 100, 3) := dq_182 dp_cX7_best rfl
theorem dX7_best_61 : decode cX7_best 61 = .ok (.astore 7, 2) := dq_58 dp_cX7_best rfl
theorem dX7_best_63 : decode cX7_best 63 = .ok (.aload 7, 2) := dq_25 dp_cX7_best rfl
theorem dX7_best_65 : decode cX7_best 65 = .ok (.ifnonnull 7, 3) := dq_199 (v := 7) dp_cX7_best rfl rfl
theorem dX7_best_72 : decode cX7_best 72 = .ok (.aload_n 0, 1) := dq_42 dp_cX7_best rfl
theorem dX7_best_73 : decode cX7_best 73 = .ok (.aload_n 2, 1) := dq_44 dp_cX7_best rfl
theorem dX7_best_74 : decode cX7_best 74 = .ok (.aload 7, 2) := dq_25 dp_cX7_best rfl
theorem dX7_best_76 : decode cX7_best 76 = .ok (.invokevirtual 223, 3) := dq_182 dp_cX7_best rfl
theorem dX7_best_79 : decode cX7_best 79 = .ok (.istore 8, 2) := dq_54 dp_cX7_best rfl
theorem dX7_best_81 : decode cX7_best 81 = .ok (.iload 8, 2) := dq_21 dp_cX7_best rfl
theorem dX7_best_83 : decode cX7_best 83 = .ok (.iload 5, 2) := dq_21 dp_cX7_best rfl
theorem dX7_best_85 : decode cX7_best 85 = .ok (.if_icmp .le 11, 3) := dq_164 (v := 11) dp_cX7_best rfl rfl
theorem dX7_best_88 : decode cX7_best 88 = .ok (.iload 8, 2) := dq_21 dp_cX7_best rfl
theorem dX7_best_90 : decode cX7_best 90 = .ok (.istore 5, 2) := dq_54 dp_cX7_best rfl
theorem dX7_best_92 : decode cX7_best 92 = .ok (.iload 6, 2) := dq_21 dp_cX7_best rfl
theorem dX7_best_94 : decode cX7_best 94 = .ok (.istore 4, 2) := dq_54 dp_cX7_best rfl
theorem dX7_best_96 : decode cX7_best 96 = .ok (.iinc 6 1, 3) := dq_132 (v := 1) dp_cX7_best rfl (by decide) rfl
theorem dX7_best_99 : decode cX7_best 99 = .ok (.goto (-59), 3) := dq_167 (v := 65477) dp_cX7_best rfl rfl
theorem dX7_best_102 : decode cX7_best 102 = .ok (.iload 4, 2) := dq_21 dp_cX7_best rfl
theorem dX7_best_104 : decode cX7_best 104 = .ok (.ireturn, 1) := dq_172 dp_cX7_best rfl
set_option maxRecDepth 20000 in
theorem gl_X7_behind_X70 : GoodIn wsX7_behind wsX70 := (dg_t (dg_l (dg_l (dg_l (dg_r gw_wsX70)))))
theorem ggX7_behind_X7_shelfAt : GoodIn wsX7_behind wsX7_shelfAt := (dg_c 7 rfl rfl (dg_c 8 rfl rfl (dg_c 9 rfl rfl (dg_c 10 rfl rfl (dg_c 6 rfl rfl (dg_c 11 rfl rfl gl_X7_behind_X70))))))
set_option maxRecDepth 20000 in
theorem gX7_behind_X7_shelfAt : GoodIn wsX7_behind (wsV RX7 59 RX7 yX7_shelfAt wsX7_shelfAt) := goodIn_app (dg_c 3 rfl rfl (dg_c 4 rfl rfl (dg_c 5 rfl rfl (dg_c 6 rfl rfl dg_0)))) ggX7_behind_X7_shelfAt
set_option maxRecDepth 20000 in
theorem gl_X7_behind_X00 : GoodIn wsX7_behind wsX00 := (dg_t (dg_l (dg_l (dg_r gw_wsX00))))
theorem ggX7_behind_X0_pullAt : GoodIn wsX7_behind wsX0_pullAt := (dg_c 16 rfl rfl (dg_c 17 rfl rfl (dg_c 18 rfl rfl (dg_c 10 rfl rfl (dg_c 6 rfl rfl (dg_c 11 rfl rfl gl_X7_behind_X00))))))
set_option maxRecDepth 20000 in
theorem gX7_behind_X0_pullAt : GoodIn wsX7_behind (wsV RX7 100 RX0 yX0_pullAt wsX0_pullAt) := goodIn_app (dg_c 12 rfl rfl (dg_c 13 rfl rfl (dg_c 14 rfl rfl (dg_c 15 rfl rfl dg_0)))) ggX7_behind_X0_pullAt
set_option maxRecDepth 20000 in
theorem ggX7_behind_X7_refuse : GoodIn wsX7_behind wsX7_refuse := (dg_c 22 rfl rfl (dg_c 23 rfl rfl (dg_c 9 rfl rfl (dg_c 10 rfl rfl (dg_c 6 rfl rfl (dg_c 11 rfl rfl gl_X7_behind_X70))))))
set_option maxRecDepth 20000 in
theorem gX7_behind_X7_refuse : GoodIn wsX7_behind (wsV RX7 63 RX7 yX7_refuse wsX7_refuse) := goodIn_app (dg_c 19 rfl rfl (dg_c 20 rfl rfl (dg_c 21 rfl rfl (dg_c 6 rfl rfl dg_0)))) ggX7_behind_X7_refuse
set_option maxRecDepth 20000 in
theorem gl_X7_behind_X40 : GoodIn wsX7_behind wsX40 := (dg_t (dg_l (dg_r gw_wsX40)))
theorem ggX7_behind_X4_noBelief : GoodIn wsX7_behind wsX4_noBelief := (dg_c 28 rfl rfl (dg_c 29 rfl rfl (dg_c 30 rfl rfl (dg_c 31 rfl rfl (dg_c 32 rfl rfl (dg_c 27 rfl rfl (dg_c 33 rfl rfl (dg_c 34 rfl rfl (dg_c 35 rfl rfl (dg_c 36 rfl rfl (dg_c 37 rfl rfl (dg_c 38 rfl rfl (dg_c 39 rfl rfl (dg_c 40 rfl rfl (dg_c 41 rfl rfl (dg_c 42 rfl rfl (dg_c 43 rfl rfl (dg_c 44 rfl rfl (dg_c 45 rfl rfl (dg_c 46 rfl rfl (dg_c 47 rfl rfl (dg_c 10 rfl rfl (dg_c 6 rfl rfl (dg_c 11 rfl rfl gl_X7_behind_X40))))))))))))))))))))))))
set_option maxRecDepth 20000 in
theorem gX7_behind_X4_noBelief : GoodIn wsX7_behind (wsV RX7 220 RX4 yX4_noBelief wsX4_noBelief) := goodIn_app (dg_c 24 rfl rfl (dg_c 25 rfl rfl (dg_c 26 rfl rfl (dg_c 27 rfl rfl dg_0)))) ggX7_behind_X4_noBelief
set_option maxRecDepth 20000 in
theorem ggX7_behind_X7_within : GoodIn wsX7_behind wsX7_within := (dg_c 11 rfl rfl dg_0)
set_option maxRecDepth 20000 in
theorem gX7_behind_X7_within : GoodIn wsX7_behind (va_wsS RX7 67 yX7_within wsX7_within) := goodIn_app (dg_c 9 rfl rfl (dg_c 10 rfl rfl (dg_c 6 rfl rfl dg_0))) ggX7_behind_X7_within
set_option maxRecDepth 20000 in
theorem ggX7_behind_X4_tells : GoodIn wsX7_behind wsX4_tells := (dg_c 42 rfl rfl (dg_c 43 rfl rfl (dg_c 44 rfl rfl (dg_c 45 rfl rfl (dg_c 46 rfl rfl (dg_c 27 rfl rfl (dg_c 47 rfl rfl (dg_c 29 rfl rfl gl_X7_behind_X40))))))))
set_option maxRecDepth 20000 in
theorem gX7_behind_X4_tells : GoodIn wsX7_behind (wsV RX7 227 RX4 yX4_tells wsX4_tells) := goodIn_app (dg_c 48 rfl rfl (dg_c 40 rfl rfl (dg_c 41 rfl rfl (dg_c 27 rfl rfl dg_0)))) ggX7_behind_X4_tells
set_option maxRecDepth 20000 in
theorem gl_X7_behind_X20 : GoodIn wsX7_behind wsX20 := (dg_t (dg_r gw_wsX20))
theorem ggX7_behind_X2_waysAt : GoodIn wsX7_behind wsX2_waysAt := (dg_c 53 rfl rfl (dg_c 54 rfl rfl (dg_c 55 rfl rfl (dg_c 56 rfl rfl (dg_c 57 rfl rfl (dg_c 58 rfl rfl (dg_c 59 rfl rfl (dg_c 60 rfl rfl (dg_c 61 rfl rfl (dg_c 62 rfl rfl (dg_c 63 rfl rfl (dg_c 64 rfl rfl (dg_c 52 rfl rfl (dg_c 65 rfl rfl (dg_c 66 rfl rfl gl_X7_behind_X20)))))))))))))))
set_option maxRecDepth 20000 in
theorem gX7_behind_X2_waysAt : GoodIn wsX7_behind (wsV RX7 119 RX2 yX2_waysAt wsX2_waysAt) := goodIn_app (dg_c 49 rfl rfl (dg_c 50 rfl rfl (dg_c 51 rfl rfl (dg_c 52 rfl rfl dg_0)))) ggX7_behind_X2_waysAt
set_option maxRecDepth 20000 in
theorem ggX7_behind_X2_shallower : GoodIn wsX7_behind wsX2_shallower := (dg_c 70 rfl rfl (dg_c 59 rfl rfl (dg_c 60 rfl rfl (dg_c 57 rfl rfl (dg_c 61 rfl rfl (dg_c 71 rfl rfl (dg_c 72 rfl rfl (dg_c 73 rfl rfl (dg_c 52 rfl rfl (dg_c 74 rfl rfl (dg_c 54 rfl rfl (dg_c 66 rfl rfl gl_X7_behind_X20))))))))))))
set_option maxRecDepth 20000 in
theorem gX7_behind_X2_shallower : GoodIn wsX7_behind (wsV RX7 186 RX2 yX2_shallower wsX2_shallower) := goodIn_app (dg_c 67 rfl rfl (dg_c 68 rfl rfl (dg_c 69 rfl rfl (dg_c 52 rfl rfl dg_0)))) ggX7_behind_X2_shallower
set_option maxRecDepth 20000 in
theorem ggX7_behind_X2_deeper : GoodIn wsX7_behind wsX2_deeper := (dg_c 78 rfl rfl (dg_c 54 rfl rfl (dg_c 66 rfl rfl (dg_c 55 rfl rfl (dg_c 56 rfl rfl (dg_c 57 rfl rfl (dg_c 58 rfl rfl gl_X7_behind_X20)))))))
set_option maxRecDepth 20000 in
theorem gX7_behind_X2_deeper : GoodIn wsX7_behind (wsV RX7 189 RX2 yX2_deeper wsX2_deeper) := goodIn_app (dg_c 75 rfl rfl (dg_c 76 rfl rfl (dg_c 77 rfl rfl (dg_c 52 rfl rfl dg_0)))) ggX7_behind_X2_deeper
theorem dX7_behind_0 : decode cX7_behind 0 = .ok (.aload_n 0, 1) := dq_42 dp_cX7_behind rfl
theorem dX7_behind_1 : decode cX7_behind 1 = .ok (.iload_n 1, 1) := dq_27 dp_cX7_behind rfl
theorem dX7_behind_2 : decode cX7_behind 2 = .ok (.invokevirtual 59, 3) := dq_182 dp_cX7_behind rfl
theorem dX7_behind_5 : decode cX7_behind 5 = .ok (.astore 4, 2) := dq_58 dp_cX7_behind rfl
theorem dX7_behind_7 : decode cX7_behind 7 = .ok (.aload_n 0, 1) := dq_42 dp_cX7_behind rfl
theorem dX7_behind_8 : decode cX7_behind 8 = .ok (.getfield 18, 3) := dq_180 dp_cX7_behind rfl
theorem dX7_behind_11 : decode cX7_behind 11 = .ok (.iload_n 2, 1) := dq_28 dp_cX7_behind rfl
theorem dX7_behind_12 : decode cX7_behind 12 = .ok (.invokevirtual 100, 3) := dq_182 dp_cX7_behind rfl
theorem dX7_behind_15 : decode cX7_behind 15 = .ok (.astore 5, 2) := dq_58 dp_cX7_behind rfl
theorem dX7_behind_17 : decode cX7_behind 17 = .ok (.aload 4, 2) := dq_25 dp_cX7_behind rfl
theorem dX7_behind_19 : decode cX7_behind 19 = .ok (.ifnull 8, 3) := dq_198 (v := 8) dp_cX7_behind rfl rfl
theorem dX7_behind_22 : decode cX7_behind 22 = .ok (.aload 5, 2) := dq_25 dp_cX7_behind rfl
theorem dX7_behind_24 : decode cX7_behind 24 = .ok (.ifnonnull 9, 3) := dq_199 (v := 9) dp_cX7_behind rfl rfl
theorem dX7_behind_27 : decode cX7_behind 27 = .ok (.aload_n 0, 1) := dq_42 dp_cX7_behind rfl
theorem dX7_behind_28 : decode cX7_behind 28 = .ok (.iconst 1, 1) := dq_4 dp_cX7_behind rfl
theorem dX7_behind_29 : decode cX7_behind 29 = .ok (.invokevirtual 63, 3) := dq_182 dp_cX7_behind rfl
theorem dX7_behind_32 : decode cX7_behind 32 = .ok (.ireturn, 1) := dq_172 dp_cX7_behind rfl
theorem dX7_behind_33 : decode cX7_behind 33 = .ok (.aload 4, 2) := dq_25 dp_cX7_behind rfl
theorem dX7_behind_35 : decode cX7_behind 35 = .ok (.invokevirtual 220, 3) := dq_182 dp_cX7_behind rfl
theorem dX7_behind_38 : decode cX7_behind 38 = .ok (.istore 6, 2) := dq_54 dp_cX7_behind rfl
theorem dX7_behind_40 : decode cX7_behind 40 = .ok (.iload 6, 2) := dq_21 dp_cX7_behind rfl
theorem dX7_behind_42 : decode cX7_behind 42 = .ok (.ifCond .eq 10, 3) := dq_153 (v := 10) dp_cX7_behind rfl rfl
theorem dX7_behind_45 : decode cX7_behind 45 = .ok (.aload_n 0, 1) := dq_42 dp_cX7_behind rfl
theorem dX7_behind_46 : decode cX7_behind 46 = .ok (.iload 6, 2) := dq_21 dp_cX7_behind rfl
theorem dX7_behind_48 : decode cX7_behind 48 = .ok (.invokevirtual 63, 3) := dq_182 dp_cX7_behind rfl
theorem dX7_behind_51 : decode cX7_behind 51 = .ok (.ireturn, 1) := dq_172 dp_cX7_behind rfl
theorem dX7_behind_52 : decode cX7_behind 52 = .ok (.iload_n 3, 1) := dq_29 dp_cX7_behind rfl
theorem dX7_behind_53 : decode cX7_behind 53 = .ok (.iconst 0, 1) := dq_3 dp_cX7_behind rfl
theorem dX7_behind_54 : decode cX7_behind 54 = .ok (.bipush 24, 2) := dq_16 (v := 24) dp_cX7_behind rfl rfl
theorem dX7_behind_56 : decode cX7_behind 56 = .ok (.invokestatic 67, 3) := dq_184 dp_cX7_behind rfl
theorem dX7_behind_59 : decode cX7_behind 59 = .ok (.ifCond .ne 10, 3) := dq_154 (v := 10) dp_cX7_behind rfl rfl
theorem dX7_behind_62 : decode cX7_behind 62 = .ok (.aload_n 0, 1) := dq_42 dp_cX7_behind rfl
theorem dX7_behind_63 : decode cX7_behind 63 = .ok (.bipush 6, 2) := dq_16 (v := 6) dp_cX7_behind rfl rfl
theorem dX7_behind_65 : decode cX7_behind 65 = .ok (.invokevirtual 63, 3) := dq_182 dp_cX7_behind rfl
theorem dX7_behind_68 : decode cX7_behind 68 = .ok (.ireturn, 1) := dq_172 dp_cX7_behind rfl
theorem dX7_behind_69 : decode cX7_behind 69 = .ok (.iload_n 3, 1) := dq_29 dp_cX7_behind rfl
theorem dX7_behind_70 : decode cX7_behind 70 = .ok (.ifCond .ne 15, 3) := dq_154 (v := 15) dp_cX7_behind rfl rfl
theorem dX7_behind_73 : decode cX7_behind 73 = .ok (.aload 4, 2) := dq_25 dp_cX7_behind rfl
theorem dX7_behind_75 : decode cX7_behind 75 = .ok (.iconst 0, 1) := dq_3 dp_cX7_behind rfl
theorem dX7_behind_76 : decode cX7_behind 76 = .ok (.invokevirtual 227, 3) := dq_182 dp_cX7_behind rfl
theorem dX7_behind_79 : decode cX7_behind 79 = .ok (.bipush 12, 2) := dq_16 (v := 12) dp_cX7_behind rfl rfl
theorem dX7_behind_81 : decode cX7_behind 81 = .ok (.imul, 1) := dq_104 dp_cX7_behind rfl
theorem dX7_behind_82 : decode cX7_behind 82 = .ok (.goto 4, 3) := dq_167 (v := 4) dp_cX7_behind rfl rfl
theorem dX7_behind_85 : decode cX7_behind 85 = .ok (.iconst 0, 1) := dq_3 dp_cX7_behind rfl
theorem dX7_behind_86 : decode cX7_behind 86 = .ok (.istore 7, 2) := dq_54 dp_cX7_behind rfl
theorem dX7_behind_88 : decode cX7_behind 88 = .ok (.iconst 1, 1) := dq_4 dp_cX7_behind rfl
theorem dX7_behind_89 : decode cX7_behind 89 = .ok (.istore 8, 2) := dq_54 dp_cX7_behind rfl
theorem dX7_behind_91 : decode cX7_behind 91 = .ok (.iload 8, 2) := dq_21 dp_cX7_behind rfl
theorem dX7_behind_93 : decode cX7_behind 93 = .ok (.bipush 24, 2) := dq_16 (v := 24) dp_cX7_behind rfl rfl
theorem dX7_behind_95 : decode cX7_behind 95 = .ok (.if_icmp .gt 87, 3) := dq_163 (v := 87) dp_cX7_behind rfl rfl
theorem dX7_behind_98 : decode cX7_behind 98 = .ok (.aload 5, 2) := dq_25 dp_cX7_behind rfl
theorem dX7_behind_100 : decode cX7_behind 100 = .ok (.iload 8, 2) := dq_21 dp_cX7_behind rfl
theorem dX7_behind_102 : decode cX7_behind 102 = .ok (.aload_n 0, 1) := dq_42 dp_cX7_behind rfl
theorem dX7_behind_103 : decode cX7_behind 103 = .ok (.getfield 18, 3) := dq_180 dp_cX7_behind rfl
theorem dX7_behind_106 : decode cX7_behind 106 = .ok (.getfield 116, 3) := dq_180 dp_cX7_behind rfl
theorem dX7_behind_109 : decode cX7_behind 109 = .ok (.invokevirtual 119, 3) := dq_182 dp_cX7_behind rfl
theorem dX7_behind_112 : decode cX7_behind 112 = .ok (.istore 9, 2) := dq_54 dp_cX7_behind rfl
theorem dX7_behind_114 : decode cX7_behind 114 = .ok (.aload 5, 2) := dq_25 dp_cX7_behind rfl
theorem dX7_behind_116 : decode cX7_behind 116 = .ok (.iload 8, 2) := dq_21 dp_cX7_behind rfl
theorem dX7_behind_118 : decode cX7_behind 118 = .ok (.invokevirtual 186, 3) := dq_182 dp_cX7_behind rfl
theorem dX7_behind_121 : decode cX7_behind 121 = .ok (.iload_n 3, 1) := dq_29 dp_cX7_behind rfl
theorem dX7_behind_122 : decode cX7_behind 122 = .ok (.if_icmp .ne 18, 3) := dq_160 (v := 18) dp_cX7_behind rfl rfl
theorem dX7_behind_125 : decode cX7_behind 125 = .ok (.iload 7, 2) := dq_21 dp_cX7_behind rfl
theorem dX7_behind_127 : decode cX7_behind 127 = .ok (.aload 4, 2) := dq_25 dp_cX7_behind rfl
theorem dX7_behind_129 : decode cX7_behind 129 = .ok (.iload 8, 2) := dq_21 dp_cX7_behind rfl
theorem dX7_behind_131 : decode cX7_behind 131 = .ok (.invokevirtual 227, 3) := dq_182 dp_cX7_behind rfl
theorem dX7_behind_134 : decode cX7_behind 134 = .ok (.iload 9, 2) := dq_21 dp_cX7_behind rfl
theorem dX7_behind_136 : decode cX7_behind 136 = .ok (.imul, 1) := dq_104 dp_cX7_behind rfl
theorem dX7_behind_137 : decode cX7_behind 137 = .ok (.iadd, 1) := dq_96 dp_cX7_behind rfl
theorem dX7_behind_138 : decode cX7_behind 138 = .ok (.istore 7, 2) := dq_54 dp_cX7_behind rfl
theorem dX7_behind_140 : decode cX7_behind 140 = .ok (.aload 5, 2) := dq_25 dp_cX7_behind rfl
theorem dX7_behind_142 : decode cX7_behind 142 = .ok (.iload 8, 2) := dq_21 dp_cX7_behind rfl
theorem dX7_behind_144 : decode cX7_behind 144 = .ok (.aload_n 0, 1) := dq_42 dp_cX7_behind rfl
theorem dX7_behind_145 : decode cX7_behind 145 = .ok (.getfield 18, 3) := dq_180 dp_cX7_behind rfl
theorem dX7_behind_148 : decode cX7_behind 148 = .ok (.getfield 116, 3) := dq_180 dp_cX7_behind rfl
theorem dX7_behind_151 : decode cX7_behind 151 = .ok (.invokevirtual 189, 3) := dq_182 dp_cX7_behind rfl
theorem dX7_behind_154 : decode cX7_behind 154 = .ok (.iload_n 3, 1) := dq_29 dp_cX7_behind rfl
theorem dX7_behind_155 : decode cX7_behind 155 = .ok (.if_icmp .ne 21, 3) := dq_160 (v := 21) dp_cX7_behind rfl rfl
theorem dX7_behind_158 : decode cX7_behind 158 = .ok (.iload 7, 2) := dq_21 dp_cX7_behind rfl
theorem dX7_behind_160 : decode cX7_behind 160 = .ok (.aload 4, 2) := dq_25 dp_cX7_behind rfl
theorem dX7_behind_162 : decode cX7_behind 162 = .ok (.iload 8, 2) := dq_21 dp_cX7_behind rfl
theorem dX7_behind_164 : decode cX7_behind 164 = .ok (.invokevirtual 227, 3) := dq_182 dp_cX7_behind rfl
theorem dX7_behind_167 : decode cX7_behind 167 = .ok (.bipush 12, 2) := dq_16 (v := 12) dp_cX7_behind rfl rfl
theorem dX7_behind_169 : decode cX7_behind 169 = .ok (.iload 9, 2) := dq_21 dp_cX7_behind rfl
theorem dX7_behind_171 : decode cX7_behind 171 = .ok (.isub, 1) := dq_100 dp_cX7_behind rfl
theorem dX7_behind_172 : decode cX7_behind 172 = .ok (.imul, 1) := dq_104 dp_cX7_behind rfl
theorem dX7_behind_173 : decode cX7_behind 173 = .ok (.iadd, 1) := dq_96 dp_cX7_behind rfl
theorem dX7_behind_174 : decode cX7_behind 174 = .ok (.istore 7, 2) := dq_54 dp_cX7_behind rfl
theorem dX7_behind_176 : decode cX7_behind 176 = .ok (.iinc 8 1, 3) := dq_132 (v := 1) dp_cX7_behind rfl (by decide) rfl
theorem dX7_behind_179 : decode cX7_behind 179 = .ok (.goto (-88), 3) := dq_167 (v := 65448) dp_cX7_behind rfl rfl
theorem dX7_behind_182 : decode cX7_behind 182 = .ok (.iload 7, 2) := dq_21 dp_cX7_behind rfl
theorem dX7_behind_184 : decode cX7_behind 184 = .ok (.ireturn, 1) := dq_172 dp_cX7_behind rfl
set_option maxRecDepth 20000 in
theorem gl_X7_strong_X60 : GoodIn wsX7_strong wsX60 := (dg_t (dg_r gw_wsX60))
theorem ggX7_strong_X6_isStrong : GoodIn wsX7_strong wsX6_isStrong := (dg_c 7 rfl rfl (dg_c 8 rfl rfl (dg_c 9 rfl rfl (dg_c 10 rfl rfl (dg_c 11 rfl rfl (dg_c 6 rfl rfl (dg_c 12 rfl rfl (dg_c 13 rfl rfl (dg_c 14 rfl rfl (dg_c 15 rfl rfl (dg_c 16 rfl rfl (dg_c 17 rfl rfl (dg_c 18 rfl rfl (dg_c 19 rfl rfl (dg_c 20 rfl rfl (dg_c 21 rfl rfl gl_X7_strong_X60))))))))))))))))
set_option maxRecDepth 20000 in
theorem gX7_strong_X6_isStrong : GoodIn wsX7_strong (wsV RX7 230 RX6 yX6_isStrong wsX6_isStrong) := goodIn_app (dg_c 3 rfl rfl (dg_c 4 rfl rfl (dg_c 5 rfl rfl (dg_c 6 rfl rfl dg_0)))) ggX7_strong_X6_isStrong
set_option maxRecDepth 20000 in
theorem ggX7_strong_X6_frailTeeth : GoodIn wsX7_strong wsX6_frailTeeth := (dg_c 25 rfl rfl (dg_c 8 rfl rfl (dg_c 17 rfl rfl (dg_c 26 rfl rfl (dg_c 4 rfl rfl (dg_c 5 rfl rfl (dg_c 6 rfl rfl (dg_c 7 rfl rfl (dg_c 9 rfl rfl (dg_c 10 rfl rfl (dg_c 11 rfl rfl (dg_c 12 rfl rfl (dg_c 13 rfl rfl (dg_c 14 rfl rfl (dg_c 15 rfl rfl (dg_c 16 rfl rfl (dg_c 18 rfl rfl (dg_c 19 rfl rfl (dg_c 20 rfl rfl (dg_c 21 rfl rfl (dg_c 27 rfl rfl (dg_c 28 rfl rfl (dg_c 29 rfl rfl (dg_c 30 rfl rfl gl_X7_strong_X60))))))))))))))))))))))))
set_option maxRecDepth 20000 in
theorem gX7_strong_X6_frailTeeth : GoodIn wsX7_strong (wsV RX7 234 RX6 yX6_frailTeeth wsX6_frailTeeth) := goodIn_app (dg_c 22 rfl rfl (dg_c 23 rfl rfl (dg_c 24 rfl rfl (dg_c 6 rfl rfl dg_0)))) ggX7_strong_X6_frailTeeth
set_option maxRecDepth 20000 in
theorem ggX7_strong_X6_spareTeeth : GoodIn wsX7_strong wsX6_spareTeeth := (dg_c 34 rfl rfl (dg_c 8 rfl rfl (dg_c 17 rfl rfl (dg_c 35 rfl rfl (dg_c 36 rfl rfl (dg_c 37 rfl rfl (dg_c 38 rfl rfl (dg_c 26 rfl rfl (dg_c 4 rfl rfl (dg_c 5 rfl rfl (dg_c 6 rfl rfl (dg_c 7 rfl rfl (dg_c 9 rfl rfl (dg_c 10 rfl rfl (dg_c 11 rfl rfl (dg_c 12 rfl rfl (dg_c 13 rfl rfl (dg_c 14 rfl rfl (dg_c 15 rfl rfl (dg_c 16 rfl rfl (dg_c 18 rfl rfl (dg_c 19 rfl rfl (dg_c 20 rfl rfl (dg_c 21 rfl rfl gl_X7_strong_X60))))))))))))))))))))))))
set_option maxRecDepth 20000 in
theorem gX7_strong_X6_spareTeeth : GoodIn wsX7_strong (wsV RX7 237 RX6 yX6_spareTeeth wsX6_spareTeeth) := goodIn_app (dg_c 31 rfl rfl (dg_c 32 rfl rfl (dg_c 33 rfl rfl (dg_c 6 rfl rfl dg_0)))) ggX7_strong_X6_spareTeeth
set_option maxRecDepth 20000 in
theorem ggX7_strong_X6_lackingTeeth : GoodIn wsX7_strong wsX6_lackingTeeth := (dg_c 42 rfl rfl (dg_c 8 rfl rfl (dg_c 17 rfl rfl gl_X7_strong_X60)))
set_option maxRecDepth 20000 in
theorem gX7_strong_X6_lackingTeeth : GoodIn wsX7_strong (wsV RX7 240 RX6 yX6_lackingTeeth wsX6_lackingTeeth) := goodIn_app (dg_c 39 rfl rfl (dg_c 40 rfl rfl (dg_c 41 rfl rfl (dg_c 6 rfl rfl dg_0)))) ggX7_strong_X6_lackingTeeth
set_option maxRecDepth 20000 in
theorem gl_X7_strong_X70 : GoodIn wsX7_strong wsX70 := (dg_t (dg_l (dg_l (dg_r gw_wsX70))))
theorem ggX7_strong_X7_refuse : GoodIn wsX7_strong wsX7_refuse := (dg_c 47 rfl rfl (dg_c 48 rfl rfl (dg_c 49 rfl rfl (dg_c 50 rfl rfl (dg_c 46 rfl rfl (dg_c 51 rfl rfl gl_X7_strong_X70))))))
set_option maxRecDepth 20000 in
theorem gX7_strong_X7_refuse : GoodIn wsX7_strong (wsV RX7 63 RX7 yX7_refuse wsX7_refuse) := goodIn_app (dg_c 43 rfl rfl (dg_c 44 rfl rfl (dg_c 45 rfl rfl (dg_c 46 rfl rfl dg_0)))) ggX7_strong_X7_refuse
theorem dX7_strong_0 : decode cX7_strong 0 = .ok (.iload_n 1, 1) := dq_27 dp_cX7_strong rfl
theorem dX7_strong_1 : decode cX7_strong 1 = .ok (.tableswitch 83 0 3 #[31, 50, 61, 72], 31) := by decide +kernel
theorem dX7_strong_32 : decode cX7_strong 32 = .ok (.aload_n 0, 1) := dq_42 dp_cX7_strong rfl
theorem dX7_strong_33 : decode cX7_strong 33 = .ok (.getfield 18, 3) := dq_180 dp_cX7_strong rfl
theorem dX7_strong_36 : decode cX7_strong 36 = .ok (.getfield 140, 3) := dq_180 dp_cX7_strong rfl
theorem dX7_strong_39 : decode cX7_strong 39 = .ok (.invokevirtual 230, 3) := dq_182 dp_cX7_strong rfl
theorem dX7_strong_42 : decode cX7_strong 42 = .ok (.ifCond .eq 7, 3) := dq_153 (v := 7) dp_cX7_strong rfl rfl
theorem dX7_strong_45 : decode cX7_strong 45 = .ok (.iconst 1, 1) := dq_4 dp_cX7_strong rfl
theorem dX7_strong_46 : decode cX7_strong 46 = .ok (.goto 4, 3) := dq_167 (v := 4) dp_cX7_strong rfl rfl
theorem dX7_strong_49 : decode cX7_strong 49 = .ok (.iconst 0, 1) := dq_3 dp_cX7_strong rfl
theorem dX7_strong_50 : decode cX7_strong 50 = .ok (.ireturn, 1) := dq_172 dp_cX7_strong rfl
theorem dX7_strong_51 : decode cX7_strong 51 = .ok (.aload_n 0, 1) := dq_42 dp_cX7_strong rfl
theorem dX7_strong_52 : decode cX7_strong 52 = .ok (.getfield 18, 3) := dq_180 dp_cX7_strong rfl
theorem dX7_strong_55 : decode cX7_strong 55 = .ok (.getfield 140, 3) := dq_180 dp_cX7_strong rfl
theorem dX7_strong_58 : decode cX7_strong 58 = .ok (.invokevirtual 234, 3) := dq_182 dp_cX7_strong rfl
theorem dX7_strong_61 : decode cX7_strong 61 = .ok (.ireturn, 1) := dq_172 dp_cX7_strong rfl
theorem dX7_strong_62 : decode cX7_strong 62 = .ok (.aload_n 0, 1) := dq_42 dp_cX7_strong rfl
theorem dX7_strong_63 : decode cX7_strong 63 = .ok (.getfield 18, 3) := dq_180 dp_cX7_strong rfl
theorem dX7_strong_66 : decode cX7_strong 66 = .ok (.getfield 140, 3) := dq_180 dp_cX7_strong rfl
theorem dX7_strong_69 : decode cX7_strong 69 = .ok (.invokevirtual 237, 3) := dq_182 dp_cX7_strong rfl
theorem dX7_strong_72 : decode cX7_strong 72 = .ok (.ireturn, 1) := dq_172 dp_cX7_strong rfl
theorem dX7_strong_73 : decode cX7_strong 73 = .ok (.aload_n 0, 1) := dq_42 dp_cX7_strong rfl
theorem dX7_strong_74 : decode cX7_strong 74 = .ok (.getfield 18, 3) := dq_180 dp_cX7_strong rfl
theorem dX7_strong_77 : decode cX7_strong 77 = .ok (.getfield 140, 3) := dq_180 dp_cX7_strong rfl
theorem dX7_strong_80 : decode cX7_strong 80 = .ok (.invokevirtual 240, 3) := dq_182 dp_cX7_strong rfl
theorem dX7_strong_83 : decode cX7_strong 83 = .ok (.ireturn, 1) := dq_172 dp_cX7_strong rfl
theorem dX7_strong_84 : decode cX7_strong 84 = .ok (.aload_n 0, 1) := dq_42 dp_cX7_strong rfl
theorem dX7_strong_85 : decode cX7_strong 85 = .ok (.iconst 5, 1) := dq_8 dp_cX7_strong rfl
theorem dX7_strong_86 : decode cX7_strong 86 = .ok (.invokevirtual 63, 3) := dq_182 dp_cX7_strong rfl
theorem dX7_strong_89 : decode cX7_strong 89 = .ok (.ireturn, 1) := dq_172 dp_cX7_strong rfl
set_option maxRecDepth 20000 in
theorem gl_X7_catches_X60 : GoodIn wsX7_catches wsX60 := (dg_t (dg_r gw_wsX60))
theorem ggX7_catches_X6_catchingTeeth : GoodIn wsX7_catches wsX6_catchingTeeth := (dg_c 7 rfl rfl (dg_c 8 rfl rfl (dg_c 9 rfl rfl (dg_c 10 rfl rfl (dg_c 11 rfl rfl (dg_c 6 rfl rfl (dg_c 12 rfl rfl (dg_c 13 rfl rfl (dg_c 14 rfl rfl (dg_c 15 rfl rfl (dg_c 16 rfl rfl (dg_c 17 rfl rfl (dg_c 18 rfl rfl (dg_c 19 rfl rfl gl_X7_catches_X60))))))))))))))
set_option maxRecDepth 20000 in
theorem gX7_catches_X6_catchingTeeth : GoodIn wsX7_catches (wsV RX7 243 RX6 yX6_catchingTeeth wsX6_catchingTeeth) := goodIn_app (dg_c 3 rfl rfl (dg_c 4 rfl rfl (dg_c 5 rfl rfl (dg_c 6 rfl rfl dg_0)))) ggX7_catches_X6_catchingTeeth
set_option maxRecDepth 20000 in
theorem gl_X7_catches_X70 : GoodIn wsX7_catches wsX70 := (dg_t (dg_l (dg_l (dg_r gw_wsX70))))
theorem ggX7_catches_X7_refuse : GoodIn wsX7_catches wsX7_refuse := (dg_c 24 rfl rfl (dg_c 25 rfl rfl (dg_c 26 rfl rfl (dg_c 27 rfl rfl (dg_c 23 rfl rfl (dg_c 28 rfl rfl gl_X7_catches_X70))))))
set_option maxRecDepth 20000 in
theorem gX7_catches_X7_refuse : GoodIn wsX7_catches (wsV RX7 63 RX7 yX7_refuse wsX7_refuse) := goodIn_app (dg_c 20 rfl rfl (dg_c 21 rfl rfl (dg_c 22 rfl rfl (dg_c 23 rfl rfl dg_0)))) ggX7_catches_X7_refuse
theorem dX7_catches_0 : decode cX7_catches 0 = .ok (.aload_n 0, 1) := dq_42 dp_cX7_catches rfl
theorem dX7_catches_1 : decode cX7_catches 1 = .ok (.getfield 18, 3) := dq_180 dp_cX7_catches rfl
theorem dX7_catches_4 : decode cX7_catches 4 = .ok (.getfield 140, 3) := dq_180 dp_cX7_catches rfl
theorem dX7_catches_7 : decode cX7_catches 7 = .ok (.iload_n 1, 1) := dq_27 dp_cX7_catches rfl
theorem dX7_catches_8 : decode cX7_catches 8 = .ok (.invokevirtual 243, 3) := dq_182 dp_cX7_catches rfl
theorem dX7_catches_11 : decode cX7_catches 11 = .ok (.istore_n 2, 1) := dq_61 dp_cX7_catches rfl
theorem dX7_catches_12 : decode cX7_catches 12 = .ok (.iload_n 2, 1) := dq_28 dp_cX7_catches rfl
theorem dX7_catches_13 : decode cX7_catches 13 = .ok (.iconst (-1), 1) := dq_2 dp_cX7_catches rfl
theorem dX7_catches_14 : decode cX7_catches 14 = .ok (.if_icmp .ne 11, 3) := dq_160 (v := 11) dp_cX7_catches rfl rfl
theorem dX7_catches_17 : decode cX7_catches 17 = .ok (.aload_n 0, 1) := dq_42 dp_cX7_catches rfl
theorem dX7_catches_18 : decode cX7_catches 18 = .ok (.iconst 5, 1) := dq_8 dp_cX7_catches rfl
theorem dX7_catches_19 : decode cX7_catches 19 = .ok (.invokevirtual 63, 3) := dq_182 dp_cX7_catches rfl
theorem dX7_catches_22 : decode cX7_catches 22 = .ok (.goto 4, 3) := dq_167 (v := 4) dp_cX7_catches rfl rfl
theorem dX7_catches_25 : decode cX7_catches 25 = .ok (.iload_n 2, 1) := dq_28 dp_cX7_catches rfl
theorem dX7_catches_26 : decode cX7_catches 26 = .ok (.ireturn, 1) := dq_172 dp_cX7_catches rfl
set_option maxRecDepth 20000 in
theorem gl_X7_stitches_X60 : GoodIn wsX7_stitches wsX60 := (dg_t (dg_r gw_wsX60))
theorem ggX7_stitches_X6_stitchesNeeded : GoodIn wsX7_stitches wsX6_stitchesNeeded := (dg_c 7 rfl rfl (dg_c 8 rfl rfl (dg_c 9 rfl rfl (dg_c 10 rfl rfl (dg_c 11 rfl rfl (dg_c 12 rfl rfl (dg_c 13 rfl rfl (dg_c 14 rfl rfl (dg_c 15 rfl rfl (dg_c 6 rfl rfl (dg_c 16 rfl rfl (dg_c 17 rfl rfl (dg_c 18 rfl rfl (dg_c 19 rfl rfl (dg_c 20 rfl rfl (dg_c 21 rfl rfl (dg_c 22 rfl rfl (dg_c 23 rfl rfl gl_X7_stitches_X60))))))))))))))))))
set_option maxRecDepth 20000 in
theorem gX7_stitches_X6_stitchesNeeded : GoodIn wsX7_stitches (wsV RX7 246 RX6 yX6_stitchesNeeded wsX6_stitchesNeeded) := goodIn_app (dg_c 3 rfl rfl (dg_c 4 rfl rfl (dg_c 5 rfl rfl (dg_c 6 rfl rfl dg_0)))) ggX7_stitches_X6_stitchesNeeded
set_option maxRecDepth 20000 in
theorem gl_X7_stitches_X70 : GoodIn wsX7_stitches wsX70 := (dg_t (dg_l (dg_l (dg_r gw_wsX70))))
theorem ggX7_stitches_X7_refuse : GoodIn wsX7_stitches wsX7_refuse := (dg_c 28 rfl rfl (dg_c 29 rfl rfl (dg_c 30 rfl rfl (dg_c 31 rfl rfl (dg_c 27 rfl rfl (dg_c 32 rfl rfl gl_X7_stitches_X70))))))
set_option maxRecDepth 20000 in
theorem gX7_stitches_X7_refuse : GoodIn wsX7_stitches (wsV RX7 63 RX7 yX7_refuse wsX7_refuse) := goodIn_app (dg_c 24 rfl rfl (dg_c 25 rfl rfl (dg_c 26 rfl rfl (dg_c 27 rfl rfl dg_0)))) ggX7_stitches_X7_refuse
theorem dX7_stitches_0 : decode cX7_stitches 0 = .ok (.aload_n 0, 1) := dq_42 dp_cX7_stitches rfl
theorem dX7_stitches_1 : decode cX7_stitches 1 = .ok (.getfield 18, 3) := dq_180 dp_cX7_stitches rfl
theorem dX7_stitches_4 : decode cX7_stitches 4 = .ok (.getfield 140, 3) := dq_180 dp_cX7_stitches rfl
theorem dX7_stitches_7 : decode cX7_stitches 7 = .ok (.iload_n 1, 1) := dq_27 dp_cX7_stitches rfl
theorem dX7_stitches_8 : decode cX7_stitches 8 = .ok (.invokevirtual 246, 3) := dq_182 dp_cX7_stitches rfl
theorem dX7_stitches_11 : decode cX7_stitches 11 = .ok (.istore_n 2, 1) := dq_61 dp_cX7_stitches rfl
theorem dX7_stitches_12 : decode cX7_stitches 12 = .ok (.iload_n 2, 1) := dq_28 dp_cX7_stitches rfl
theorem dX7_stitches_13 : decode cX7_stitches 13 = .ok (.iconst (-1), 1) := dq_2 dp_cX7_stitches rfl
theorem dX7_stitches_14 : decode cX7_stitches 14 = .ok (.if_icmp .ne 11, 3) := dq_160 (v := 11) dp_cX7_stitches rfl rfl
theorem dX7_stitches_17 : decode cX7_stitches 17 = .ok (.aload_n 0, 1) := dq_42 dp_cX7_stitches rfl
theorem dX7_stitches_18 : decode cX7_stitches 18 = .ok (.iconst 5, 1) := dq_8 dp_cX7_stitches rfl
theorem dX7_stitches_19 : decode cX7_stitches 19 = .ok (.invokevirtual 63, 3) := dq_182 dp_cX7_stitches rfl
theorem dX7_stitches_22 : decode cX7_stitches 22 = .ok (.goto 4, 3) := dq_167 (v := 4) dp_cX7_stitches rfl rfl
theorem dX7_stitches_25 : decode cX7_stitches 25 = .ok (.iload_n 2, 1) := dq_28 dp_cX7_stitches rfl
theorem dX7_stitches_26 : decode cX7_stitches 26 = .ok (.ireturn, 1) := dq_172 dp_cX7_stitches rfl
set_option maxRecDepth 20000 in
theorem gl_X7_judge_X70 : GoodIn wsX7_judge wsX70 := (dg_t (dg_l (dg_l (dg_l (dg_r gw_wsX70)))))
theorem ggX7_judge_X7_shelfAt : GoodIn wsX7_judge wsX7_shelfAt := (dg_c 5 rfl rfl (dg_c 6 rfl rfl (dg_c 7 rfl rfl (dg_c 8 rfl rfl (dg_c 4 rfl rfl (dg_c 9 rfl rfl gl_X7_judge_X70))))))
set_option maxRecDepth 20000 in
theorem gX7_judge_X7_shelfAt : GoodIn wsX7_judge (wsV RX7 59 RX7 yX7_shelfAt wsX7_shelfAt) := goodIn_app (dg_c 1 rfl rfl (dg_c 2 rfl rfl (dg_c 3 rfl rfl (dg_c 4 rfl rfl dg_0)))) ggX7_judge_X7_shelfAt
set_option maxRecDepth 20000 in
theorem ggX7_judge_X7_refuseLower : GoodIn wsX7_judge wsX7_refuseLower := (dg_c 13 rfl rfl (dg_c 14 rfl rfl (dg_c 15 rfl rfl (dg_c 16 rfl rfl (dg_c 4 rfl rfl (dg_c 17 rfl rfl (dg_c 18 rfl rfl (dg_c 7 rfl rfl (dg_c 8 rfl rfl (dg_c 9 rfl rfl gl_X7_judge_X70))))))))))
set_option maxRecDepth 20000 in
theorem gX7_judge_X7_refuseLower : GoodIn wsX7_judge (wsV RX7 192 RX7 yX7_refuseLower wsX7_refuseLower) := goodIn_app (dg_c 10 rfl rfl (dg_c 11 rfl rfl (dg_c 12 rfl rfl (dg_c 4 rfl rfl dg_0)))) ggX7_judge_X7_refuseLower
set_option maxRecDepth 20000 in
theorem gl_X7_judge_X40 : GoodIn wsX7_judge wsX40 := (dg_t (dg_l (dg_l (dg_r gw_wsX40))))
theorem ggX7_judge_X4_noTelling : GoodIn wsX7_judge wsX4_noTelling := (dg_c 23 rfl rfl (dg_c 24 rfl rfl (dg_c 25 rfl rfl (dg_c 26 rfl rfl (dg_c 27 rfl rfl (dg_c 22 rfl rfl (dg_c 28 rfl rfl (dg_c 29 rfl rfl gl_X7_judge_X40))))))))
set_option maxRecDepth 20000 in
theorem gX7_judge_X4_noTelling : GoodIn wsX7_judge (wsV RX7 249 RX4 yX4_noTelling wsX4_noTelling) := goodIn_app (dg_c 19 rfl rfl (dg_c 20 rfl rfl (dg_c 21 rfl rfl (dg_c 22 rfl rfl dg_0)))) ggX7_judge_X4_noTelling
set_option maxRecDepth 20000 in
theorem gl_X7_judge_X00 : GoodIn wsX7_judge wsX00 := (dg_t (dg_l (dg_r gw_wsX00)))
theorem gl_X7_judge_X20 : GoodIn wsX7_judge wsX20 := (dg_t (dg_r gw_wsX20))
theorem ggX7_judge_X7_firstWrong : GoodIn wsX7_judge wsX7_firstWrong := (dg_c 33 rfl rfl (goodIn_app (goodIn_app (goodIn_app (goodIn_app (goodIn_app (dg_c 34 rfl rfl (dg_c 35 rfl rfl (dg_c 36 rfl rfl (dg_c 37 rfl rfl (dg_c 38 rfl rfl (dg_c 39 rfl rfl (dg_c 40 rfl rfl (dg_c 41 rfl rfl (dg_c 22 rfl rfl (dg_c 42 rfl rfl (dg_c 43 rfl rfl (dg_c 44 rfl rfl (dg_c 45 rfl rfl (dg_c 46 rfl rfl (dg_c 47 rfl rfl (dg_c 24 rfl rfl (dg_c 48 rfl rfl (dg_c 49 rfl rfl (dg_c 50 rfl rfl (dg_c 51 rfl rfl (dg_c 52 rfl rfl (dg_c 53 rfl rfl (dg_c 54 rfl rfl (dg_c 8 rfl rfl dg_0)))))))))))))))))))))))) (goodIn_app (dg_c 4 rfl rfl (dg_c 9 rfl rfl (dg_c 55 rfl rfl (dg_c 56 rfl rfl (dg_c 57 rfl rfl (dg_c 58 rfl rfl (dg_c 59 rfl rfl (dg_c 60 rfl rfl (dg_c 61 rfl rfl (dg_c 62 rfl rfl (dg_c 63 rfl rfl (dg_c 64 rfl rfl (dg_c 65 rfl rfl (dg_c 66 rfl rfl (dg_c 67 rfl rfl (dg_c 68 rfl rfl (dg_c 69 rfl rfl (dg_c 70 rfl rfl (dg_c 71 rfl rfl (dg_c 72 rfl rfl (dg_c 73 rfl rfl (dg_c 74 rfl rfl (dg_c 75 rfl rfl (dg_c 76 rfl rfl dg_0)))))))))))))))))))))))) (dg_c 77 rfl rfl (dg_c 78 rfl rfl (dg_c 79 rfl rfl (dg_c 80 rfl rfl (dg_c 81 rfl rfl (dg_c 82 rfl rfl (dg_c 83 rfl rfl (dg_c 84 rfl rfl (dg_c 85 rfl rfl (dg_c 86 rfl rfl (dg_c 87 rfl rfl (dg_c 88 rfl rfl (dg_c 89 rfl rfl dg_0))))))))))))))) gl_X7_judge_X70) gl_X7_judge_X00) gl_X7_judge_X20) gl_X7_judge_X40))
set_option maxRecDepth 20000 in
theorem gX7_judge_X7_firstWrong : GoodIn wsX7_judge (wsV RX7 252 RX7 yX7_firstWrong wsX7_firstWrong) := goodIn_app (dg_c 30 rfl rfl (dg_c 31 rfl rfl (dg_c 32 rfl rfl (dg_c 4 rfl rfl dg_0)))) ggX7_judge_X7_firstWrong
theorem dX7_judge_0 : decode cX7_judge 0 = .ok (.aload_n 0, 1) := dq_42 dp_cX7_judge rfl
theorem dX7_judge_1 : decode cX7_judge 1 = .ok (.iload_n 1, 1) := dq_27 dp_cX7_judge rfl
theorem dX7_judge_2 : decode cX7_judge 2 = .ok (.invokevirtual 59, 3) := dq_182 dp_cX7_judge rfl
theorem dX7_judge_5 : decode cX7_judge 5 = .ok (.astore_n 3, 1) := dq_78 dp_cX7_judge rfl
theorem dX7_judge_6 : decode cX7_judge 6 = .ok (.aload_n 3, 1) := dq_45 dp_cX7_judge rfl
theorem dX7_judge_7 : decode cX7_judge 7 = .ok (.ifnonnull 9, 3) := dq_199 (v := 9) dp_cX7_judge rfl rfl
theorem dX7_judge_10 : decode cX7_judge 10 = .ok (.aload_n 0, 1) := dq_42 dp_cX7_judge rfl
theorem dX7_judge_11 : decode cX7_judge 11 = .ok (.iconst 1, 1) := dq_4 dp_cX7_judge rfl
theorem dX7_judge_12 : decode cX7_judge 12 = .ok (.invokevirtual 192, 3) := dq_182 dp_cX7_judge rfl
theorem dX7_judge_15 : decode cX7_judge 15 = .ok (.ireturn, 1) := dq_172 dp_cX7_judge rfl
theorem dX7_judge_16 : decode cX7_judge 16 = .ok (.aload_n 3, 1) := dq_45 dp_cX7_judge rfl
theorem dX7_judge_17 : decode cX7_judge 17 = .ok (.iload_n 2, 1) := dq_28 dp_cX7_judge rfl
theorem dX7_judge_18 : decode cX7_judge 18 = .ok (.invokevirtual 249, 3) := dq_182 dp_cX7_judge rfl
theorem dX7_judge_21 : decode cX7_judge 21 = .ok (.istore 4, 2) := dq_54 dp_cX7_judge rfl
theorem dX7_judge_23 : decode cX7_judge 23 = .ok (.iload 4, 2) := dq_21 dp_cX7_judge rfl
theorem dX7_judge_25 : decode cX7_judge 25 = .ok (.ifCond .eq 10, 3) := dq_153 (v := 10) dp_cX7_judge rfl rfl
theorem dX7_judge_28 : decode cX7_judge 28 = .ok (.aload_n 0, 1) := dq_42 dp_cX7_judge rfl
theorem dX7_judge_29 : decode cX7_judge 29 = .ok (.iload 4, 2) := dq_21 dp_cX7_judge rfl
theorem dX7_judge_31 : decode cX7_judge 31 = .ok (.invokevirtual 192, 3) := dq_182 dp_cX7_judge rfl
theorem dX7_judge_34 : decode cX7_judge 34 = .ok (.ireturn, 1) := dq_172 dp_cX7_judge rfl
theorem dX7_judge_35 : decode cX7_judge 35 = .ok (.iload_n 2, 1) := dq_28 dp_cX7_judge rfl
theorem dX7_judge_36 : decode cX7_judge 36 = .ok (.bipush 20, 2) := dq_16 (v := 20) dp_cX7_judge rfl rfl
theorem dX7_judge_38 : decode cX7_judge 38 = .ok (.if_icmp .le 10, 3) := dq_164 (v := 10) dp_cX7_judge rfl rfl
theorem dX7_judge_41 : decode cX7_judge 41 = .ok (.aload_n 0, 1) := dq_42 dp_cX7_judge rfl
theorem dX7_judge_42 : decode cX7_judge 42 = .ok (.bipush 6, 2) := dq_16 (v := 6) dp_cX7_judge rfl rfl
theorem dX7_judge_44 : decode cX7_judge 44 = .ok (.invokevirtual 192, 3) := dq_182 dp_cX7_judge rfl
theorem dX7_judge_47 : decode cX7_judge 47 = .ok (.ireturn, 1) := dq_172 dp_cX7_judge rfl
theorem dX7_judge_48 : decode cX7_judge 48 = .ok (.aload_n 0, 1) := dq_42 dp_cX7_judge rfl
theorem dX7_judge_49 : decode cX7_judge 49 = .ok (.aload_n 3, 1) := dq_45 dp_cX7_judge rfl
theorem dX7_judge_50 : decode cX7_judge 50 = .ok (.iload_n 2, 1) := dq_28 dp_cX7_judge rfl
theorem dX7_judge_51 : decode cX7_judge 51 = .ok (.invokevirtual 252, 3) := dq_182 dp_cX7_judge rfl
theorem dX7_judge_54 : decode cX7_judge 54 = .ok (.ireturn, 1) := dq_172 dp_cX7_judge rfl
set_option maxRecDepth 20000 in
theorem gl_X7_meant_X70 : GoodIn wsX7_meant wsX70 := (dg_t (dg_l (dg_l (dg_l (dg_r gw_wsX70)))))
theorem ggX7_meant_X7_shelfAt : GoodIn wsX7_meant wsX7_shelfAt := (dg_c 7 rfl rfl (dg_c 8 rfl rfl (dg_c 9 rfl rfl (dg_c 10 rfl rfl (dg_c 6 rfl rfl (dg_c 11 rfl rfl gl_X7_meant_X70))))))
set_option maxRecDepth 20000 in
theorem gX7_meant_X7_shelfAt : GoodIn wsX7_meant (wsV RX7 59 RX7 yX7_shelfAt wsX7_shelfAt) := goodIn_app (dg_c 3 rfl rfl (dg_c 4 rfl rfl (dg_c 5 rfl rfl (dg_c 6 rfl rfl dg_0)))) ggX7_meant_X7_shelfAt
set_option maxRecDepth 20000 in
theorem ggX7_meant_X7_refuse : GoodIn wsX7_meant wsX7_refuse := (dg_c 15 rfl rfl (dg_c 16 rfl rfl (dg_c 9 rfl rfl (dg_c 10 rfl rfl (dg_c 6 rfl rfl (dg_c 11 rfl rfl gl_X7_meant_X70))))))
set_option maxRecDepth 20000 in
theorem gX7_meant_X7_refuse : GoodIn wsX7_meant (wsV RX7 63 RX7 yX7_refuse wsX7_refuse) := goodIn_app (dg_c 12 rfl rfl (dg_c 13 rfl rfl (dg_c 14 rfl rfl (dg_c 6 rfl rfl dg_0)))) ggX7_meant_X7_refuse
set_option maxRecDepth 20000 in
theorem gl_X7_meant_X40 : GoodIn wsX7_meant wsX40 := (dg_t (dg_l (dg_r gw_wsX40)))
theorem ggX7_meant_X4_noTelling : GoodIn wsX7_meant wsX4_noTelling := (dg_c 21 rfl rfl (dg_c 22 rfl rfl (dg_c 23 rfl rfl (dg_c 24 rfl rfl (dg_c 25 rfl rfl (dg_c 20 rfl rfl (dg_c 26 rfl rfl (dg_c 27 rfl rfl gl_X7_meant_X40))))))))
set_option maxRecDepth 20000 in
theorem gX7_meant_X4_noTelling : GoodIn wsX7_meant (wsV RX7 249 RX4 yX4_noTelling wsX4_noTelling) := goodIn_app (dg_c 17 rfl rfl (dg_c 18 rfl rfl (dg_c 19 rfl rfl (dg_c 20 rfl rfl dg_0)))) ggX7_meant_X4_noTelling
set_option maxRecDepth 20000 in
theorem ggX7_meant_X7_within : GoodIn wsX7_meant wsX7_within := (dg_c 11 rfl rfl dg_0)
set_option maxRecDepth 20000 in
theorem gX7_meant_X7_within : GoodIn wsX7_meant (va_wsS RX7 67 yX7_within wsX7_within) := goodIn_app (dg_c 9 rfl rfl (dg_c 10 rfl rfl (dg_c 6 rfl rfl dg_0))) ggX7_meant_X7_within
set_option maxRecDepth 20000 in
theorem ggX7_meant_X4_tellsWithin : GoodIn wsX7_meant wsX4_tellsWithin := (dg_c 31 rfl rfl (dg_c 32 rfl rfl (dg_c 33 rfl rfl (dg_c 34 rfl rfl (dg_c 20 rfl rfl (dg_c 35 rfl rfl (dg_c 36 rfl rfl (dg_c 37 rfl rfl (dg_c 38 rfl rfl (dg_c 39 rfl rfl (dg_c 40 rfl rfl (dg_c 22 rfl rfl (dg_c 10 rfl rfl (dg_c 6 rfl rfl (dg_c 11 rfl rfl gl_X7_meant_X40)))))))))))))))
set_option maxRecDepth 20000 in
theorem gX7_meant_X4_tellsWithin : GoodIn wsX7_meant (wsV RX7 256 RX4 yX4_tellsWithin wsX4_tellsWithin) := goodIn_app (dg_c 28 rfl rfl (dg_c 29 rfl rfl (dg_c 30 rfl rfl (dg_c 20 rfl rfl dg_0)))) ggX7_meant_X4_tellsWithin
set_option maxRecDepth 20000 in
theorem gl_X7_meant_X00 : GoodIn wsX7_meant wsX00 := (dg_t (dg_l (dg_l (dg_r gw_wsX00))))
theorem gl_X7_meant_X20 : GoodIn wsX7_meant wsX20 := (dg_t (dg_r gw_wsX20))
theorem ggX7_meant_X7_rowsMeant : GoodIn wsX7_meant wsX7_rowsMeant := (dg_c 44 rfl rfl (goodIn_app (goodIn_app (goodIn_app (goodIn_app (goodIn_app (dg_c 1 rfl rfl (dg_c 2 rfl rfl (dg_c 45 rfl rfl (dg_c 46 rfl rfl (dg_c 47 rfl rfl (dg_c 48 rfl rfl (dg_c 49 rfl rfl (dg_c 50 rfl rfl (dg_c 33 rfl rfl (dg_c 34 rfl rfl (dg_c 20 rfl rfl (dg_c 35 rfl rfl (dg_c 36 rfl rfl (dg_c 37 rfl rfl (dg_c 38 rfl rfl (dg_c 39 rfl rfl (dg_c 40 rfl rfl (dg_c 22 rfl rfl (dg_c 51 rfl rfl (dg_c 52 rfl rfl (dg_c 53 rfl rfl (dg_c 54 rfl rfl (dg_c 55 rfl rfl (dg_c 56 rfl rfl dg_0)))))))))))))))))))))))) (goodIn_app (dg_c 57 rfl rfl (dg_c 58 rfl rfl (dg_c 59 rfl rfl (dg_c 60 rfl rfl (dg_c 61 rfl rfl (dg_c 62 rfl rfl (dg_c 10 rfl rfl (dg_c 6 rfl rfl (dg_c 11 rfl rfl (dg_c 63 rfl rfl (dg_c 64 rfl rfl (dg_c 65 rfl rfl (dg_c 66 rfl rfl (dg_c 67 rfl rfl (dg_c 68 rfl rfl (dg_c 69 rfl rfl (dg_c 70 rfl rfl (dg_c 71 rfl rfl (dg_c 72 rfl rfl (dg_c 73 rfl rfl (dg_c 74 rfl rfl (dg_c 75 rfl rfl (dg_c 76 rfl rfl (dg_c 77 rfl rfl dg_0)))))))))))))))))))))))) (dg_c 78 rfl rfl (dg_c 79 rfl rfl (dg_c 80 rfl rfl (dg_c 81 rfl rfl (dg_c 82 rfl rfl (dg_c 83 rfl rfl (dg_c 84 rfl rfl (dg_c 85 rfl rfl (dg_c 86 rfl rfl (dg_c 87 rfl rfl (dg_c 88 rfl rfl (dg_c 89 rfl rfl (dg_c 90 rfl rfl (dg_c 91 rfl rfl (dg_c 92 rfl rfl (dg_c 93 rfl rfl dg_0)))))))))))))))))) gl_X7_meant_X70) gl_X7_meant_X00) gl_X7_meant_X40) gl_X7_meant_X20))
set_option maxRecDepth 20000 in
theorem gX7_meant_X7_rowsMeant : GoodIn wsX7_meant (wsV RX7 259 RX7 yX7_rowsMeant wsX7_rowsMeant) := goodIn_app (dg_c 41 rfl rfl (dg_c 42 rfl rfl (dg_c 43 rfl rfl (dg_c 6 rfl rfl dg_0)))) ggX7_meant_X7_rowsMeant
set_option maxRecDepth 20000 in
theorem ggX7_meant_X4_tells : GoodIn wsX7_meant wsX4_tells := (dg_c 35 rfl rfl (dg_c 36 rfl rfl (dg_c 37 rfl rfl (dg_c 38 rfl rfl (dg_c 39 rfl rfl (dg_c 20 rfl rfl (dg_c 40 rfl rfl (dg_c 22 rfl rfl gl_X7_meant_X40))))))))
set_option maxRecDepth 20000 in
theorem gX7_meant_X4_tells : GoodIn wsX7_meant (wsV RX7 227 RX4 yX4_tells wsX4_tells) := goodIn_app (dg_c 50 rfl rfl (dg_c 33 rfl rfl (dg_c 34 rfl rfl (dg_c 20 rfl rfl dg_0)))) ggX7_meant_X4_tells
set_option maxRecDepth 20000 in
theorem ggX7_meant_X0_firstMaking : GoodIn wsX7_meant wsX0_firstMaking := (dg_c 97 rfl rfl (goodIn_app (goodIn_app (goodIn_app (dg_c 56 rfl rfl (dg_c 57 rfl rfl (dg_c 58 rfl rfl (dg_c 59 rfl rfl (dg_c 60 rfl rfl (dg_c 54 rfl rfl (dg_c 61 rfl rfl (dg_c 62 rfl rfl (dg_c 10 rfl rfl (dg_c 6 rfl rfl (dg_c 11 rfl rfl (dg_c 63 rfl rfl (dg_c 64 rfl rfl (dg_c 65 rfl rfl (dg_c 66 rfl rfl (dg_c 67 rfl rfl (dg_c 68 rfl rfl (dg_c 69 rfl rfl (dg_c 70 rfl rfl (dg_c 71 rfl rfl (dg_c 72 rfl rfl (dg_c 73 rfl rfl (dg_c 47 rfl rfl (dg_c 48 rfl rfl dg_0)))))))))))))))))))))))) (dg_c 49 rfl rfl (dg_c 74 rfl rfl (dg_c 75 rfl rfl (dg_c 76 rfl rfl (dg_c 77 rfl rfl (dg_c 78 rfl rfl (dg_c 79 rfl rfl (dg_c 80 rfl rfl (dg_c 81 rfl rfl (dg_c 82 rfl rfl (dg_c 83 rfl rfl (dg_c 84 rfl rfl (dg_c 85 rfl rfl (dg_c 86 rfl rfl (dg_c 87 rfl rfl (dg_c 88 rfl rfl (dg_c 89 rfl rfl (dg_c 90 rfl rfl (dg_c 91 rfl rfl (dg_c 92 rfl rfl (dg_c 93 rfl rfl dg_0)))))))))))))))))))))) gl_X7_meant_X00) gl_X7_meant_X20))
set_option maxRecDepth 20000 in
theorem gX7_meant_X0_firstMaking : GoodIn wsX7_meant (wsV RX7 262 RX0 yX0_firstMaking wsX0_firstMaking) := goodIn_app (dg_c 94 rfl rfl (dg_c 95 rfl rfl (dg_c 96 rfl rfl (dg_c 54 rfl rfl dg_0)))) ggX7_meant_X0_firstMaking
theorem dX7_meant_0 : decode cX7_meant 0 = .ok (.aload_n 0, 1) := dq_42 dp_cX7_meant rfl
theorem dX7_meant_1 : decode cX7_meant 1 = .ok (.iload_n 1, 1) := dq_27 dp_cX7_meant rfl
theorem dX7_meant_2 : decode cX7_meant 2 = .ok (.invokevirtual 59, 3) := dq_182 dp_cX7_meant rfl
theorem dX7_meant_5 : decode cX7_meant 5 = .ok (.astore 4, 2) := dq_58 dp_cX7_meant rfl
theorem dX7_meant_7 : decode cX7_meant 7 = .ok (.aload 4, 2) := dq_25 dp_cX7_meant rfl
theorem dX7_meant_9 : decode cX7_meant 9 = .ok (.ifnonnull 9, 3) := dq_199 (v := 9) dp_cX7_meant rfl rfl
theorem dX7_meant_12 : decode cX7_meant 12 = .ok (.aload_n 0, 1) := dq_42 dp_cX7_meant rfl
theorem dX7_meant_13 : decode cX7_meant 13 = .ok (.iconst 1, 1) := dq_4 dp_cX7_meant rfl
theorem dX7_meant_14 : decode cX7_meant 14 = .ok (.invokevirtual 63, 3) := dq_182 dp_cX7_meant rfl
theorem dX7_meant_17 : decode cX7_meant 17 = .ok (.ireturn, 1) := dq_172 dp_cX7_meant rfl
theorem dX7_meant_18 : decode cX7_meant 18 = .ok (.aload 4, 2) := dq_25 dp_cX7_meant rfl
theorem dX7_meant_20 : decode cX7_meant 20 = .ok (.iload_n 2, 1) := dq_28 dp_cX7_meant rfl
theorem dX7_meant_21 : decode cX7_meant 21 = .ok (.invokevirtual 249, 3) := dq_182 dp_cX7_meant rfl
theorem dX7_meant_24 : decode cX7_meant 24 = .ok (.istore 5, 2) := dq_54 dp_cX7_meant rfl
theorem dX7_meant_26 : decode cX7_meant 26 = .ok (.iload 5, 2) := dq_21 dp_cX7_meant rfl
theorem dX7_meant_28 : decode cX7_meant 28 = .ok (.ifCond .eq 10, 3) := dq_153 (v := 10) dp_cX7_meant rfl rfl
theorem dX7_meant_31 : decode cX7_meant 31 = .ok (.aload_n 0, 1) := dq_42 dp_cX7_meant rfl
theorem dX7_meant_32 : decode cX7_meant 32 = .ok (.iload 5, 2) := dq_21 dp_cX7_meant rfl
theorem dX7_meant_34 : decode cX7_meant 34 = .ok (.invokevirtual 63, 3) := dq_182 dp_cX7_meant rfl
theorem dX7_meant_37 : decode cX7_meant 37 = .ok (.ireturn, 1) := dq_172 dp_cX7_meant rfl
theorem dX7_meant_38 : decode cX7_meant 38 = .ok (.iload_n 2, 1) := dq_28 dp_cX7_meant rfl
theorem dX7_meant_39 : decode cX7_meant 39 = .ok (.iconst 1, 1) := dq_4 dp_cX7_meant rfl
theorem dX7_meant_40 : decode cX7_meant 40 = .ok (.bipush 20, 2) := dq_16 (v := 20) dp_cX7_meant rfl rfl
theorem dX7_meant_42 : decode cX7_meant 42 = .ok (.invokestatic 67, 3) := dq_184 dp_cX7_meant rfl
theorem dX7_meant_45 : decode cX7_meant 45 = .ok (.ifCond .ne 10, 3) := dq_154 (v := 10) dp_cX7_meant rfl rfl
theorem dX7_meant_48 : decode cX7_meant 48 = .ok (.aload_n 0, 1) := dq_42 dp_cX7_meant rfl
theorem dX7_meant_49 : decode cX7_meant 49 = .ok (.bipush 6, 2) := dq_16 (v := 6) dp_cX7_meant rfl rfl
theorem dX7_meant_51 : decode cX7_meant 51 = .ok (.invokevirtual 63, 3) := dq_182 dp_cX7_meant rfl
theorem dX7_meant_54 : decode cX7_meant 54 = .ok (.ireturn, 1) := dq_172 dp_cX7_meant rfl
theorem dX7_meant_55 : decode cX7_meant 55 = .ok (.iload_n 3, 1) := dq_29 dp_cX7_meant rfl
theorem dX7_meant_56 : decode cX7_meant 56 = .ok (.iconst (-1), 1) := dq_2 dp_cX7_meant rfl
theorem dX7_meant_57 : decode cX7_meant 57 = .ok (.iload_n 2, 1) := dq_28 dp_cX7_meant rfl
theorem dX7_meant_58 : decode cX7_meant 58 = .ok (.iconst 1, 1) := dq_4 dp_cX7_meant rfl
theorem dX7_meant_59 : decode cX7_meant 59 = .ok (.isub, 1) := dq_100 dp_cX7_meant rfl
theorem dX7_meant_60 : decode cX7_meant 60 = .ok (.invokestatic 67, 3) := dq_184 dp_cX7_meant rfl
theorem dX7_meant_63 : decode cX7_meant 63 = .ok (.ifCond .ne 9, 3) := dq_154 (v := 9) dp_cX7_meant rfl rfl
theorem dX7_meant_66 : decode cX7_meant 66 = .ok (.aload_n 0, 1) := dq_42 dp_cX7_meant rfl
theorem dX7_meant_67 : decode cX7_meant 67 = .ok (.iconst 5, 1) := dq_8 dp_cX7_meant rfl
theorem dX7_meant_68 : decode cX7_meant 68 = .ok (.invokevirtual 63, 3) := dq_182 dp_cX7_meant rfl
theorem dX7_meant_71 : decode cX7_meant 71 = .ok (.ireturn, 1) := dq_172 dp_cX7_meant rfl
theorem dX7_meant_72 : decode cX7_meant 72 = .ok (.aload 4, 2) := dq_25 dp_cX7_meant rfl
theorem dX7_meant_74 : decode cX7_meant 74 = .ok (.iload_n 2, 1) := dq_28 dp_cX7_meant rfl
theorem dX7_meant_75 : decode cX7_meant 75 = .ok (.iconst 0, 1) := dq_3 dp_cX7_meant rfl
theorem dX7_meant_76 : decode cX7_meant 76 = .ok (.bipush 24, 2) := dq_16 (v := 24) dp_cX7_meant rfl rfl
theorem dX7_meant_78 : decode cX7_meant 78 = .ok (.invokevirtual 256, 3) := dq_182 dp_cX7_meant rfl
theorem dX7_meant_81 : decode cX7_meant 81 = .ok (.ifCond .ne 10, 3) := dq_154 (v := 10) dp_cX7_meant rfl rfl
theorem dX7_meant_84 : decode cX7_meant 84 = .ok (.aload_n 0, 1) := dq_42 dp_cX7_meant rfl
theorem dX7_meant_85 : decode cX7_meant 85 = .ok (.bipush 6, 2) := dq_16 (v := 6) dp_cX7_meant rfl rfl
theorem dX7_meant_87 : decode cX7_meant 87 = .ok (.invokevirtual 63, 3) := dq_182 dp_cX7_meant rfl
theorem dX7_meant_90 : decode cX7_meant 90 = .ok (.ireturn, 1) := dq_172 dp_cX7_meant rfl
theorem dX7_meant_91 : decode cX7_meant 91 = .ok (.aload_n 0, 1) := dq_42 dp_cX7_meant rfl
theorem dX7_meant_92 : decode cX7_meant 92 = .ok (.aload 4, 2) := dq_25 dp_cX7_meant rfl
theorem dX7_meant_94 : decode cX7_meant 94 = .ok (.iload_n 2, 1) := dq_28 dp_cX7_meant rfl
theorem dX7_meant_95 : decode cX7_meant 95 = .ok (.invokevirtual 259, 3) := dq_182 dp_cX7_meant rfl
theorem dX7_meant_98 : decode cX7_meant 98 = .ok (.istore 6, 2) := dq_54 dp_cX7_meant rfl
theorem dX7_meant_100 : decode cX7_meant 100 = .ok (.iload_n 3, 1) := dq_29 dp_cX7_meant rfl
theorem dX7_meant_101 : decode cX7_meant 101 = .ok (.iconst (-1), 1) := dq_2 dp_cX7_meant rfl
theorem dX7_meant_102 : decode cX7_meant 102 = .ok (.if_icmp .ne 6, 3) := dq_160 (v := 6) dp_cX7_meant rfl rfl
theorem dX7_meant_105 : decode cX7_meant 105 = .ok (.iload 6, 2) := dq_21 dp_cX7_meant rfl
theorem dX7_meant_107 : decode cX7_meant 107 = .ok (.ireturn, 1) := dq_172 dp_cX7_meant rfl
theorem dX7_meant_108 : decode cX7_meant 108 = .ok (.iload 6, 2) := dq_21 dp_cX7_meant rfl
theorem dX7_meant_110 : decode cX7_meant 110 = .ok (.ifCond .ne 9, 3) := dq_154 (v := 9) dp_cX7_meant rfl rfl
theorem dX7_meant_113 : decode cX7_meant 113 = .ok (.aload_n 0, 1) := dq_42 dp_cX7_meant rfl
theorem dX7_meant_114 : decode cX7_meant 114 = .ok (.iconst 5, 1) := dq_8 dp_cX7_meant rfl
theorem dX7_meant_115 : decode cX7_meant 115 = .ok (.invokevirtual 63, 3) := dq_182 dp_cX7_meant rfl
theorem dX7_meant_118 : decode cX7_meant 118 = .ok (.ireturn, 1) := dq_172 dp_cX7_meant rfl
theorem dX7_meant_119 : decode cX7_meant 119 = .ok (.iload_n 3, 1) := dq_29 dp_cX7_meant rfl
theorem dX7_meant_120 : decode cX7_meant 120 = .ok (.ifCond .ne 13, 3) := dq_154 (v := 13) dp_cX7_meant rfl rfl
theorem dX7_meant_123 : decode cX7_meant 123 = .ok (.aload_n 0, 1) := dq_42 dp_cX7_meant rfl
theorem dX7_meant_124 : decode cX7_meant 124 = .ok (.getfield 18, 3) := dq_180 dp_cX7_meant rfl
theorem dX7_meant_127 : decode cX7_meant 127 = .ok (.getfield 199, 3) := dq_180 dp_cX7_meant rfl
theorem dX7_meant_130 : decode cX7_meant 130 = .ok (.goto 11, 3) := dq_167 (v := 11) dp_cX7_meant rfl rfl
theorem dX7_meant_133 : decode cX7_meant 133 = .ok (.aload 4, 2) := dq_25 dp_cX7_meant rfl
theorem dX7_meant_135 : decode cX7_meant 135 = .ok (.iload_n 3, 1) := dq_29 dp_cX7_meant rfl
theorem dX7_meant_136 : decode cX7_meant 136 = .ok (.iconst 1, 1) := dq_4 dp_cX7_meant rfl
theorem dX7_meant_137 : decode cX7_meant 137 = .ok (.isub, 1) := dq_100 dp_cX7_meant rfl
theorem dX7_meant_138 : decode cX7_meant 138 = .ok (.invokevirtual 227, 3) := dq_182 dp_cX7_meant rfl
theorem dX7_meant_141 : decode cX7_meant 141 = .ok (.istore 7, 2) := dq_54 dp_cX7_meant rfl
theorem dX7_meant_143 : decode cX7_meant 143 = .ok (.aload_n 0, 1) := dq_42 dp_cX7_meant rfl
theorem dX7_meant_144 : decode cX7_meant 144 = .ok (.getfield 18, 3) := dq_180 dp_cX7_meant rfl
theorem dX7_meant_147 : decode cX7_meant 147 = .ok (.iload 7, 2) := dq_21 dp_cX7_meant rfl
theorem dX7_meant_149 : decode cX7_meant 149 = .ok (.aload 4, 2) := dq_25 dp_cX7_meant rfl
theorem dX7_meant_151 : decode cX7_meant 151 = .ok (.iload_n 3, 1) := dq_29 dp_cX7_meant rfl
theorem dX7_meant_152 : decode cX7_meant 152 = .ok (.invokevirtual 227, 3) := dq_182 dp_cX7_meant rfl
theorem dX7_meant_155 : decode cX7_meant 155 = .ok (.invokevirtual 262, 3) := dq_182 dp_cX7_meant rfl
theorem dX7_meant_158 : decode cX7_meant 158 = .ok (.ireturn, 1) := dq_172 dp_cX7_meant rfl
set_option maxRecDepth 20000 in
theorem gl_X7_closed_X60 : GoodIn wsX7_closed wsX60 := (dg_t (dg_r gw_wsX60))
theorem ggX7_closed_X6_runsTo : GoodIn wsX7_closed wsX6_runsTo := (dg_c 7 rfl rfl (dg_c 8 rfl rfl (dg_c 9 rfl rfl (dg_c 10 rfl rfl (dg_c 11 rfl rfl (dg_c 12 rfl rfl (dg_c 6 rfl rfl (dg_c 13 rfl rfl (dg_c 14 rfl rfl (dg_c 15 rfl rfl (dg_c 16 rfl rfl (dg_c 17 rfl rfl (dg_c 18 rfl rfl (dg_c 19 rfl rfl (dg_c 20 rfl rfl (dg_c 21 rfl rfl (dg_c 22 rfl rfl (dg_c 23 rfl rfl (dg_c 24 rfl rfl (dg_c 25 rfl rfl (dg_c 26 rfl rfl (dg_c 27 rfl rfl (dg_c 28 rfl rfl gl_X7_closed_X60)))))))))))))))))))))))
set_option maxRecDepth 20000 in
theorem gX7_closed_X6_runsTo : GoodIn wsX7_closed (wsV RX7 265 RX6 yX6_runsTo wsX6_runsTo) := goodIn_app (dg_c 3 rfl rfl (dg_c 4 rfl rfl (dg_c 5 rfl rfl (dg_c 6 rfl rfl dg_0)))) ggX7_closed_X6_runsTo
theorem dX7_closed_0 : decode cX7_closed 0 = .ok (.aload_n 0, 1) := dq_42 dp_cX7_closed rfl
theorem dX7_closed_1 : decode cX7_closed 1 = .ok (.getfield 18, 3) := dq_180 dp_cX7_closed rfl
theorem dX7_closed_4 : decode cX7_closed 4 = .ok (.getfield 140, 3) := dq_180 dp_cX7_closed rfl
theorem dX7_closed_7 : decode cX7_closed 7 = .ok (.invokevirtual 265, 3) := dq_182 dp_cX7_closed rfl
theorem dX7_closed_10 : decode cX7_closed 10 = .ok (.ireturn, 1) := dq_172 dp_cX7_closed rfl
set_option maxRecDepth 20000 in
theorem gl_X7_pulls_X00 : GoodIn wsX7_pulls wsX00 := (dg_t (dg_l (dg_r gw_wsX00)))
theorem ggX7_pulls_X0_pullAt : GoodIn wsX7_pulls wsX0_pullAt := (dg_c 7 rfl rfl (dg_c 8 rfl rfl (dg_c 9 rfl rfl (dg_c 10 rfl rfl (dg_c 11 rfl rfl (dg_c 12 rfl rfl gl_X7_pulls_X00))))))
set_option maxRecDepth 20000 in
theorem gX7_pulls_X0_pullAt : GoodIn wsX7_pulls (wsV RX7 100 RX0 yX0_pullAt wsX0_pullAt) := goodIn_app (dg_c 3 rfl rfl (dg_c 4 rfl rfl (dg_c 5 rfl rfl (dg_c 6 rfl rfl dg_0)))) ggX7_pulls_X0_pullAt
set_option maxRecDepth 20000 in
theorem gl_X7_pulls_X70 : GoodIn wsX7_pulls wsX70 := (dg_t (dg_l (dg_l (dg_r gw_wsX70))))
theorem ggX7_pulls_X7_refuse : GoodIn wsX7_pulls wsX7_refuse := (dg_c 16 rfl rfl (dg_c 17 rfl rfl (dg_c 18 rfl rfl (dg_c 10 rfl rfl (dg_c 11 rfl rfl (dg_c 12 rfl rfl gl_X7_pulls_X70))))))
set_option maxRecDepth 20000 in
theorem gX7_pulls_X7_refuse : GoodIn wsX7_pulls (wsV RX7 63 RX7 yX7_refuse wsX7_refuse) := goodIn_app (dg_c 13 rfl rfl (dg_c 14 rfl rfl (dg_c 15 rfl rfl (dg_c 11 rfl rfl dg_0)))) ggX7_pulls_X7_refuse
set_option maxRecDepth 20000 in
theorem gl_X7_pulls_X20 : GoodIn wsX7_pulls wsX20 := (dg_t (dg_r gw_wsX20))
theorem ggX7_pulls_X0_mayBe : GoodIn wsX7_pulls wsX0_mayBe := (dg_c 22 rfl rfl (dg_c 23 rfl rfl (dg_c 24 rfl rfl (dg_c 25 rfl rfl (dg_c 26 rfl rfl (dg_c 27 rfl rfl (dg_c 28 rfl rfl (dg_c 29 rfl rfl (dg_c 30 rfl rfl (goodIn_app gl_X7_pulls_X00 gl_X7_pulls_X20))))))))))
set_option maxRecDepth 20000 in
theorem gX7_pulls_X0_mayBe : GoodIn wsX7_pulls (wsV RX7 136 RX0 yX0_mayBe wsX0_mayBe) := goodIn_app (dg_c 19 rfl rfl (dg_c 20 rfl rfl (dg_c 21 rfl rfl (dg_c 6 rfl rfl dg_0)))) ggX7_pulls_X0_mayBe
set_option maxRecDepth 20000 in
theorem ggX7_pulls_X0_pullInTruth : GoodIn wsX7_pulls wsX0_pullInTruth := (dg_c 34 rfl rfl (goodIn_app (goodIn_app (goodIn_app (dg_c 23 rfl rfl (dg_c 35 rfl rfl (dg_c 24 rfl rfl (dg_c 36 rfl rfl (dg_c 37 rfl rfl (dg_c 38 rfl rfl (dg_c 39 rfl rfl (dg_c 40 rfl rfl (dg_c 41 rfl rfl (dg_c 6 rfl rfl (dg_c 42 rfl rfl (dg_c 43 rfl rfl (dg_c 44 rfl rfl (dg_c 45 rfl rfl (dg_c 46 rfl rfl (dg_c 47 rfl rfl (dg_c 28 rfl rfl (dg_c 48 rfl rfl (dg_c 49 rfl rfl (dg_c 50 rfl rfl (dg_c 51 rfl rfl (dg_c 52 rfl rfl (dg_c 53 rfl rfl (dg_c 54 rfl rfl dg_0)))))))))))))))))))))))) (dg_c 55 rfl rfl (dg_c 56 rfl rfl (dg_c 57 rfl rfl (dg_c 58 rfl rfl (dg_c 59 rfl rfl (dg_c 60 rfl rfl (dg_c 61 rfl rfl (dg_c 62 rfl rfl (dg_c 63 rfl rfl (dg_c 64 rfl rfl (dg_c 65 rfl rfl (dg_c 66 rfl rfl (dg_c 67 rfl rfl (dg_c 68 rfl rfl (dg_c 69 rfl rfl (dg_c 70 rfl rfl (dg_c 71 rfl rfl (dg_c 72 rfl rfl (dg_c 73 rfl rfl dg_0)))))))))))))))))))) gl_X7_pulls_X00) gl_X7_pulls_X20))
set_option maxRecDepth 20000 in
theorem gX7_pulls_X0_pullInTruth : GoodIn wsX7_pulls (wsV RX7 268 RX0 yX0_pullInTruth wsX0_pullInTruth) := goodIn_app (dg_c 31 rfl rfl (dg_c 32 rfl rfl (dg_c 33 rfl rfl (dg_c 6 rfl rfl dg_0)))) ggX7_pulls_X0_pullInTruth
theorem dX7_pulls_0 : decode cX7_pulls 0 = .ok (.aload_n 0, 1) := dq_42 dp_cX7_pulls rfl
theorem dX7_pulls_1 : decode cX7_pulls 1 = .ok (.getfield 18, 3) := dq_180 dp_cX7_pulls rfl
theorem dX7_pulls_4 : decode cX7_pulls 4 = .ok (.iload_n 1, 1) := dq_27 dp_cX7_pulls rfl
theorem dX7_pulls_5 : decode cX7_pulls 5 = .ok (.invokevirtual 100, 3) := dq_182 dp_cX7_pulls rfl
theorem dX7_pulls_8 : decode cX7_pulls 8 = .ok (.astore_n 2, 1) := dq_77 dp_cX7_pulls rfl
theorem dX7_pulls_9 : decode cX7_pulls 9 = .ok (.aload_n 2, 1) := dq_44 dp_cX7_pulls rfl
theorem dX7_pulls_10 : decode cX7_pulls 10 = .ok (.ifnonnull 9, 3) := dq_199 (v := 9) dp_cX7_pulls rfl rfl
theorem dX7_pulls_13 : decode cX7_pulls 13 = .ok (.aload_n 0, 1) := dq_42 dp_cX7_pulls rfl
theorem dX7_pulls_14 : decode cX7_pulls 14 = .ok (.iconst 1, 1) := dq_4 dp_cX7_pulls rfl
theorem dX7_pulls_15 : decode cX7_pulls 15 = .ok (.invokevirtual 63, 3) := dq_182 dp_cX7_pulls rfl
theorem dX7_pulls_18 : decode cX7_pulls 18 = .ok (.ireturn, 1) := dq_172 dp_cX7_pulls rfl
theorem dX7_pulls_19 : decode cX7_pulls 19 = .ok (.aload_n 0, 1) := dq_42 dp_cX7_pulls rfl
theorem dX7_pulls_20 : decode cX7_pulls 20 = .ok (.getfield 18, 3) := dq_180 dp_cX7_pulls rfl
theorem dX7_pulls_23 : decode cX7_pulls 23 = .ok (.aload_n 2, 1) := dq_44 dp_cX7_pulls rfl
theorem dX7_pulls_24 : decode cX7_pulls 24 = .ok (.invokevirtual 136, 3) := dq_182 dp_cX7_pulls rfl
theorem dX7_pulls_27 : decode cX7_pulls 27 = .ok (.ifCond .ne 10, 3) := dq_154 (v := 10) dp_cX7_pulls rfl rfl
theorem dX7_pulls_30 : decode cX7_pulls 30 = .ok (.aload_n 0, 1) := dq_42 dp_cX7_pulls rfl
theorem dX7_pulls_31 : decode cX7_pulls 31 = .ok (.bipush 6, 2) := dq_16 (v := 6) dp_cX7_pulls rfl rfl
theorem dX7_pulls_33 : decode cX7_pulls 33 = .ok (.invokevirtual 63, 3) := dq_182 dp_cX7_pulls rfl
theorem dX7_pulls_36 : decode cX7_pulls 36 = .ok (.ireturn, 1) := dq_172 dp_cX7_pulls rfl
theorem dX7_pulls_37 : decode cX7_pulls 37 = .ok (.aload_n 0, 1) := dq_42 dp_cX7_pulls rfl
theorem dX7_pulls_38 : decode cX7_pulls 38 = .ok (.getfield 18, 3) := dq_180 dp_cX7_pulls rfl
theorem dX7_pulls_41 : decode cX7_pulls 41 = .ok (.aload_n 2, 1) := dq_44 dp_cX7_pulls rfl
theorem dX7_pulls_42 : decode cX7_pulls 42 = .ok (.invokevirtual 268, 3) := dq_182 dp_cX7_pulls rfl
theorem dX7_pulls_45 : decode cX7_pulls 45 = .ok (.aload_n 0, 1) := dq_42 dp_cX7_pulls rfl
theorem dX7_pulls_46 : decode cX7_pulls 46 = .ok (.getfield 18, 3) := dq_180 dp_cX7_pulls rfl
theorem dX7_pulls_49 : decode cX7_pulls 49 = .ok (.getfield 199, 3) := dq_180 dp_cX7_pulls rfl
theorem dX7_pulls_52 : decode cX7_pulls 52 = .ok (.ireturn, 1) := dq_172 dp_cX7_pulls rfl
set_option maxRecDepth 20000 in
theorem gl_X7_close_X70 : GoodIn wsX7_close wsX70 := (dg_t (dg_l (dg_l (dg_r gw_wsX70))))
theorem ggX7_close_X7_refuse : GoodIn wsX7_close wsX7_refuse := (dg_c 9 rfl rfl (dg_c 10 rfl rfl (dg_c 11 rfl rfl (dg_c 12 rfl rfl (dg_c 8 rfl rfl (dg_c 13 rfl rfl gl_X7_close_X70))))))
set_option maxRecDepth 20000 in
theorem gX7_close_X7_refuse : GoodIn wsX7_close (wsV RX7 63 RX7 yX7_refuse wsX7_refuse) := goodIn_app (dg_c 5 rfl rfl (dg_c 6 rfl rfl (dg_c 7 rfl rfl (dg_c 8 rfl rfl dg_0)))) ggX7_close_X7_refuse
set_option maxRecDepth 20000 in
theorem gl_X7_close_X00 : GoodIn wsX7_close wsX00 := (dg_t (dg_l (dg_r gw_wsX00)))
theorem gl_X7_close_X60 : GoodIn wsX7_close wsX60 := (dg_t (dg_r gw_wsX60))
theorem ggX7_close_X0_closeInTruth : GoodIn wsX7_close wsX0_closeInTruth := (dg_c 18 rfl rfl (goodIn_app (goodIn_app (goodIn_app (dg_c 19 rfl rfl (dg_c 20 rfl rfl (dg_c 21 rfl rfl (dg_c 22 rfl rfl (dg_c 23 rfl rfl (dg_c 24 rfl rfl (dg_c 25 rfl rfl (dg_c 26 rfl rfl (dg_c 27 rfl rfl (dg_c 28 rfl rfl (dg_c 29 rfl rfl (dg_c 30 rfl rfl (dg_c 31 rfl rfl (dg_c 32 rfl rfl (dg_c 33 rfl rfl (dg_c 34 rfl rfl (dg_c 35 rfl rfl (dg_c 36 rfl rfl (dg_c 37 rfl rfl (dg_c 38 rfl rfl (dg_c 39 rfl rfl (dg_c 40 rfl rfl (dg_c 17 rfl rfl (dg_c 41 rfl rfl dg_0)))))))))))))))))))))))) (dg_c 42 rfl rfl (dg_c 43 rfl rfl (dg_c 44 rfl rfl (dg_c 45 rfl rfl (dg_c 46 rfl rfl (dg_c 47 rfl rfl (dg_c 48 rfl rfl (dg_c 49 rfl rfl (dg_c 50 rfl rfl (dg_c 51 rfl rfl dg_0))))))))))) gl_X7_close_X00) gl_X7_close_X60))
set_option maxRecDepth 20000 in
theorem gX7_close_X0_closeInTruth : GoodIn wsX7_close (wsV RX7 272 RX0 yX0_closeInTruth wsX0_closeInTruth) := goodIn_app (dg_c 14 rfl rfl (dg_c 15 rfl rfl (dg_c 16 rfl rfl (dg_c 17 rfl rfl dg_0)))) ggX7_close_X0_closeInTruth
theorem dX7_close_0 : decode cX7_close 0 = .ok (.aload_n 0, 1) := dq_42 dp_cX7_close rfl
theorem dX7_close_1 : decode cX7_close 1 = .ok (.getfield 18, 3) := dq_180 dp_cX7_close rfl
theorem dX7_close_4 : decode cX7_close 4 = .ok (.getfield 199, 3) := dq_180 dp_cX7_close rfl
theorem dX7_close_7 : decode cX7_close 7 = .ok (.ifCond .eq 10, 3) := dq_153 (v := 10) dp_cX7_close rfl rfl
theorem dX7_close_10 : decode cX7_close 10 = .ok (.aload_n 0, 1) := dq_42 dp_cX7_close rfl
theorem dX7_close_11 : decode cX7_close 11 = .ok (.bipush 6, 2) := dq_16 (v := 6) dp_cX7_close rfl rfl
theorem dX7_close_13 : decode cX7_close 13 = .ok (.invokevirtual 63, 3) := dq_182 dp_cX7_close rfl
theorem dX7_close_16 : decode cX7_close 16 = .ok (.ireturn, 1) := dq_172 dp_cX7_close rfl
theorem dX7_close_17 : decode cX7_close 17 = .ok (.aload_n 0, 1) := dq_42 dp_cX7_close rfl
theorem dX7_close_18 : decode cX7_close 18 = .ok (.getfield 18, 3) := dq_180 dp_cX7_close rfl
theorem dX7_close_21 : decode cX7_close 21 = .ok (.invokevirtual 272, 3) := dq_182 dp_cX7_close rfl
theorem dX7_close_24 : decode cX7_close 24 = .ok (.aload_n 0, 1) := dq_42 dp_cX7_close rfl
theorem dX7_close_25 : decode cX7_close 25 = .ok (.getfield 18, 3) := dq_180 dp_cX7_close rfl
theorem dX7_close_28 : decode cX7_close 28 = .ok (.getfield 140, 3) := dq_180 dp_cX7_close rfl
theorem dX7_close_31 : decode cX7_close 31 = .ok (.getfield 275, 3) := dq_180 dp_cX7_close rfl
theorem dX7_close_34 : decode cX7_close 34 = .ok (.ireturn, 1) := dq_172 dp_cX7_close rfl
set_option maxRecDepth 20000 in
theorem ggX7_winter_X7_within : GoodIn wsX7_winter wsX7_within := (dg_c 7 rfl rfl dg_0)
set_option maxRecDepth 20000 in
theorem gX7_winter_X7_within : GoodIn wsX7_winter (va_wsS RX7 67 yX7_within wsX7_within) := goodIn_app (dg_c 4 rfl rfl (dg_c 5 rfl rfl (dg_c 6 rfl rfl dg_0))) ggX7_winter_X7_within
set_option maxRecDepth 20000 in
theorem gl_X7_winter_X70 : GoodIn wsX7_winter wsX70 := (dg_t (dg_l (dg_l (dg_l (dg_l (dg_r gw_wsX70))))))
theorem ggX7_winter_X7_refuse : GoodIn wsX7_winter wsX7_refuse := (dg_c 11 rfl rfl (dg_c 12 rfl rfl (dg_c 4 rfl rfl (dg_c 5 rfl rfl (dg_c 6 rfl rfl (dg_c 7 rfl rfl gl_X7_winter_X70))))))
set_option maxRecDepth 20000 in
theorem gX7_winter_X7_refuse : GoodIn wsX7_winter (wsV RX7 63 RX7 yX7_refuse wsX7_refuse) := goodIn_app (dg_c 8 rfl rfl (dg_c 9 rfl rfl (dg_c 10 rfl rfl (dg_c 6 rfl rfl dg_0)))) ggX7_winter_X7_refuse
set_option maxRecDepth 20000 in
theorem gl_X7_winter_X00 : GoodIn wsX7_winter wsX00 := (dg_t (dg_l (dg_l (dg_l (dg_r gw_wsX00)))))
theorem gl_X7_winter_X50 : GoodIn wsX7_winter wsX50 := (dg_t (dg_l (dg_l (dg_r gw_wsX50))))
theorem gl_X7_winter_X20 : GoodIn wsX7_winter wsX20 := (dg_t (dg_l (dg_r gw_wsX20)))
theorem ggX7_winter_X5_look : GoodIn wsX7_winter wsX5_look := (dg_c 17 rfl rfl (goodIn_app (goodIn_app (goodIn_app (goodIn_app (dg_c 18 rfl rfl (dg_c 19 rfl rfl (dg_c 20 rfl rfl (dg_c 21 rfl rfl (dg_c 22 rfl rfl (dg_c 23 rfl rfl (dg_c 24 rfl rfl (dg_c 25 rfl rfl (dg_c 26 rfl rfl (dg_c 27 rfl rfl (dg_c 28 rfl rfl (dg_c 29 rfl rfl (dg_c 30 rfl rfl (dg_c 31 rfl rfl (dg_c 32 rfl rfl (dg_c 33 rfl rfl (dg_c 34 rfl rfl (dg_c 35 rfl rfl (dg_c 36 rfl rfl (dg_c 37 rfl rfl (dg_c 38 rfl rfl (dg_c 39 rfl rfl (dg_c 40 rfl rfl (dg_c 41 rfl rfl dg_0)))))))))))))))))))))))) (dg_c 42 rfl rfl (dg_c 43 rfl rfl (dg_c 5 rfl rfl (dg_c 6 rfl rfl (dg_c 7 rfl rfl (dg_c 44 rfl rfl (dg_c 45 rfl rfl (dg_c 46 rfl rfl (dg_c 47 rfl rfl dg_0)))))))))) gl_X7_winter_X00) gl_X7_winter_X50) gl_X7_winter_X20))
set_option maxRecDepth 20000 in
theorem gX7_winter_X5_look : GoodIn wsX7_winter (wsV RX7 195 RX5 yX5_look wsX5_look) := goodIn_app (dg_c 13 rfl rfl (dg_c 14 rfl rfl (dg_c 15 rfl rfl (dg_c 16 rfl rfl dg_0)))) ggX7_winter_X5_look
set_option maxRecDepth 20000 in
theorem gl_X7_winter_X60 : GoodIn wsX7_winter wsX60 := (dg_t (dg_r gw_wsX60))
theorem ggX7_winter_X0_dayInTruth : GoodIn wsX7_winter wsX0_dayInTruth := (dg_c 51 rfl rfl (goodIn_app (goodIn_app (goodIn_app (goodIn_app (goodIn_app (dg_c 52 rfl rfl (dg_c 53 rfl rfl (dg_c 54 rfl rfl (dg_c 55 rfl rfl (dg_c 56 rfl rfl (dg_c 57 rfl rfl (dg_c 58 rfl rfl (dg_c 59 rfl rfl (dg_c 40 rfl rfl (dg_c 60 rfl rfl (dg_c 61 rfl rfl (dg_c 62 rfl rfl (dg_c 63 rfl rfl (dg_c 64 rfl rfl (dg_c 65 rfl rfl (dg_c 66 rfl rfl (dg_c 67 rfl rfl (dg_c 68 rfl rfl (dg_c 69 rfl rfl (dg_c 70 rfl rfl (dg_c 71 rfl rfl (dg_c 72 rfl rfl (dg_c 73 rfl rfl (dg_c 74 rfl rfl dg_0)))))))))))))))))))))))) (goodIn_app (dg_c 75 rfl rfl (dg_c 76 rfl rfl (dg_c 77 rfl rfl (dg_c 78 rfl rfl (dg_c 79 rfl rfl (dg_c 80 rfl rfl (dg_c 81 rfl rfl (dg_c 82 rfl rfl (dg_c 83 rfl rfl (dg_c 84 rfl rfl (dg_c 85 rfl rfl (dg_c 86 rfl rfl (dg_c 87 rfl rfl (dg_c 88 rfl rfl (dg_c 89 rfl rfl (dg_c 90 rfl rfl (dg_c 91 rfl rfl (dg_c 92 rfl rfl (dg_c 93 rfl rfl (dg_c 94 rfl rfl (dg_c 95 rfl rfl (dg_c 96 rfl rfl (dg_c 16 rfl rfl (dg_c 97 rfl rfl dg_0)))))))))))))))))))))))) (goodIn_app (dg_c 19 rfl rfl (dg_c 98 rfl rfl (dg_c 99 rfl rfl (dg_c 100 rfl rfl (dg_c 101 rfl rfl (dg_c 23 rfl rfl (dg_c 5 rfl rfl (dg_c 6 rfl rfl (dg_c 7 rfl rfl (dg_c 102 rfl rfl (dg_c 103 rfl rfl (dg_c 104 rfl rfl (dg_c 105 rfl rfl (dg_c 106 rfl rfl (dg_c 107 rfl rfl (dg_c 108 rfl rfl (dg_c 109 rfl rfl (dg_c 110 rfl rfl (dg_c 111 rfl rfl (dg_c 20 rfl rfl (dg_c 24 rfl rfl (dg_c 112 rfl rfl (dg_c 113 rfl rfl (dg_c 114 rfl rfl dg_0)))))))))))))))))))))))) (goodIn_app (dg_c 115 rfl rfl (dg_c 116 rfl rfl (dg_c 117 rfl rfl (dg_c 118 rfl rfl (dg_c 27 rfl rfl (dg_c 119 rfl rfl (dg_c 120 rfl rfl (dg_c 26 rfl rfl (dg_c 28 rfl rfl (dg_c 121 rfl rfl (dg_c 122 rfl rfl (dg_c 123 rfl rfl (dg_c 124 rfl rfl (dg_c 125 rfl rfl (dg_c 126 rfl rfl (dg_c 127 rfl rfl (dg_c 128 rfl rfl (dg_c 129 rfl rfl (dg_c 130 rfl rfl (dg_c 131 rfl rfl (dg_c 132 rfl rfl (dg_c 133 rfl rfl (dg_c 134 rfl rfl (dg_c 135 rfl rfl dg_0)))))))))))))))))))))))) (goodIn_app (dg_c 136 rfl rfl (dg_c 137 rfl rfl (dg_c 138 rfl rfl (dg_c 139 rfl rfl (dg_c 140 rfl rfl (dg_c 141 rfl rfl (dg_c 142 rfl rfl (dg_c 21 rfl rfl (dg_c 35 rfl rfl (dg_c 25 rfl rfl (dg_c 143 rfl rfl (dg_c 38 rfl rfl (dg_c 39 rfl rfl (dg_c 41 rfl rfl (dg_c 42 rfl rfl (dg_c 43 rfl rfl (dg_c 144 rfl rfl (dg_c 145 rfl rfl (dg_c 146 rfl rfl (dg_c 147 rfl rfl (dg_c 148 rfl rfl (dg_c 149 rfl rfl (dg_c 150 rfl rfl (dg_c 151 rfl rfl dg_0)))))))))))))))))))))))) (dg_c 152 rfl rfl (dg_c 153 rfl rfl (dg_c 154 rfl rfl dg_0)))))))) gl_X7_winter_X00) gl_X7_winter_X60) gl_X7_winter_X50) gl_X7_winter_X20))
set_option maxRecDepth 20000 in
theorem gX7_winter_X0_dayInTruth : GoodIn wsX7_winter (wsV RX7 278 RX0 yX0_dayInTruth wsX0_dayInTruth) := goodIn_app (dg_c 48 rfl rfl (dg_c 49 rfl rfl (dg_c 50 rfl rfl (dg_c 40 rfl rfl dg_0)))) ggX7_winter_X0_dayInTruth
theorem dX7_winter_0 : decode cX7_winter 0 = .ok (.iload_n 1, 1) := dq_27 dp_cX7_winter rfl
theorem dX7_winter_1 : decode cX7_winter 1 = .ok (.iconst 1, 1) := dq_4 dp_cX7_winter rfl
theorem dX7_winter_2 : decode cX7_winter 2 = .ok (.bipush 60, 2) := dq_16 (v := 60) dp_cX7_winter rfl rfl
theorem dX7_winter_4 : decode cX7_winter 4 = .ok (.invokestatic 67, 3) := dq_184 dp_cX7_winter rfl
theorem dX7_winter_7 : decode cX7_winter 7 = .ok (.ifCond .ne 10, 3) := dq_154 (v := 10) dp_cX7_winter rfl rfl
theorem dX7_winter_10 : decode cX7_winter 10 = .ok (.aload_n 0, 1) := dq_42 dp_cX7_winter rfl
theorem dX7_winter_11 : decode cX7_winter 11 = .ok (.bipush 6, 2) := dq_16 (v := 6) dp_cX7_winter rfl rfl
theorem dX7_winter_13 : decode cX7_winter 13 = .ok (.invokevirtual 63, 3) := dq_182 dp_cX7_winter rfl
theorem dX7_winter_16 : decode cX7_winter 16 = .ok (.ireturn, 1) := dq_172 dp_cX7_winter rfl
theorem dX7_winter_17 : decode cX7_winter 17 = .ok (.aload_n 0, 1) := dq_42 dp_cX7_winter rfl
theorem dX7_winter_18 : decode cX7_winter 18 = .ok (.getfield 28, 3) := dq_180 dp_cX7_winter rfl
theorem dX7_winter_21 : decode cX7_winter 21 = .ok (.aload_n 0, 1) := dq_42 dp_cX7_winter rfl
theorem dX7_winter_22 : decode cX7_winter 22 = .ok (.getfield 18, 3) := dq_180 dp_cX7_winter rfl
theorem dX7_winter_25 : decode cX7_winter 25 = .ok (.aload_n 0, 1) := dq_42 dp_cX7_winter rfl
theorem dX7_winter_26 : decode cX7_winter 26 = .ok (.getfield 18, 3) := dq_180 dp_cX7_winter rfl
theorem dX7_winter_29 : decode cX7_winter 29 = .ok (.getfield 116, 3) := dq_180 dp_cX7_winter rfl
theorem dX7_winter_32 : decode cX7_winter 32 = .ok (.iconst 1, 1) := dq_4 dp_cX7_winter rfl
theorem dX7_winter_33 : decode cX7_winter 33 = .ok (.invokevirtual 195, 3) := dq_182 dp_cX7_winter rfl
theorem dX7_winter_36 : decode cX7_winter 36 = .ok (.iconst 0, 1) := dq_3 dp_cX7_winter rfl
theorem dX7_winter_37 : decode cX7_winter 37 = .ok (.istore_n 2, 1) := dq_61 dp_cX7_winter rfl
theorem dX7_winter_38 : decode cX7_winter 38 = .ok (.iconst 0, 1) := dq_3 dp_cX7_winter rfl
theorem dX7_winter_39 : decode cX7_winter 39 = .ok (.istore_n 3, 1) := dq_62 dp_cX7_winter rfl
theorem dX7_winter_40 : decode cX7_winter 40 = .ok (.iload_n 3, 1) := dq_29 dp_cX7_winter rfl
theorem dX7_winter_41 : decode cX7_winter 41 = .ok (.iload_n 1, 1) := dq_27 dp_cX7_winter rfl
theorem dX7_winter_42 : decode cX7_winter 42 = .ok (.if_icmp .ge 26, 3) := dq_162 (v := 26) dp_cX7_winter rfl rfl
theorem dX7_winter_45 : decode cX7_winter 45 = .ok (.aload_n 0, 1) := dq_42 dp_cX7_winter rfl
theorem dX7_winter_46 : decode cX7_winter 46 = .ok (.getfield 18, 3) := dq_180 dp_cX7_winter rfl
theorem dX7_winter_49 : decode cX7_winter 49 = .ok (.aload_n 0, 1) := dq_42 dp_cX7_winter rfl
theorem dX7_winter_50 : decode cX7_winter 50 = .ok (.getfield 28, 3) := dq_180 dp_cX7_winter rfl
theorem dX7_winter_53 : decode cX7_winter 53 = .ok (.invokevirtual 278, 3) := dq_182 dp_cX7_winter rfl
theorem dX7_winter_56 : decode cX7_winter 56 = .ok (.ifCond .eq 6, 3) := dq_153 (v := 6) dp_cX7_winter rfl rfl
theorem dX7_winter_59 : decode cX7_winter 59 = .ok (.iinc 2 1, 3) := dq_132 (v := 1) dp_cX7_winter rfl (by decide) rfl
theorem dX7_winter_62 : decode cX7_winter 62 = .ok (.iinc 3 1, 3) := dq_132 (v := 1) dp_cX7_winter rfl (by decide) rfl
theorem dX7_winter_65 : decode cX7_winter 65 = .ok (.goto (-25), 3) := dq_167 (v := 65511) dp_cX7_winter rfl rfl
theorem dX7_winter_68 : decode cX7_winter 68 = .ok (.iload_n 2, 1) := dq_28 dp_cX7_winter rfl
theorem dX7_winter_69 : decode cX7_winter 69 = .ok (.ireturn, 1) := dq_172 dp_cX7_winter rfl
set_option maxRecDepth 20000 in
theorem gl_X7_stitch_X60 : GoodIn wsX7_stitch wsX60 := (dg_t (dg_t (dg_t (dg_t (dg_t (dg_t (dg_t (dg_t (dg_t (dg_t (dg_t (dg_t (dg_t (dg_t (dg_t (dg_t (dg_t (dg_t (dg_t (dg_t (dg_t (dg_t (dg_t (dg_t (dg_r gw_wsX60)))))))))))))))))))))))))
theorem ggX7_stitch_X6_has : GoodIn wsX7_stitch wsX6_has := (dg_c 7 rfl rfl (dg_c 8 rfl rfl gl_X7_stitch_X60))
set_option maxRecDepth 20000 in
theorem gX7_stitch_X6_has : GoodIn wsX7_stitch (wsV RX7 153 RX6 yX6_has wsX6_has) := goodIn_app (dg_c 3 rfl rfl (dg_c 4 rfl rfl (dg_c 5 rfl rfl (dg_c 6 rfl rfl dg_0)))) ggX7_stitch_X6_has
set_option maxRecDepth 20000 in
theorem gl_X7_stitch_X70 : GoodIn wsX7_stitch wsX70 := (dg_t (dg_t (dg_t (dg_t (dg_t (dg_t (dg_t (dg_t (dg_t (dg_t (dg_t (dg_t (dg_t (dg_t (dg_t (dg_t (dg_t (dg_t (dg_t (dg_t (dg_t (dg_t (dg_t (dg_t (dg_l (dg_l gw_wsX70))))))))))))))))))))))))))
theorem ggX7_stitch_X7_refuse : GoodIn wsX7_stitch wsX7_refuse := (dg_c 13 rfl rfl (dg_c 14 rfl rfl (dg_c 15 rfl rfl (dg_c 16 rfl rfl (dg_c 12 rfl rfl (dg_c 17 rfl rfl gl_X7_stitch_X70))))))
set_option maxRecDepth 20000 in
theorem gX7_stitch_X7_refuse : GoodIn wsX7_stitch (wsV RX7 63 RX7 yX7_refuse wsX7_refuse) := goodIn_app (dg_c 9 rfl rfl (dg_c 10 rfl rfl (dg_c 11 rfl rfl (dg_c 12 rfl rfl dg_0)))) ggX7_stitch_X7_refuse
set_option maxRecDepth 20000 in
theorem ggX7_stitch_X6_takeSlack : GoodIn wsX7_stitch wsX6_takeSlack := (dg_c 21 rfl rfl (dg_c 22 rfl rfl (dg_c 23 rfl rfl (dg_c 4 rfl rfl (dg_c 5 rfl rfl (dg_c 6 rfl rfl (dg_c 7 rfl rfl (dg_c 8 rfl rfl gl_X7_stitch_X60))))))))
set_option maxRecDepth 20000 in
theorem gX7_stitch_X6_takeSlack : GoodIn wsX7_stitch (wsV RX7 282 RX6 yX6_takeSlack wsX6_takeSlack) := goodIn_app (dg_c 18 rfl rfl (dg_c 19 rfl rfl (dg_c 20 rfl rfl (dg_c 6 rfl rfl dg_0)))) ggX7_stitch_X6_takeSlack
theorem dX7_stitch_0 : decode cX7_stitch 0 = .ok (.aload_n 0, 1) := dq_42 dp_cX7_stitch rfl
theorem dX7_stitch_1 : decode cX7_stitch 1 = .ok (.getfield 18, 3) := dq_180 dp_cX7_stitch rfl
theorem dX7_stitch_4 : decode cX7_stitch 4 = .ok (.getfield 140, 3) := dq_180 dp_cX7_stitch rfl
theorem dX7_stitch_7 : decode cX7_stitch 7 = .ok (.iload_n 1, 1) := dq_27 dp_cX7_stitch rfl
theorem dX7_stitch_8 : decode cX7_stitch 8 = .ok (.invokevirtual 153, 3) := dq_182 dp_cX7_stitch rfl
theorem dX7_stitch_11 : decode cX7_stitch 11 = .ok (.ifCond .ne 9, 3) := dq_154 (v := 9) dp_cX7_stitch rfl rfl
theorem dX7_stitch_14 : decode cX7_stitch 14 = .ok (.aload_n 0, 1) := dq_42 dp_cX7_stitch rfl
theorem dX7_stitch_15 : decode cX7_stitch 15 = .ok (.iconst 1, 1) := dq_4 dp_cX7_stitch rfl
theorem dX7_stitch_16 : decode cX7_stitch 16 = .ok (.invokevirtual 63, 3) := dq_182 dp_cX7_stitch rfl
theorem dX7_stitch_19 : decode cX7_stitch 19 = .ok (.ireturn, 1) := dq_172 dp_cX7_stitch rfl
theorem dX7_stitch_20 : decode cX7_stitch 20 = .ok (.aload_n 0, 1) := dq_42 dp_cX7_stitch rfl
theorem dX7_stitch_21 : decode cX7_stitch 21 = .ok (.getfield 18, 3) := dq_180 dp_cX7_stitch rfl
theorem dX7_stitch_24 : decode cX7_stitch 24 = .ok (.getfield 140, 3) := dq_180 dp_cX7_stitch rfl
theorem dX7_stitch_27 : decode cX7_stitch 27 = .ok (.iload_n 1, 1) := dq_27 dp_cX7_stitch rfl
theorem dX7_stitch_28 : decode cX7_stitch 28 = .ok (.invokevirtual 282, 3) := dq_182 dp_cX7_stitch rfl
theorem dX7_stitch_31 : decode cX7_stitch 31 = .ok (.ireturn, 1) := dq_172 dp_cX7_stitch rfl
theorem dX7_seed_0 : decode cX7_seed 0 = .ok (.aload_n 0, 1) := dq_42 dp_cX7_seed rfl
theorem dX7_seed_1 : decode cX7_seed 1 = .ok (.getfield 18, 3) := dq_180 dp_cX7_seed rfl
theorem dX7_seed_4 : decode cX7_seed 4 = .ok (.getfield 285, 3) := dq_180 dp_cX7_seed rfl
theorem dX7_seed_7 : decode cX7_seed 7 = .ok (.istore_n 2, 1) := dq_61 dp_cX7_seed rfl
theorem dX7_seed_8 : decode cX7_seed 8 = .ok (.aload_n 0, 1) := dq_42 dp_cX7_seed rfl
theorem dX7_seed_9 : decode cX7_seed 9 = .ok (.getfield 18, 3) := dq_180 dp_cX7_seed rfl
theorem dX7_seed_12 : decode cX7_seed 12 = .ok (.iload_n 1, 1) := dq_27 dp_cX7_seed rfl
theorem dX7_seed_13 : decode cX7_seed 13 = .ok (.putfield 285, 3) := dq_181 dp_cX7_seed rfl
theorem dX7_seed_16 : decode cX7_seed 16 = .ok (.iload_n 2, 1) := dq_28 dp_cX7_seed rfl
theorem dX7_seed_17 : decode cX7_seed 17 = .ok (.ireturn, 1) := dq_172 dp_cX7_seed rfl
set_option maxRecDepth 20000 in
theorem gl_X7_act_X00 : GoodIn wsX7_act wsX00 := (dg_t (dg_l (dg_r gw_wsX00)))
theorem ggX7_act_X0_pullAt : GoodIn wsX7_act wsX0_pullAt := (dg_c 8 rfl rfl (dg_c 9 rfl rfl (dg_c 10 rfl rfl (dg_c 11 rfl rfl (dg_c 12 rfl rfl (dg_c 13 rfl rfl gl_X7_act_X00))))))
set_option maxRecDepth 20000 in
theorem gX7_act_X0_pullAt : GoodIn wsX7_act (wsV RX7 100 RX0 yX0_pullAt wsX0_pullAt) := goodIn_app (dg_c 4 rfl rfl (dg_c 5 rfl rfl (dg_c 6 rfl rfl (dg_c 7 rfl rfl dg_0)))) ggX7_act_X0_pullAt
set_option maxRecDepth 20000 in
theorem ggX7_act_X7_within : GoodIn wsX7_act wsX7_within := (dg_c 13 rfl rfl dg_0)
set_option maxRecDepth 20000 in
theorem gX7_act_X7_within : GoodIn wsX7_act (va_wsS RX7 67 yX7_within wsX7_within) := goodIn_app (dg_c 14 rfl rfl (dg_c 11 rfl rfl (dg_c 12 rfl rfl dg_0))) ggX7_act_X7_within
set_option maxRecDepth 20000 in
theorem gl_X7_act_X20 : GoodIn wsX7_act wsX20 := (dg_t (dg_r gw_wsX20))
theorem gl_X7_act_X10 : GoodIn wsX7_act wsX10 := (dg_t (dg_l (dg_l (dg_r gw_wsX10))))
theorem ggX7_act_X1_begin : GoodIn wsX7_act wsX1_begin := (dg_c 19 rfl rfl (goodIn_app (goodIn_app (goodIn_app (dg_c 20 rfl rfl (dg_c 21 rfl rfl (dg_c 22 rfl rfl (dg_c 23 rfl rfl (dg_c 24 rfl rfl (dg_c 25 rfl rfl (dg_c 26 rfl rfl (dg_c 27 rfl rfl (dg_c 18 rfl rfl (dg_c 28 rfl rfl (dg_c 29 rfl rfl (dg_c 30 rfl rfl (dg_c 31 rfl rfl (dg_c 11 rfl rfl (dg_c 12 rfl rfl (dg_c 13 rfl rfl (dg_c 32 rfl rfl (dg_c 33 rfl rfl (dg_c 34 rfl rfl (dg_c 35 rfl rfl (dg_c 36 rfl rfl (dg_c 37 rfl rfl (dg_c 38 rfl rfl (dg_c 39 rfl rfl dg_0)))))))))))))))))))))))) (dg_c 40 rfl rfl dg_0)) gl_X7_act_X20) gl_X7_act_X10))
set_option maxRecDepth 20000 in
theorem gX7_act_X1_begin : GoodIn wsX7_act (wsV RX7 291 RX1 yX1_begin wsX1_begin) := goodIn_app (dg_c 15 rfl rfl (dg_c 16 rfl rfl (dg_c 17 rfl rfl (dg_c 18 rfl rfl dg_0)))) ggX7_act_X1_begin
theorem dX7_act_0 : decode cX7_act 0 = .ok (.aload_n 0, 1) := dq_42 dp_cX7_act rfl
theorem dX7_act_1 : decode cX7_act 1 = .ok (.getfield 42, 3) := dq_180 dp_cX7_act rfl
theorem dX7_act_4 : decode cX7_act 4 = .ok (.iconst 0, 1) := dq_3 dp_cX7_act rfl
theorem dX7_act_5 : decode cX7_act 5 = .ok (.putfield 288, 3) := dq_181 dp_cX7_act rfl
theorem dX7_act_8 : decode cX7_act 8 = .ok (.aload_n 0, 1) := dq_42 dp_cX7_act rfl
theorem dX7_act_9 : decode cX7_act 9 = .ok (.getfield 18, 3) := dq_180 dp_cX7_act rfl
theorem dX7_act_12 : decode cX7_act 12 = .ok (.iload_n 1, 1) := dq_27 dp_cX7_act rfl
theorem dX7_act_13 : decode cX7_act 13 = .ok (.invokevirtual 100, 3) := dq_182 dp_cX7_act rfl
theorem dX7_act_16 : decode cX7_act 16 = .ok (.astore 4, 2) := dq_58 dp_cX7_act rfl
theorem dX7_act_18 : decode cX7_act 18 = .ok (.aload 4, 2) := dq_25 dp_cX7_act rfl
theorem dX7_act_20 : decode cX7_act 20 = .ok (.ifnull 12, 3) := dq_198 (v := 12) dp_cX7_act rfl rfl
theorem dX7_act_23 : decode cX7_act 23 = .ok (.iload_n 2, 1) := dq_28 dp_cX7_act rfl
theorem dX7_act_24 : decode cX7_act 24 = .ok (.iconst 0, 1) := dq_3 dp_cX7_act rfl
theorem dX7_act_25 : decode cX7_act 25 = .ok (.iconst 2, 1) := dq_5 dp_cX7_act rfl
theorem dX7_act_26 : decode cX7_act 26 = .ok (.invokestatic 67, 3) := dq_184 dp_cX7_act rfl
theorem dX7_act_29 : decode cX7_act 29 = .ok (.ifCond .ne 5, 3) := dq_154 (v := 5) dp_cX7_act rfl rfl
theorem dX7_act_32 : decode cX7_act 32 = .ok (.iconst 0, 1) := dq_3 dp_cX7_act rfl
theorem dX7_act_33 : decode cX7_act 33 = .ok (.ireturn, 1) := dq_172 dp_cX7_act rfl
theorem dX7_act_34 : decode cX7_act 34 = .ok (.aload_n 0, 1) := dq_42 dp_cX7_act rfl
theorem dX7_act_35 : decode cX7_act 35 = .ok (.getfield 42, 3) := dq_180 dp_cX7_act rfl
theorem dX7_act_38 : decode cX7_act 38 = .ok (.aload 4, 2) := dq_25 dp_cX7_act rfl
theorem dX7_act_40 : decode cX7_act 40 = .ok (.iload_n 1, 1) := dq_27 dp_cX7_act rfl
theorem dX7_act_41 : decode cX7_act 41 = .ok (.iload_n 2, 1) := dq_28 dp_cX7_act rfl
theorem dX7_act_42 : decode cX7_act 42 = .ok (.iload_n 3, 1) := dq_29 dp_cX7_act rfl
theorem dX7_act_43 : decode cX7_act 43 = .ok (.invokevirtual 291, 3) := dq_182 dp_cX7_act rfl
theorem dX7_act_46 : decode cX7_act 46 = .ok (.ireturn, 1) := dq_172 dp_cX7_act rfl
set_option maxRecDepth 20000 in
theorem gl_X7_trace_X10 : GoodIn wsX7_trace wsX10 := (dg_t (dg_t (dg_t (dg_t (dg_t (dg_t (dg_t (dg_t (dg_t (dg_t (dg_t (dg_t (dg_t (dg_t (dg_t (dg_t (dg_r gw_wsX10)))))))))))))))))
theorem ggX7_trace_X1_bodyAt : GoodIn wsX7_trace wsX1_bodyAt := (dg_c 6 rfl rfl (dg_c 7 rfl rfl (dg_c 8 rfl rfl (dg_c 9 rfl rfl (dg_c 10 rfl rfl (dg_c 11 rfl rfl (dg_c 12 rfl rfl (dg_c 13 rfl rfl (dg_c 14 rfl rfl (dg_c 15 rfl rfl gl_X7_trace_X10))))))))))
set_option maxRecDepth 20000 in
theorem gX7_trace_X1_bodyAt : GoodIn wsX7_trace (wsV RX7 295 RX1 yX1_bodyAt wsX1_bodyAt) := goodIn_app (dg_c 2 rfl rfl (dg_c 3 rfl rfl (dg_c 4 rfl rfl (dg_c 5 rfl rfl dg_0)))) ggX7_trace_X1_bodyAt
theorem dX7_trace_0 : decode cX7_trace 0 = .ok (.aload_n 0, 1) := dq_42 dp_cX7_trace rfl
theorem dX7_trace_1 : decode cX7_trace 1 = .ok (.getfield 42, 3) := dq_180 dp_cX7_trace rfl
theorem dX7_trace_4 : decode cX7_trace 4 = .ok (.iload_n 1, 1) := dq_27 dp_cX7_trace rfl
theorem dX7_trace_5 : decode cX7_trace 5 = .ok (.invokevirtual 295, 3) := dq_182 dp_cX7_trace rfl
theorem dX7_trace_8 : decode cX7_trace 8 = .ok (.ireturn, 1) := dq_172 dp_cX7_trace rfl
set_option maxRecDepth 20000 in
theorem gl_X7_image_X00 : GoodIn wsX7_image wsX00 := (dg_t (dg_l (dg_r gw_wsX00)))
theorem gl_X7_image_X60 : GoodIn wsX7_image wsX60 := (dg_t (dg_r gw_wsX60))
theorem ggX7_image_X0_become : GoodIn wsX7_image wsX0_become := (dg_c 9 rfl rfl (dg_c 10 rfl rfl (dg_c 11 rfl rfl (dg_c 12 rfl rfl (dg_c 13 rfl rfl (dg_c 14 rfl rfl (dg_c 15 rfl rfl (dg_c 16 rfl rfl (dg_c 17 rfl rfl (dg_c 18 rfl rfl (dg_c 19 rfl rfl (dg_c 20 rfl rfl (dg_c 21 rfl rfl (dg_c 22 rfl rfl (dg_c 23 rfl rfl (dg_c 24 rfl rfl (dg_c 25 rfl rfl (dg_c 26 rfl rfl (dg_c 27 rfl rfl (dg_c 28 rfl rfl (dg_c 29 rfl rfl (dg_c 30 rfl rfl (dg_c 31 rfl rfl (dg_c 32 rfl rfl (goodIn_app gl_X7_image_X00 gl_X7_image_X60)))))))))))))))))))))))))
set_option maxRecDepth 20000 in
theorem gX7_image_X0_become : GoodIn wsX7_image (wsV RX7 298 RX0 yX0_become wsX0_become) := goodIn_app (dg_c 5 rfl rfl (dg_c 6 rfl rfl (dg_c 7 rfl rfl (dg_c 8 rfl rfl dg_0)))) ggX7_image_X0_become
theorem dX7_image_0 : decode cX7_image 0 = .ok (.aload_n 0, 1) := dq_42 dp_cX7_image rfl
theorem dX7_image_1 : decode cX7_image 1 = .ok (.getfield 22, 3) := dq_180 dp_cX7_image rfl
theorem dX7_image_4 : decode cX7_image 4 = .ok (.aload_n 0, 1) := dq_42 dp_cX7_image rfl
theorem dX7_image_5 : decode cX7_image 5 = .ok (.getfield 18, 3) := dq_180 dp_cX7_image rfl
theorem dX7_image_8 : decode cX7_image 8 = .ok (.invokevirtual 298, 3) := dq_182 dp_cX7_image rfl
theorem dX7_image_11 : decode cX7_image 11 = .ok (.aload_n 0, 1) := dq_42 dp_cX7_image rfl
theorem dX7_image_12 : decode cX7_image 12 = .ok (.iconst 1, 1) := dq_4 dp_cX7_image rfl
theorem dX7_image_13 : decode cX7_image 13 = .ok (.putfield 50, 3) := dq_181 dp_cX7_image rfl
theorem dX7_image_16 : decode cX7_image 16 = .ok (.aload_n 0, 1) := dq_42 dp_cX7_image rfl
theorem dX7_image_17 : decode cX7_image 17 = .ok (.getfield 22, 3) := dq_180 dp_cX7_image rfl
theorem dX7_image_20 : decode cX7_image 20 = .ok (.getfield 123, 3) := dq_180 dp_cX7_image rfl
theorem dX7_image_23 : decode cX7_image 23 = .ok (.ireturn, 1) := dq_172 dp_cX7_image rfl
set_option maxRecDepth 20000 in
theorem gl_X7_restore_X70 : GoodIn wsX7_restore wsX70 := (dg_t (dg_l (dg_l (dg_l (dg_r gw_wsX70)))))
theorem ggX7_restore_X7_refuse : GoodIn wsX7_restore wsX7_refuse := (dg_c 10 rfl rfl (dg_c 11 rfl rfl (dg_c 12 rfl rfl (dg_c 13 rfl rfl (dg_c 9 rfl rfl (dg_c 14 rfl rfl gl_X7_restore_X70))))))
set_option maxRecDepth 20000 in
theorem gX7_restore_X7_refuse : GoodIn wsX7_restore (wsV RX7 63 RX7 yX7_refuse wsX7_refuse) := goodIn_app (dg_c 6 rfl rfl (dg_c 7 rfl rfl (dg_c 8 rfl rfl (dg_c 9 rfl rfl dg_0)))) ggX7_restore_X7_refuse
set_option maxRecDepth 20000 in
theorem gl_X7_restore_X00 : GoodIn wsX7_restore wsX00 := (dg_t (dg_l (dg_l (dg_r gw_wsX00))))
theorem gl_X7_restore_X60 : GoodIn wsX7_restore wsX60 := (dg_t (dg_l (dg_r gw_wsX60)))
theorem ggX7_restore_X0_become : GoodIn wsX7_restore wsX0_become := (dg_c 19 rfl rfl (dg_c 20 rfl rfl (dg_c 21 rfl rfl (dg_c 22 rfl rfl (dg_c 23 rfl rfl (dg_c 24 rfl rfl (dg_c 25 rfl rfl (dg_c 26 rfl rfl (dg_c 27 rfl rfl (dg_c 28 rfl rfl (dg_c 29 rfl rfl (dg_c 30 rfl rfl (dg_c 31 rfl rfl (dg_c 32 rfl rfl (dg_c 33 rfl rfl (dg_c 34 rfl rfl (dg_c 35 rfl rfl (dg_c 36 rfl rfl (dg_c 37 rfl rfl (dg_c 38 rfl rfl (dg_c 39 rfl rfl (dg_c 40 rfl rfl (dg_c 41 rfl rfl (dg_c 42 rfl rfl (goodIn_app gl_X7_restore_X00 gl_X7_restore_X60)))))))))))))))))))))))))
set_option maxRecDepth 20000 in
theorem gX7_restore_X0_become : GoodIn wsX7_restore (wsV RX7 298 RX0 yX0_become wsX0_become) := goodIn_app (dg_c 15 rfl rfl (dg_c 16 rfl rfl (dg_c 17 rfl rfl (dg_c 18 rfl rfl dg_0)))) ggX7_restore_X0_become
set_option maxRecDepth 20000 in
theorem gl_X7_restore_X40 : GoodIn wsX7_restore wsX40 := (dg_t (dg_r gw_wsX40))
theorem ggX7_restore_X4_forgetFrom : GoodIn wsX7_restore wsX4_forgetFrom := (dg_c 47 rfl rfl (dg_c 48 rfl rfl gl_X7_restore_X40))
set_option maxRecDepth 20000 in
theorem gX7_restore_X4_forgetFrom : GoodIn wsX7_restore (wsV RX7 301 RX4 yX4_forgetFrom wsX4_forgetFrom) := goodIn_app (dg_c 43 rfl rfl (dg_c 44 rfl rfl (dg_c 45 rfl rfl (dg_c 46 rfl rfl dg_0)))) ggX7_restore_X4_forgetFrom
theorem dX7_restore_0 : decode cX7_restore 0 = .ok (.aload_n 0, 1) := dq_42 dp_cX7_restore rfl
theorem dX7_restore_1 : decode cX7_restore 1 = .ok (.getfield 50, 3) := dq_180 dp_cX7_restore rfl
theorem dX7_restore_4 : decode cX7_restore 4 = .ok (.ifCond .ne 10, 3) := dq_154 (v := 10) dp_cX7_restore rfl rfl
theorem dX7_restore_7 : decode cX7_restore 7 = .ok (.aload_n 0, 1) := dq_42 dp_cX7_restore rfl
theorem dX7_restore_8 : decode cX7_restore 8 = .ok (.bipush 6, 2) := dq_16 (v := 6) dp_cX7_restore rfl rfl
theorem dX7_restore_10 : decode cX7_restore 10 = .ok (.invokevirtual 63, 3) := dq_182 dp_cX7_restore rfl
theorem dX7_restore_13 : decode cX7_restore 13 = .ok (.ireturn, 1) := dq_172 dp_cX7_restore rfl
theorem dX7_restore_14 : decode cX7_restore 14 = .ok (.aload_n 0, 1) := dq_42 dp_cX7_restore rfl
theorem dX7_restore_15 : decode cX7_restore 15 = .ok (.getfield 18, 3) := dq_180 dp_cX7_restore rfl
theorem dX7_restore_18 : decode cX7_restore 18 = .ok (.aload_n 0, 1) := dq_42 dp_cX7_restore rfl
theorem dX7_restore_19 : decode cX7_restore 19 = .ok (.getfield 22, 3) := dq_180 dp_cX7_restore rfl
theorem dX7_restore_22 : decode cX7_restore 22 = .ok (.invokevirtual 298, 3) := dq_182 dp_cX7_restore rfl
theorem dX7_restore_25 : decode cX7_restore 25 = .ok (.iconst 0, 1) := dq_3 dp_cX7_restore rfl
theorem dX7_restore_26 : decode cX7_restore 26 = .ok (.istore_n 1, 1) := dq_60 dp_cX7_restore rfl
theorem dX7_restore_27 : decode cX7_restore 27 = .ok (.iload_n 1, 1) := dq_27 dp_cX7_restore rfl
theorem dX7_restore_28 : decode cX7_restore 28 = .ok (.bipush 8, 2) := dq_16 (v := 8) dp_cX7_restore rfl rfl
theorem dX7_restore_30 : decode cX7_restore 30 = .ok (.if_icmp .ge 25, 3) := dq_162 (v := 25) dp_cX7_restore rfl rfl
theorem dX7_restore_33 : decode cX7_restore 33 = .ok (.aload_n 0, 1) := dq_42 dp_cX7_restore rfl
theorem dX7_restore_34 : decode cX7_restore 34 = .ok (.getfield 11, 3) := dq_180 dp_cX7_restore rfl
theorem dX7_restore_37 : decode cX7_restore 37 = .ok (.iload_n 1, 1) := dq_27 dp_cX7_restore rfl
theorem dX7_restore_38 : decode cX7_restore 38 = .ok (.aaload, 1) := dq_50 dp_cX7_restore rfl
theorem dX7_restore_39 : decode cX7_restore 39 = .ok (.aload_n 0, 1) := dq_42 dp_cX7_restore rfl
theorem dX7_restore_40 : decode cX7_restore 40 = .ok (.getfield 18, 3) := dq_180 dp_cX7_restore rfl
theorem dX7_restore_43 : decode cX7_restore 43 = .ok (.getfield 123, 3) := dq_180 dp_cX7_restore rfl
theorem dX7_restore_46 : decode cX7_restore 46 = .ok (.invokevirtual 301, 3) := dq_182 dp_cX7_restore rfl
theorem dX7_restore_49 : decode cX7_restore 49 = .ok (.iinc 1 1, 3) := dq_132 (v := 1) dp_cX7_restore rfl (by decide) rfl
theorem dX7_restore_52 : decode cX7_restore 52 = .ok (.goto (-25), 3) := dq_167 (v := 65511) dp_cX7_restore rfl rfl
theorem dX7_restore_55 : decode cX7_restore 55 = .ok (.aload_n 0, 1) := dq_42 dp_cX7_restore rfl
theorem dX7_restore_56 : decode cX7_restore 56 = .ok (.getfield 18, 3) := dq_180 dp_cX7_restore rfl
theorem dX7_restore_59 : decode cX7_restore 59 = .ok (.getfield 123, 3) := dq_180 dp_cX7_restore rfl
theorem dX7_restore_62 : decode cX7_restore 62 = .ok (.ireturn, 1) := dq_172 dp_cX7_restore rfl
set_option maxRecDepth 20000 in
theorem ggX7_status_X7_within : GoodIn wsX7_status wsX7_within := (dg_c 18 rfl rfl dg_0)
set_option maxRecDepth 20000 in
theorem gX7_status_X7_within : GoodIn wsX7_status (va_wsS RX7 67 yX7_within wsX7_within) := goodIn_app (dg_c 15 rfl rfl (dg_c 16 rfl rfl (dg_c 17 rfl rfl dg_0))) ggX7_status_X7_within
theorem dX7_status_0 : decode cX7_status 0 = .ok (.iload_n 1, 1) := dq_27 dp_cX7_status rfl
theorem dX7_status_1 : decode cX7_status 1 = .ok (.bipush 11, 2) := dq_16 (v := 11) dp_cX7_status rfl rfl
theorem dX7_status_3 : decode cX7_status 3 = .ok (.bipush 17, 2) := dq_16 (v := 17) dp_cX7_status rfl rfl
theorem dX7_status_5 : decode cX7_status 5 = .ok (.invokestatic 67, 3) := dq_184 dp_cX7_status rfl
theorem dX7_status_8 : decode cX7_status 8 = .ok (.ifCond .eq 13, 3) := dq_153 (v := 13) dp_cX7_status rfl rfl
theorem dX7_status_11 : decode cX7_status 11 = .ok (.aload_n 0, 1) := dq_42 dp_cX7_status rfl
theorem dX7_status_12 : decode cX7_status 12 = .ok (.getfield 46, 3) := dq_180 dp_cX7_status rfl
theorem dX7_status_15 : decode cX7_status 15 = .ok (.iload_n 1, 1) := dq_27 dp_cX7_status rfl
theorem dX7_status_16 : decode cX7_status 16 = .ok (.bipush 10, 2) := dq_16 (v := 10) dp_cX7_status rfl rfl
theorem dX7_status_18 : decode cX7_status 18 = .ok (.isub, 1) := dq_100 dp_cX7_status rfl
theorem dX7_status_19 : decode cX7_status 19 = .ok (.iaload, 1) := dq_46 dp_cX7_status rfl
theorem dX7_status_20 : decode cX7_status 20 = .ok (.ireturn, 1) := dq_172 dp_cX7_status rfl
theorem dX7_status_21 : decode cX7_status 21 = .ok (.iload_n 1, 1) := dq_27 dp_cX7_status rfl
theorem dX7_status_22 : decode cX7_status 22 = .ok (.tableswitch 143 0 9 #[54, 62, 73, 84, 92, 100, 108, 116, 127, 135], 54) := by decide +kernel
theorem dX7_status_76 : decode cX7_status 76 = .ok (.aload_n 0, 1) := dq_42 dp_cX7_status rfl
theorem dX7_status_77 : decode cX7_status 77 = .ok (.getfield 18, 3) := dq_180 dp_cX7_status rfl
theorem dX7_status_80 : decode cX7_status 80 = .ok (.getfield 123, 3) := dq_180 dp_cX7_status rfl
theorem dX7_status_83 : decode cX7_status 83 = .ok (.ireturn, 1) := dq_172 dp_cX7_status rfl
theorem dX7_status_84 : decode cX7_status 84 = .ok (.aload_n 0, 1) := dq_42 dp_cX7_status rfl
theorem dX7_status_85 : decode cX7_status 85 = .ok (.getfield 18, 3) := dq_180 dp_cX7_status rfl
theorem dX7_status_88 : decode cX7_status 88 = .ok (.getfield 140, 3) := dq_180 dp_cX7_status rfl
theorem dX7_status_91 : decode cX7_status 91 = .ok (.getfield 144, 3) := dq_180 dp_cX7_status rfl
theorem dX7_status_94 : decode cX7_status 94 = .ok (.ireturn, 1) := dq_172 dp_cX7_status rfl
theorem dX7_status_95 : decode cX7_status 95 = .ok (.aload_n 0, 1) := dq_42 dp_cX7_status rfl
theorem dX7_status_96 : decode cX7_status 96 = .ok (.getfield 18, 3) := dq_180 dp_cX7_status rfl
theorem dX7_status_99 : decode cX7_status 99 = .ok (.getfield 140, 3) := dq_180 dp_cX7_status rfl
theorem dX7_status_102 : decode cX7_status 102 = .ok (.getfield 275, 3) := dq_180 dp_cX7_status rfl
theorem dX7_status_105 : decode cX7_status 105 = .ok (.ireturn, 1) := dq_172 dp_cX7_status rfl
theorem dX7_status_106 : decode cX7_status 106 = .ok (.aload_n 0, 1) := dq_42 dp_cX7_status rfl
theorem dX7_status_107 : decode cX7_status 107 = .ok (.getfield 18, 3) := dq_180 dp_cX7_status rfl
theorem dX7_status_110 : decode cX7_status 110 = .ok (.getfield 199, 3) := dq_180 dp_cX7_status rfl
theorem dX7_status_113 : decode cX7_status 113 = .ok (.ireturn, 1) := dq_172 dp_cX7_status rfl
theorem dX7_status_114 : decode cX7_status 114 = .ok (.aload_n 0, 1) := dq_42 dp_cX7_status rfl
theorem dX7_status_115 : decode cX7_status 115 = .ok (.getfield 18, 3) := dq_180 dp_cX7_status rfl
theorem dX7_status_118 : decode cX7_status 118 = .ok (.getfield 304, 3) := dq_180 dp_cX7_status rfl
theorem dX7_status_121 : decode cX7_status 121 = .ok (.ireturn, 1) := dq_172 dp_cX7_status rfl
theorem dX7_status_122 : decode cX7_status 122 = .ok (.aload_n 0, 1) := dq_42 dp_cX7_status rfl
theorem dX7_status_123 : decode cX7_status 123 = .ok (.getfield 18, 3) := dq_180 dp_cX7_status rfl
theorem dX7_status_126 : decode cX7_status 126 = .ok (.getfield 202, 3) := dq_180 dp_cX7_status rfl
theorem dX7_status_129 : decode cX7_status 129 = .ok (.ireturn, 1) := dq_172 dp_cX7_status rfl
theorem dX7_status_130 : decode cX7_status 130 = .ok (.aload_n 0, 1) := dq_42 dp_cX7_status rfl
theorem dX7_status_131 : decode cX7_status 131 = .ok (.getfield 18, 3) := dq_180 dp_cX7_status rfl
theorem dX7_status_134 : decode cX7_status 134 = .ok (.getfield 116, 3) := dq_180 dp_cX7_status rfl
theorem dX7_status_137 : decode cX7_status 137 = .ok (.ireturn, 1) := dq_172 dp_cX7_status rfl
theorem dX7_status_138 : decode cX7_status 138 = .ok (.aload_n 0, 1) := dq_42 dp_cX7_status rfl
theorem dX7_status_139 : decode cX7_status 139 = .ok (.getfield 18, 3) := dq_180 dp_cX7_status rfl
theorem dX7_status_142 : decode cX7_status 142 = .ok (.getfield 140, 3) := dq_180 dp_cX7_status rfl
theorem dX7_status_145 : decode cX7_status 145 = .ok (.getfield 307, 3) := dq_180 dp_cX7_status rfl
theorem dX7_status_148 : decode cX7_status 148 = .ok (.ireturn, 1) := dq_172 dp_cX7_status rfl
theorem dX7_status_149 : decode cX7_status 149 = .ok (.aload_n 0, 1) := dq_42 dp_cX7_status rfl
theorem dX7_status_150 : decode cX7_status 150 = .ok (.getfield 18, 3) := dq_180 dp_cX7_status rfl
theorem dX7_status_153 : decode cX7_status 153 = .ok (.getfield 285, 3) := dq_180 dp_cX7_status rfl
theorem dX7_status_156 : decode cX7_status 156 = .ok (.ireturn, 1) := dq_172 dp_cX7_status rfl
theorem dX7_status_157 : decode cX7_status 157 = .ok (.aload_n 0, 1) := dq_42 dp_cX7_status rfl
theorem dX7_status_158 : decode cX7_status 158 = .ok (.getfield 42, 3) := dq_180 dp_cX7_status rfl
theorem dX7_status_161 : decode cX7_status 161 = .ok (.getfield 288, 3) := dq_180 dp_cX7_status rfl
theorem dX7_status_164 : decode cX7_status 164 = .ok (.ireturn, 1) := dq_172 dp_cX7_status rfl
theorem dX7_status_165 : decode cX7_status 165 = .ok (.iconst (-1), 1) := dq_2 dp_cX7_status rfl
theorem dX7_status_166 : decode cX7_status 166 = .ok (.ireturn, 1) := dq_172 dp_cX7_status rfl
set_option maxRecDepth 20000 in
theorem ggX7_refuse_X7_within : GoodIn wsX7_refuse wsX7_within := (dg_c 5 rfl rfl dg_0)
set_option maxRecDepth 20000 in
theorem gX7_refuse_X7_within : GoodIn wsX7_refuse (va_wsS RX7 67 yX7_within wsX7_within) := goodIn_app (dg_c 2 rfl rfl (dg_c 3 rfl rfl (dg_c 4 rfl rfl dg_0))) ggX7_refuse_X7_within
theorem dX7_refuse_0 : decode cX7_refuse 0 = .ok (.iload_n 1, 1) := dq_27 dp_cX7_refuse rfl
theorem dX7_refuse_1 : decode cX7_refuse 1 = .ok (.iconst 1, 1) := dq_4 dp_cX7_refuse rfl
theorem dX7_refuse_2 : decode cX7_refuse 2 = .ok (.bipush 7, 2) := dq_16 (v := 7) dp_cX7_refuse rfl rfl
theorem dX7_refuse_4 : decode cX7_refuse 4 = .ok (.invokestatic 67, 3) := dq_184 dp_cX7_refuse rfl
theorem dX7_refuse_7 : decode cX7_refuse 7 = .ok (.ifCond .eq 13, 3) := dq_153 (v := 13) dp_cX7_refuse rfl rfl
theorem dX7_refuse_10 : decode cX7_refuse 10 = .ok (.aload_n 0, 1) := dq_42 dp_cX7_refuse rfl
theorem dX7_refuse_11 : decode cX7_refuse 11 = .ok (.getfield 46, 3) := dq_180 dp_cX7_refuse rfl
theorem dX7_refuse_14 : decode cX7_refuse 14 = .ok (.iload_n 1, 1) := dq_27 dp_cX7_refuse rfl
theorem dX7_refuse_15 : decode cX7_refuse 15 = .ok (.dup2, 1) := dq_92 dp_cX7_refuse rfl
theorem dX7_refuse_16 : decode cX7_refuse 16 = .ok (.iaload, 1) := dq_46 dp_cX7_refuse rfl
theorem dX7_refuse_17 : decode cX7_refuse 17 = .ok (.iconst 1, 1) := dq_4 dp_cX7_refuse rfl
theorem dX7_refuse_18 : decode cX7_refuse 18 = .ok (.iadd, 1) := dq_96 dp_cX7_refuse rfl
theorem dX7_refuse_19 : decode cX7_refuse 19 = .ok (.iastore, 1) := dq_79 dp_cX7_refuse rfl
theorem dX7_refuse_20 : decode cX7_refuse 20 = .ok (.iload_n 1, 1) := dq_27 dp_cX7_refuse rfl
theorem dX7_refuse_21 : decode cX7_refuse 21 = .ok (.ineg, 1) := dq_116 dp_cX7_refuse rfl
theorem dX7_refuse_22 : decode cX7_refuse 22 = .ok (.ireturn, 1) := dq_172 dp_cX7_refuse rfl
set_option maxRecDepth 20000 in
theorem gl_X7_refuseLower_X70 : GoodIn wsX7_refuseLower wsX70 := (dg_t (dg_t (dg_t (dg_t (dg_t (dg_t (dg_t (dg_t (dg_t (dg_t gw_wsX70))))))))))
theorem ggX7_refuseLower_X7_refuse : GoodIn wsX7_refuseLower wsX7_refuse := (dg_c 5 rfl rfl (dg_c 6 rfl rfl (dg_c 7 rfl rfl (dg_c 8 rfl rfl (dg_c 4 rfl rfl (dg_c 9 rfl rfl gl_X7_refuseLower_X70))))))
set_option maxRecDepth 20000 in
theorem gX7_refuseLower_X7_refuse : GoodIn wsX7_refuseLower (wsV RX7 63 RX7 yX7_refuse wsX7_refuse) := goodIn_app (dg_c 1 rfl rfl (dg_c 2 rfl rfl (dg_c 3 rfl rfl (dg_c 4 rfl rfl dg_0)))) ggX7_refuseLower_X7_refuse
theorem dX7_refuseLower_0 : decode cX7_refuseLower 0 = .ok (.aload_n 0, 1) := dq_42 dp_cX7_refuseLower rfl
theorem dX7_refuseLower_1 : decode cX7_refuseLower 1 = .ok (.iload_n 1, 1) := dq_27 dp_cX7_refuseLower rfl
theorem dX7_refuseLower_2 : decode cX7_refuseLower 2 = .ok (.invokevirtual 63, 3) := dq_182 dp_cX7_refuseLower rfl
theorem dX7_refuseLower_5 : decode cX7_refuseLower 5 = .ok (.bipush 10, 2) := dq_16 (v := 10) dp_cX7_refuseLower rfl rfl
theorem dX7_refuseLower_7 : decode cX7_refuseLower 7 = .ok (.isub, 1) := dq_100 dp_cX7_refuseLower rfl
theorem dX7_refuseLower_8 : decode cX7_refuseLower 8 = .ok (.ireturn, 1) := dq_172 dp_cX7_refuseLower rfl
set_option maxRecDepth 20000 in
theorem ggX7_shelfAt_X7_within : GoodIn wsX7_shelfAt wsX7_within := (dg_c 5 rfl rfl dg_0)
set_option maxRecDepth 20000 in
theorem gX7_shelfAt_X7_within : GoodIn wsX7_shelfAt (va_wsS RX7 67 yX7_within wsX7_within) := goodIn_app (dg_c 2 rfl rfl (dg_c 3 rfl rfl (dg_c 4 rfl rfl dg_0))) ggX7_shelfAt_X7_within
theorem dX7_shelfAt_0 : decode cX7_shelfAt 0 = .ok (.iload_n 1, 1) := dq_27 dp_cX7_shelfAt rfl
theorem dX7_shelfAt_1 : decode cX7_shelfAt 1 = .ok (.iconst 0, 1) := dq_3 dp_cX7_shelfAt rfl
theorem dX7_shelfAt_2 : decode cX7_shelfAt 2 = .ok (.bipush 7, 2) := dq_16 (v := 7) dp_cX7_shelfAt rfl rfl
theorem dX7_shelfAt_4 : decode cX7_shelfAt 4 = .ok (.invokestatic 67, 3) := dq_184 dp_cX7_shelfAt rfl
theorem dX7_shelfAt_7 : decode cX7_shelfAt 7 = .ok (.ifCond .eq 12, 3) := dq_153 (v := 12) dp_cX7_shelfAt rfl rfl
theorem dX7_shelfAt_10 : decode cX7_shelfAt 10 = .ok (.aload_n 0, 1) := dq_42 dp_cX7_shelfAt rfl
theorem dX7_shelfAt_11 : decode cX7_shelfAt 11 = .ok (.getfield 11, 3) := dq_180 dp_cX7_shelfAt rfl
theorem dX7_shelfAt_14 : decode cX7_shelfAt 14 = .ok (.iload_n 1, 1) := dq_27 dp_cX7_shelfAt rfl
theorem dX7_shelfAt_15 : decode cX7_shelfAt 15 = .ok (.aaload, 1) := dq_50 dp_cX7_shelfAt rfl
theorem dX7_shelfAt_16 : decode cX7_shelfAt 16 = .ok (.goto 4, 3) := dq_167 (v := 4) dp_cX7_shelfAt rfl rfl
theorem dX7_shelfAt_19 : decode cX7_shelfAt 19 = .ok (.aconst_null, 1) := dq_1 dp_cX7_shelfAt rfl
theorem dX7_shelfAt_20 : decode cX7_shelfAt 20 = .ok (.areturn, 1) := dq_176 dp_cX7_shelfAt rfl
set_option maxRecDepth 20000 in
theorem gl_X7_casesBy_X00 : GoodIn wsX7_casesBy wsX00 := (dg_t (dg_l (dg_l (dg_r gw_wsX00))))
theorem gl_X7_casesBy_X50 : GoodIn wsX7_casesBy wsX50 := (dg_t (dg_l (dg_r gw_wsX50)))
theorem gl_X7_casesBy_X20 : GoodIn wsX7_casesBy wsX20 := (dg_t (dg_r gw_wsX20))
theorem ggX7_casesBy_X5_look : GoodIn wsX7_casesBy wsX5_look := (dg_c 9 rfl rfl (goodIn_app (goodIn_app (goodIn_app (goodIn_app (dg_c 10 rfl rfl (dg_c 11 rfl rfl (dg_c 12 rfl rfl (dg_c 13 rfl rfl (dg_c 14 rfl rfl (dg_c 15 rfl rfl (dg_c 16 rfl rfl (dg_c 17 rfl rfl (dg_c 18 rfl rfl (dg_c 19 rfl rfl (dg_c 20 rfl rfl (dg_c 21 rfl rfl (dg_c 22 rfl rfl (dg_c 23 rfl rfl (dg_c 24 rfl rfl (dg_c 25 rfl rfl (dg_c 26 rfl rfl (dg_c 27 rfl rfl (dg_c 28 rfl rfl (dg_c 29 rfl rfl (dg_c 30 rfl rfl (dg_c 31 rfl rfl (dg_c 32 rfl rfl (dg_c 33 rfl rfl dg_0)))))))))))))))))))))))) (dg_c 34 rfl rfl (dg_c 35 rfl rfl (dg_c 36 rfl rfl (dg_c 37 rfl rfl (dg_c 38 rfl rfl (dg_c 39 rfl rfl (dg_c 40 rfl rfl (dg_c 41 rfl rfl (dg_c 42 rfl rfl dg_0)))))))))) gl_X7_casesBy_X00) gl_X7_casesBy_X50) gl_X7_casesBy_X20))
set_option maxRecDepth 20000 in
theorem gX7_casesBy_X5_look : GoodIn wsX7_casesBy (wsV RX7 195 RX5 yX5_look wsX5_look) := goodIn_app (dg_c 5 rfl rfl (dg_c 6 rfl rfl (dg_c 7 rfl rfl (dg_c 8 rfl rfl dg_0)))) ggX7_casesBy_X5_look
set_option maxRecDepth 20000 in
theorem ggX7_casesBy_X5_most : GoodIn wsX7_casesBy wsX5_most := (dg_c 45 rfl rfl (goodIn_app (goodIn_app (goodIn_app (dg_c 46 rfl rfl (dg_c 13 rfl rfl (dg_c 27 rfl rfl (dg_c 11 rfl rfl (dg_c 17 rfl rfl (dg_c 18 rfl rfl (dg_c 19 rfl rfl (dg_c 20 rfl rfl (dg_c 47 rfl rfl (dg_c 48 rfl rfl (dg_c 49 rfl rfl (dg_c 8 rfl rfl (dg_c 50 rfl rfl (dg_c 15 rfl rfl (dg_c 36 rfl rfl (dg_c 37 rfl rfl (dg_c 38 rfl rfl (dg_c 51 rfl rfl (dg_c 52 rfl rfl (dg_c 53 rfl rfl (dg_c 54 rfl rfl (dg_c 55 rfl rfl (dg_c 56 rfl rfl (dg_c 57 rfl rfl dg_0)))))))))))))))))))))))) (goodIn_app (dg_c 58 rfl rfl (dg_c 59 rfl rfl (dg_c 60 rfl rfl (dg_c 12 rfl rfl (dg_c 16 rfl rfl (dg_c 61 rfl rfl (dg_c 62 rfl rfl (dg_c 63 rfl rfl (dg_c 64 rfl rfl (dg_c 65 rfl rfl (dg_c 66 rfl rfl (dg_c 67 rfl rfl (dg_c 68 rfl rfl (dg_c 69 rfl rfl (dg_c 70 rfl rfl (dg_c 71 rfl rfl (dg_c 72 rfl rfl (dg_c 73 rfl rfl (dg_c 74 rfl rfl (dg_c 75 rfl rfl (dg_c 76 rfl rfl (dg_c 77 rfl rfl (dg_c 78 rfl rfl (dg_c 79 rfl rfl dg_0)))))))))))))))))))))))) (dg_c 80 rfl rfl (dg_c 81 rfl rfl (dg_c 82 rfl rfl (dg_c 83 rfl rfl (dg_c 43 rfl rfl (dg_c 44 rfl rfl (dg_c 84 rfl rfl (dg_c 85 rfl rfl (dg_c 86 rfl rfl (dg_c 87 rfl rfl dg_0)))))))))))) gl_X7_casesBy_X50) gl_X7_casesBy_X20))
set_option maxRecDepth 20000 in
theorem gX7_casesBy_X5_most_n208 : GoodIn wsX7_casesBy (wsX5_most) := ggX7_casesBy_X5_most
theorem dX7_casesBy_0 : decode cX7_casesBy 0 = .ok (.aload_n 0, 1) := dq_42 dp_cX7_casesBy rfl
theorem dX7_casesBy_1 : decode cX7_casesBy 1 = .ok (.getfield 28, 3) := dq_180 dp_cX7_casesBy rfl
theorem dX7_casesBy_4 : decode cX7_casesBy 4 = .ok (.aload_n 0, 1) := dq_42 dp_cX7_casesBy rfl
theorem dX7_casesBy_5 : decode cX7_casesBy 5 = .ok (.getfield 18, 3) := dq_180 dp_cX7_casesBy rfl
theorem dX7_casesBy_8 : decode cX7_casesBy 8 = .ok (.iload_n 1, 1) := dq_27 dp_cX7_casesBy rfl
theorem dX7_casesBy_9 : decode cX7_casesBy 9 = .ok (.iconst 1, 1) := dq_4 dp_cX7_casesBy rfl
theorem dX7_casesBy_10 : decode cX7_casesBy 10 = .ok (.invokevirtual 195, 3) := dq_182 dp_cX7_casesBy rfl
theorem dX7_casesBy_13 : decode cX7_casesBy 13 = .ok (.aload_n 0, 1) := dq_42 dp_cX7_casesBy rfl
theorem dX7_casesBy_14 : decode cX7_casesBy 14 = .ok (.getfield 28, 3) := dq_180 dp_cX7_casesBy rfl
theorem dX7_casesBy_17 : decode cX7_casesBy 17 = .ok (.iload_n 2, 1) := dq_28 dp_cX7_casesBy rfl
theorem dX7_casesBy_18 : decode cX7_casesBy 18 = .ok (.aload_n 0, 1) := dq_42 dp_cX7_casesBy rfl
theorem dX7_casesBy_19 : decode cX7_casesBy 19 = .ok (.getfield 18, 3) := dq_180 dp_cX7_casesBy rfl
theorem dX7_casesBy_22 : decode cX7_casesBy 22 = .ok (.getfield 199, 3) := dq_180 dp_cX7_casesBy rfl
theorem dX7_casesBy_25 : decode cX7_casesBy 25 = .ok (.aload_n 0, 1) := dq_42 dp_cX7_casesBy rfl
theorem dX7_casesBy_26 : decode cX7_casesBy 26 = .ok (.getfield 18, 3) := dq_180 dp_cX7_casesBy rfl
theorem dX7_casesBy_29 : decode cX7_casesBy 29 = .ok (.getfield 202, 3) := dq_180 dp_cX7_casesBy rfl
theorem dX7_casesBy_32 : decode cX7_casesBy 32 = .ok (.invokevirtual 208, 3) := dq_182 dp_cX7_casesBy rfl
theorem dX7_casesBy_35 : decode cX7_casesBy 35 = .ok (.ireturn, 1) := dq_172 dp_cX7_casesBy rfl
set_option maxRecDepth 20000 in
theorem gl_X7_freedWeight_X40 : GoodIn wsX7_freedWeight wsX40 := (dg_t (dg_l (dg_r gw_wsX40)))
theorem ggX7_freedWeight_X4_tells : GoodIn wsX7_freedWeight wsX4_tells := (dg_c 7 rfl rfl (dg_c 8 rfl rfl (dg_c 9 rfl rfl (dg_c 10 rfl rfl (dg_c 11 rfl rfl (dg_c 6 rfl rfl (dg_c 12 rfl rfl (dg_c 13 rfl rfl gl_X7_freedWeight_X40))))))))
set_option maxRecDepth 20000 in
theorem gX7_freedWeight_X4_tells : GoodIn wsX7_freedWeight (wsV RX7 227 RX4 yX4_tells wsX4_tells) := goodIn_app (dg_c 3 rfl rfl (dg_c 4 rfl rfl (dg_c 5 rfl rfl (dg_c 6 rfl rfl dg_0)))) ggX7_freedWeight_X4_tells
set_option maxRecDepth 20000 in
theorem gl_X7_freedWeight_X20 : GoodIn wsX7_freedWeight wsX20 := (dg_t (dg_r gw_wsX20))
theorem ggX7_freedWeight_X2_waysAt : GoodIn wsX7_freedWeight wsX2_waysAt := (dg_c 18 rfl rfl (dg_c 19 rfl rfl (dg_c 20 rfl rfl (dg_c 21 rfl rfl (dg_c 22 rfl rfl (dg_c 23 rfl rfl (dg_c 24 rfl rfl (dg_c 25 rfl rfl (dg_c 26 rfl rfl (dg_c 27 rfl rfl (dg_c 28 rfl rfl (dg_c 29 rfl rfl (dg_c 17 rfl rfl (dg_c 30 rfl rfl (dg_c 31 rfl rfl gl_X7_freedWeight_X20)))))))))))))))
set_option maxRecDepth 20000 in
theorem gX7_freedWeight_X2_waysAt : GoodIn wsX7_freedWeight (wsV RX7 119 RX2 yX2_waysAt wsX2_waysAt) := goodIn_app (dg_c 14 rfl rfl (dg_c 15 rfl rfl (dg_c 16 rfl rfl (dg_c 17 rfl rfl dg_0)))) ggX7_freedWeight_X2_waysAt
theorem dX7_freedWeight_0 : decode cX7_freedWeight 0 = .ok (.aload_n 1, 1) := dq_43 dp_cX7_freedWeight rfl
theorem dX7_freedWeight_1 : decode cX7_freedWeight 1 = .ok (.iconst 0, 1) := dq_3 dp_cX7_freedWeight rfl
theorem dX7_freedWeight_2 : decode cX7_freedWeight 2 = .ok (.invokevirtual 227, 3) := dq_182 dp_cX7_freedWeight rfl
theorem dX7_freedWeight_5 : decode cX7_freedWeight 5 = .ok (.bipush 12, 2) := dq_16 (v := 12) dp_cX7_freedWeight rfl rfl
theorem dX7_freedWeight_7 : decode cX7_freedWeight 7 = .ok (.imul, 1) := dq_104 dp_cX7_freedWeight rfl
theorem dX7_freedWeight_8 : decode cX7_freedWeight 8 = .ok (.istore_n 3, 1) := dq_62 dp_cX7_freedWeight rfl
theorem dX7_freedWeight_9 : decode cX7_freedWeight 9 = .ok (.iconst 1, 1) := dq_4 dp_cX7_freedWeight rfl
theorem dX7_freedWeight_10 : decode cX7_freedWeight 10 = .ok (.istore 4, 2) := dq_54 dp_cX7_freedWeight rfl
theorem dX7_freedWeight_12 : decode cX7_freedWeight 12 = .ok (.iload 4, 2) := dq_21 dp_cX7_freedWeight rfl
theorem dX7_freedWeight_14 : decode cX7_freedWeight 14 = .ok (.bipush 24, 2) := dq_16 (v := 24) dp_cX7_freedWeight rfl rfl
theorem dX7_freedWeight_16 : decode cX7_freedWeight 16 = .ok (.if_icmp .gt 32, 3) := dq_163 (v := 32) dp_cX7_freedWeight rfl rfl
theorem dX7_freedWeight_19 : decode cX7_freedWeight 19 = .ok (.iload_n 3, 1) := dq_29 dp_cX7_freedWeight rfl
theorem dX7_freedWeight_20 : decode cX7_freedWeight 20 = .ok (.aload_n 1, 1) := dq_43 dp_cX7_freedWeight rfl
theorem dX7_freedWeight_21 : decode cX7_freedWeight 21 = .ok (.iload 4, 2) := dq_21 dp_cX7_freedWeight rfl
theorem dX7_freedWeight_23 : decode cX7_freedWeight 23 = .ok (.invokevirtual 227, 3) := dq_182 dp_cX7_freedWeight rfl
theorem dX7_freedWeight_26 : decode cX7_freedWeight 26 = .ok (.aload_n 2, 1) := dq_44 dp_cX7_freedWeight rfl
theorem dX7_freedWeight_27 : decode cX7_freedWeight 27 = .ok (.iload 4, 2) := dq_21 dp_cX7_freedWeight rfl
theorem dX7_freedWeight_29 : decode cX7_freedWeight 29 = .ok (.aload_n 0, 1) := dq_42 dp_cX7_freedWeight rfl
theorem dX7_freedWeight_30 : decode cX7_freedWeight 30 = .ok (.getfield 18, 3) := dq_180 dp_cX7_freedWeight rfl
theorem dX7_freedWeight_33 : decode cX7_freedWeight 33 = .ok (.getfield 116, 3) := dq_180 dp_cX7_freedWeight rfl
theorem dX7_freedWeight_36 : decode cX7_freedWeight 36 = .ok (.invokevirtual 119, 3) := dq_182 dp_cX7_freedWeight rfl
theorem dX7_freedWeight_39 : decode cX7_freedWeight 39 = .ok (.imul, 1) := dq_104 dp_cX7_freedWeight rfl
theorem dX7_freedWeight_40 : decode cX7_freedWeight 40 = .ok (.iadd, 1) := dq_96 dp_cX7_freedWeight rfl
theorem dX7_freedWeight_41 : decode cX7_freedWeight 41 = .ok (.istore_n 3, 1) := dq_62 dp_cX7_freedWeight rfl
theorem dX7_freedWeight_42 : decode cX7_freedWeight 42 = .ok (.iinc 4 1, 3) := dq_132 (v := 1) dp_cX7_freedWeight rfl (by decide) rfl
theorem dX7_freedWeight_45 : decode cX7_freedWeight 45 = .ok (.goto (-33), 3) := dq_167 (v := 65503) dp_cX7_freedWeight rfl rfl
theorem dX7_freedWeight_48 : decode cX7_freedWeight 48 = .ok (.iload_n 3, 1) := dq_29 dp_cX7_freedWeight rfl
theorem dX7_freedWeight_49 : decode cX7_freedWeight 49 = .ok (.ireturn, 1) := dq_172 dp_cX7_freedWeight rfl
set_option maxRecDepth 20000 in
theorem gl_X7_firstWrong_X40 : GoodIn wsX7_firstWrong wsX40 := (dg_t (dg_r gw_wsX40))
theorem ggX7_firstWrong_X4_tells : GoodIn wsX7_firstWrong wsX4_tells := (dg_c 10 rfl rfl (dg_c 11 rfl rfl (dg_c 12 rfl rfl (dg_c 13 rfl rfl (dg_c 14 rfl rfl (dg_c 9 rfl rfl (dg_c 15 rfl rfl (dg_c 16 rfl rfl gl_X7_firstWrong_X40))))))))
set_option maxRecDepth 20000 in
theorem gX7_firstWrong_X4_tells : GoodIn wsX7_firstWrong (wsV RX7 227 RX4 yX4_tells wsX4_tells) := goodIn_app (dg_c 6 rfl rfl (dg_c 7 rfl rfl (dg_c 8 rfl rfl (dg_c 9 rfl rfl dg_0)))) ggX7_firstWrong_X4_tells
set_option maxRecDepth 20000 in
theorem gl_X7_firstWrong_X00 : GoodIn wsX7_firstWrong wsX00 := (dg_t (dg_l (dg_l (dg_r gw_wsX00))))
theorem ggX7_firstWrong_X0_pullAt : GoodIn wsX7_firstWrong wsX0_pullAt := (dg_c 21 rfl rfl (dg_c 22 rfl rfl (dg_c 23 rfl rfl (dg_c 24 rfl rfl (dg_c 25 rfl rfl (dg_c 26 rfl rfl gl_X7_firstWrong_X00))))))
set_option maxRecDepth 20000 in
theorem gX7_firstWrong_X0_pullAt : GoodIn wsX7_firstWrong (wsV RX7 100 RX0 yX0_pullAt wsX0_pullAt) := goodIn_app (dg_c 17 rfl rfl (dg_c 18 rfl rfl (dg_c 19 rfl rfl (dg_c 20 rfl rfl dg_0)))) ggX7_firstWrong_X0_pullAt
set_option maxRecDepth 20000 in
theorem gl_X7_firstWrong_X20 : GoodIn wsX7_firstWrong wsX20 := (dg_t (dg_l (dg_r gw_wsX20)))
theorem ggX7_firstWrong_X2_mayBe : GoodIn wsX7_firstWrong wsX2_mayBe := (dg_c 31 rfl rfl (dg_c 32 rfl rfl gl_X7_firstWrong_X20))
set_option maxRecDepth 20000 in
theorem gX7_firstWrong_X2_mayBe : GoodIn wsX7_firstWrong (wsV RX7 310 RX2 yX2_mayBe wsX2_mayBe) := goodIn_app (dg_c 27 rfl rfl (dg_c 28 rfl rfl (dg_c 29 rfl rfl (dg_c 30 rfl rfl dg_0)))) ggX7_firstWrong_X2_mayBe
set_option maxRecDepth 20000 in
theorem ggX7_firstWrong_X2_waysAt : GoodIn wsX7_firstWrong wsX2_waysAt := (dg_c 36 rfl rfl (dg_c 37 rfl rfl (dg_c 38 rfl rfl (dg_c 39 rfl rfl (dg_c 40 rfl rfl (dg_c 41 rfl rfl (dg_c 42 rfl rfl (dg_c 43 rfl rfl (dg_c 44 rfl rfl (dg_c 45 rfl rfl (dg_c 46 rfl rfl (dg_c 47 rfl rfl (dg_c 30 rfl rfl (dg_c 48 rfl rfl (dg_c 49 rfl rfl gl_X7_firstWrong_X20)))))))))))))))
set_option maxRecDepth 20000 in
theorem gX7_firstWrong_X2_waysAt : GoodIn wsX7_firstWrong (wsV RX7 119 RX2 yX2_waysAt wsX2_waysAt) := goodIn_app (dg_c 33 rfl rfl (dg_c 34 rfl rfl (dg_c 35 rfl rfl (dg_c 30 rfl rfl dg_0)))) ggX7_firstWrong_X2_waysAt
set_option maxRecDepth 20000 in
theorem ggX7_firstWrong_X2_shallower : GoodIn wsX7_firstWrong wsX2_shallower := (dg_c 53 rfl rfl (dg_c 42 rfl rfl (dg_c 43 rfl rfl (dg_c 40 rfl rfl (dg_c 44 rfl rfl (dg_c 54 rfl rfl (dg_c 55 rfl rfl (dg_c 56 rfl rfl (dg_c 30 rfl rfl (dg_c 57 rfl rfl (dg_c 37 rfl rfl (dg_c 49 rfl rfl gl_X7_firstWrong_X20))))))))))))
set_option maxRecDepth 20000 in
theorem gX7_firstWrong_X2_shallower : GoodIn wsX7_firstWrong (wsV RX7 186 RX2 yX2_shallower wsX2_shallower) := goodIn_app (dg_c 50 rfl rfl (dg_c 51 rfl rfl (dg_c 52 rfl rfl (dg_c 30 rfl rfl dg_0)))) ggX7_firstWrong_X2_shallower
set_option maxRecDepth 20000 in
theorem ggX7_firstWrong_X2_deeper : GoodIn wsX7_firstWrong wsX2_deeper := (dg_c 61 rfl rfl (dg_c 37 rfl rfl (dg_c 49 rfl rfl (dg_c 38 rfl rfl (dg_c 39 rfl rfl (dg_c 40 rfl rfl (dg_c 41 rfl rfl gl_X7_firstWrong_X20)))))))
set_option maxRecDepth 20000 in
theorem gX7_firstWrong_X2_deeper : GoodIn wsX7_firstWrong (wsV RX7 189 RX2 yX2_deeper wsX2_deeper) := goodIn_app (dg_c 58 rfl rfl (dg_c 59 rfl rfl (dg_c 60 rfl rfl (dg_c 30 rfl rfl dg_0)))) ggX7_firstWrong_X2_deeper
theorem dX7_firstWrong_0 : decode cX7_firstWrong 0 = .ok (.aload_n 0, 1) := dq_42 dp_cX7_firstWrong rfl
theorem dX7_firstWrong_1 : decode cX7_firstWrong 1 = .ok (.getfield 18, 3) := dq_180 dp_cX7_firstWrong rfl
theorem dX7_firstWrong_4 : decode cX7_firstWrong 4 = .ok (.getfield 199, 3) := dq_180 dp_cX7_firstWrong rfl
theorem dX7_firstWrong_7 : decode cX7_firstWrong 7 = .ok (.istore_n 3, 1) := dq_62 dp_cX7_firstWrong rfl
theorem dX7_firstWrong_8 : decode cX7_firstWrong 8 = .ok (.aload_n 0, 1) := dq_42 dp_cX7_firstWrong rfl
theorem dX7_firstWrong_9 : decode cX7_firstWrong 9 = .ok (.getfield 18, 3) := dq_180 dp_cX7_firstWrong rfl
theorem dX7_firstWrong_12 : decode cX7_firstWrong 12 = .ok (.getfield 202, 3) := dq_180 dp_cX7_firstWrong rfl
theorem dX7_firstWrong_15 : decode cX7_firstWrong 15 = .ok (.istore 4, 2) := dq_54 dp_cX7_firstWrong rfl
theorem dX7_firstWrong_17 : decode cX7_firstWrong 17 = .ok (.iconst 0, 1) := dq_3 dp_cX7_firstWrong rfl
theorem dX7_firstWrong_18 : decode cX7_firstWrong 18 = .ok (.istore 5, 2) := dq_54 dp_cX7_firstWrong rfl
theorem dX7_firstWrong_20 : decode cX7_firstWrong 20 = .ok (.iload 5, 2) := dq_21 dp_cX7_firstWrong rfl
theorem dX7_firstWrong_22 : decode cX7_firstWrong 22 = .ok (.iload_n 2, 1) := dq_28 dp_cX7_firstWrong rfl
theorem dX7_firstWrong_23 : decode cX7_firstWrong 23 = .ok (.if_icmp .ge 106, 3) := dq_162 (v := 106) dp_cX7_firstWrong rfl rfl
theorem dX7_firstWrong_26 : decode cX7_firstWrong 26 = .ok (.aload_n 0, 1) := dq_42 dp_cX7_firstWrong rfl
theorem dX7_firstWrong_27 : decode cX7_firstWrong 27 = .ok (.getfield 18, 3) := dq_180 dp_cX7_firstWrong rfl
theorem dX7_firstWrong_30 : decode cX7_firstWrong 30 = .ok (.aload_n 1, 1) := dq_43 dp_cX7_firstWrong rfl
theorem dX7_firstWrong_31 : decode cX7_firstWrong 31 = .ok (.iload 5, 2) := dq_21 dp_cX7_firstWrong rfl
theorem dX7_firstWrong_33 : decode cX7_firstWrong 33 = .ok (.invokevirtual 227, 3) := dq_182 dp_cX7_firstWrong rfl
theorem dX7_firstWrong_36 : decode cX7_firstWrong 36 = .ok (.invokevirtual 100, 3) := dq_182 dp_cX7_firstWrong rfl
theorem dX7_firstWrong_39 : decode cX7_firstWrong 39 = .ok (.astore 6, 2) := dq_58 dp_cX7_firstWrong rfl
theorem dX7_firstWrong_41 : decode cX7_firstWrong 41 = .ok (.aload 6, 2) := dq_25 dp_cX7_firstWrong rfl
theorem dX7_firstWrong_43 : decode cX7_firstWrong 43 = .ok (.ifnull 14, 3) := dq_198 (v := 14) dp_cX7_firstWrong rfl rfl
theorem dX7_firstWrong_46 : decode cX7_firstWrong 46 = .ok (.aload 6, 2) := dq_25 dp_cX7_firstWrong rfl
theorem dX7_firstWrong_48 : decode cX7_firstWrong 48 = .ok (.iload_n 3, 1) := dq_29 dp_cX7_firstWrong rfl
theorem dX7_firstWrong_49 : decode cX7_firstWrong 49 = .ok (.iload 4, 2) := dq_21 dp_cX7_firstWrong rfl
theorem dX7_firstWrong_51 : decode cX7_firstWrong 51 = .ok (.invokevirtual 310, 3) := dq_182 dp_cX7_firstWrong rfl
theorem dX7_firstWrong_54 : decode cX7_firstWrong 54 = .ok (.ifCond .ne 6, 3) := dq_154 (v := 6) dp_cX7_firstWrong rfl rfl
theorem dX7_firstWrong_57 : decode cX7_firstWrong 57 = .ok (.iload 5, 2) := dq_21 dp_cX7_firstWrong rfl
theorem dX7_firstWrong_59 : decode cX7_firstWrong 59 = .ok (.ireturn, 1) := dq_172 dp_cX7_firstWrong rfl
theorem dX7_firstWrong_60 : decode cX7_firstWrong 60 = .ok (.aload 6, 2) := dq_25 dp_cX7_firstWrong rfl
theorem dX7_firstWrong_62 : decode cX7_firstWrong 62 = .ok (.iload_n 3, 1) := dq_29 dp_cX7_firstWrong rfl
theorem dX7_firstWrong_63 : decode cX7_firstWrong 63 = .ok (.aload_n 0, 1) := dq_42 dp_cX7_firstWrong rfl
theorem dX7_firstWrong_64 : decode cX7_firstWrong 64 = .ok (.getfield 18, 3) := dq_180 dp_cX7_firstWrong rfl
theorem dX7_firstWrong_67 : decode cX7_firstWrong 67 = .ok (.getfield 116, 3) := dq_180 dp_cX7_firstWrong rfl
theorem dX7_firstWrong_70 : decode cX7_firstWrong 70 = .ok (.invokevirtual 119, 3) := dq_182 dp_cX7_firstWrong rfl
theorem dX7_firstWrong_73 : decode cX7_firstWrong 73 = .ok (.bipush 6, 2) := dq_16 (v := 6) dp_cX7_firstWrong rfl rfl
theorem dX7_firstWrong_75 : decode cX7_firstWrong 75 = .ok (.if_icmp .lt 7, 3) := dq_161 (v := 7) dp_cX7_firstWrong rfl rfl
theorem dX7_firstWrong_78 : decode cX7_firstWrong 78 = .ok (.iconst 1, 1) := dq_4 dp_cX7_firstWrong rfl
theorem dX7_firstWrong_79 : decode cX7_firstWrong 79 = .ok (.goto 4, 3) := dq_167 (v := 4) dp_cX7_firstWrong rfl rfl
theorem dX7_firstWrong_82 : decode cX7_firstWrong 82 = .ok (.iconst 0, 1) := dq_3 dp_cX7_firstWrong rfl
theorem dX7_firstWrong_83 : decode cX7_firstWrong 83 = .ok (.istore 7, 2) := dq_54 dp_cX7_firstWrong rfl
theorem dX7_firstWrong_85 : decode cX7_firstWrong 85 = .ok (.iload 7, 2) := dq_21 dp_cX7_firstWrong rfl
theorem dX7_firstWrong_87 : decode cX7_firstWrong 87 = .ok (.ifCond .eq 12, 3) := dq_153 (v := 12) dp_cX7_firstWrong rfl rfl
theorem dX7_firstWrong_90 : decode cX7_firstWrong 90 = .ok (.aload 6, 2) := dq_25 dp_cX7_firstWrong rfl
theorem dX7_firstWrong_92 : decode cX7_firstWrong 92 = .ok (.iload_n 3, 1) := dq_29 dp_cX7_firstWrong rfl
theorem dX7_firstWrong_93 : decode cX7_firstWrong 93 = .ok (.invokevirtual 186, 3) := dq_182 dp_cX7_firstWrong rfl
theorem dX7_firstWrong_96 : decode cX7_firstWrong 96 = .ok (.goto 16, 3) := dq_167 (v := 16) dp_cX7_firstWrong rfl rfl
theorem dX7_firstWrong_99 : decode cX7_firstWrong 99 = .ok (.aload 6, 2) := dq_25 dp_cX7_firstWrong rfl
theorem dX7_firstWrong_101 : decode cX7_firstWrong 101 = .ok (.iload_n 3, 1) := dq_29 dp_cX7_firstWrong rfl
theorem dX7_firstWrong_102 : decode cX7_firstWrong 102 = .ok (.aload_n 0, 1) := dq_42 dp_cX7_firstWrong rfl
theorem dX7_firstWrong_103 : decode cX7_firstWrong 103 = .ok (.getfield 18, 3) := dq_180 dp_cX7_firstWrong rfl
theorem dX7_firstWrong_106 : decode cX7_firstWrong 106 = .ok (.getfield 116, 3) := dq_180 dp_cX7_firstWrong rfl
theorem dX7_firstWrong_109 : decode cX7_firstWrong 109 = .ok (.invokevirtual 189, 3) := dq_182 dp_cX7_firstWrong rfl
theorem dX7_firstWrong_112 : decode cX7_firstWrong 112 = .ok (.istore_n 3, 1) := dq_62 dp_cX7_firstWrong rfl
theorem dX7_firstWrong_113 : decode cX7_firstWrong 113 = .ok (.iload 4, 2) := dq_21 dp_cX7_firstWrong rfl
theorem dX7_firstWrong_115 : decode cX7_firstWrong 115 = .ok (.aload 6, 2) := dq_25 dp_cX7_firstWrong rfl
theorem dX7_firstWrong_117 : decode cX7_firstWrong 117 = .ok (.getfield 110, 3) := dq_180 dp_cX7_firstWrong rfl
theorem dX7_firstWrong_120 : decode cX7_firstWrong 120 = .ok (.isub, 1) := dq_100 dp_cX7_firstWrong rfl
theorem dX7_firstWrong_121 : decode cX7_firstWrong 121 = .ok (.istore 4, 2) := dq_54 dp_cX7_firstWrong rfl
theorem dX7_firstWrong_123 : decode cX7_firstWrong 123 = .ok (.iinc 5 1, 3) := dq_132 (v := 1) dp_cX7_firstWrong rfl (by decide) rfl
theorem dX7_firstWrong_126 : decode cX7_firstWrong 126 = .ok (.goto (-106), 3) := dq_167 (v := 65430) dp_cX7_firstWrong rfl rfl
theorem dX7_firstWrong_129 : decode cX7_firstWrong 129 = .ok (.iconst (-1), 1) := dq_2 dp_cX7_firstWrong rfl
theorem dX7_firstWrong_130 : decode cX7_firstWrong 130 = .ok (.ireturn, 1) := dq_172 dp_cX7_firstWrong rfl
set_option maxRecDepth 20000 in
theorem gl_X7_rowsMeant_X40 : GoodIn wsX7_rowsMeant wsX40 := (dg_t (dg_l (dg_r gw_wsX40)))
theorem ggX7_rowsMeant_X4_tells : GoodIn wsX7_rowsMeant wsX4_tells := (dg_c 12 rfl rfl (dg_c 13 rfl rfl (dg_c 14 rfl rfl (dg_c 15 rfl rfl (dg_c 16 rfl rfl (dg_c 11 rfl rfl (dg_c 17 rfl rfl (dg_c 18 rfl rfl gl_X7_rowsMeant_X40))))))))
set_option maxRecDepth 20000 in
theorem gX7_rowsMeant_X4_tells : GoodIn wsX7_rowsMeant (wsV RX7 227 RX4 yX4_tells wsX4_tells) := goodIn_app (dg_c 8 rfl rfl (dg_c 9 rfl rfl (dg_c 10 rfl rfl (dg_c 11 rfl rfl dg_0)))) ggX7_rowsMeant_X4_tells
set_option maxRecDepth 20000 in
theorem gl_X7_rowsMeant_X00 : GoodIn wsX7_rowsMeant wsX00 := (dg_t (dg_l (dg_l (dg_r gw_wsX00))))
theorem gl_X7_rowsMeant_X20 : GoodIn wsX7_rowsMeant wsX20 := (dg_t (dg_r gw_wsX20))
theorem ggX7_rowsMeant_X0_pullsMaking : GoodIn wsX7_rowsMeant wsX0_pullsMaking := (dg_c 23 rfl rfl (goodIn_app (goodIn_app (goodIn_app (dg_c 24 rfl rfl (dg_c 25 rfl rfl (dg_c 26 rfl rfl (dg_c 27 rfl rfl (dg_c 28 rfl rfl (dg_c 22 rfl rfl (dg_c 29 rfl rfl (dg_c 30 rfl rfl (dg_c 31 rfl rfl (dg_c 32 rfl rfl (dg_c 33 rfl rfl (dg_c 34 rfl rfl (dg_c 35 rfl rfl (dg_c 36 rfl rfl (dg_c 37 rfl rfl (dg_c 38 rfl rfl (dg_c 39 rfl rfl (dg_c 40 rfl rfl (dg_c 41 rfl rfl (dg_c 42 rfl rfl (dg_c 43 rfl rfl (dg_c 44 rfl rfl (dg_c 5 rfl rfl (dg_c 6 rfl rfl dg_0)))))))))))))))))))))))) (dg_c 7 rfl rfl (dg_c 45 rfl rfl (dg_c 46 rfl rfl (dg_c 47 rfl rfl (dg_c 48 rfl rfl (dg_c 49 rfl rfl (dg_c 50 rfl rfl (dg_c 51 rfl rfl (dg_c 52 rfl rfl (dg_c 53 rfl rfl (dg_c 54 rfl rfl (dg_c 55 rfl rfl (dg_c 56 rfl rfl (dg_c 57 rfl rfl (dg_c 58 rfl rfl (dg_c 59 rfl rfl (dg_c 60 rfl rfl (dg_c 61 rfl rfl (dg_c 62 rfl rfl (dg_c 63 rfl rfl (dg_c 64 rfl rfl dg_0)))))))))))))))))))))) gl_X7_rowsMeant_X00) gl_X7_rowsMeant_X20))
set_option maxRecDepth 20000 in
theorem gX7_rowsMeant_X0_pullsMaking : GoodIn wsX7_rowsMeant (wsV RX7 313 RX0 yX0_pullsMaking wsX0_pullsMaking) := goodIn_app (dg_c 19 rfl rfl (dg_c 20 rfl rfl (dg_c 21 rfl rfl (dg_c 22 rfl rfl dg_0)))) ggX7_rowsMeant_X0_pullsMaking
theorem dX7_rowsMeant_0 : decode cX7_rowsMeant 0 = .ok (.iconst 1, 1) := dq_4 dp_cX7_rowsMeant rfl
theorem dX7_rowsMeant_1 : decode cX7_rowsMeant 1 = .ok (.istore_n 3, 1) := dq_62 dp_cX7_rowsMeant rfl
theorem dX7_rowsMeant_2 : decode cX7_rowsMeant 2 = .ok (.aload_n 0, 1) := dq_42 dp_cX7_rowsMeant rfl
theorem dX7_rowsMeant_3 : decode cX7_rowsMeant 3 = .ok (.getfield 18, 3) := dq_180 dp_cX7_rowsMeant rfl
theorem dX7_rowsMeant_6 : decode cX7_rowsMeant 6 = .ok (.getfield 199, 3) := dq_180 dp_cX7_rowsMeant rfl
theorem dX7_rowsMeant_9 : decode cX7_rowsMeant 9 = .ok (.istore 4, 2) := dq_54 dp_cX7_rowsMeant rfl
theorem dX7_rowsMeant_11 : decode cX7_rowsMeant 11 = .ok (.iconst 0, 1) := dq_3 dp_cX7_rowsMeant rfl
theorem dX7_rowsMeant_12 : decode cX7_rowsMeant 12 = .ok (.istore 5, 2) := dq_54 dp_cX7_rowsMeant rfl
theorem dX7_rowsMeant_14 : decode cX7_rowsMeant 14 = .ok (.iload 5, 2) := dq_21 dp_cX7_rowsMeant rfl
theorem dX7_rowsMeant_16 : decode cX7_rowsMeant 16 = .ok (.iload_n 2, 1) := dq_28 dp_cX7_rowsMeant rfl
theorem dX7_rowsMeant_17 : decode cX7_rowsMeant 17 = .ok (.if_icmp .ge 41, 3) := dq_162 (v := 41) dp_cX7_rowsMeant rfl rfl
theorem dX7_rowsMeant_20 : decode cX7_rowsMeant 20 = .ok (.aload_n 1, 1) := dq_43 dp_cX7_rowsMeant rfl
theorem dX7_rowsMeant_21 : decode cX7_rowsMeant 21 = .ok (.iload 5, 2) := dq_21 dp_cX7_rowsMeant rfl
theorem dX7_rowsMeant_23 : decode cX7_rowsMeant 23 = .ok (.invokevirtual 227, 3) := dq_182 dp_cX7_rowsMeant rfl
theorem dX7_rowsMeant_26 : decode cX7_rowsMeant 26 = .ok (.istore 6, 2) := dq_54 dp_cX7_rowsMeant rfl
theorem dX7_rowsMeant_28 : decode cX7_rowsMeant 28 = .ok (.ldc_w 312, 3) := dq_19 dp_cX7_rowsMeant rfl
theorem dX7_rowsMeant_31 : decode cX7_rowsMeant 31 = .ok (.iload_n 3, 1) := dq_29 dp_cX7_rowsMeant rfl
theorem dX7_rowsMeant_32 : decode cX7_rowsMeant 32 = .ok (.aload_n 0, 1) := dq_42 dp_cX7_rowsMeant rfl
theorem dX7_rowsMeant_33 : decode cX7_rowsMeant 33 = .ok (.getfield 18, 3) := dq_180 dp_cX7_rowsMeant rfl
theorem dX7_rowsMeant_36 : decode cX7_rowsMeant 36 = .ok (.iload 4, 2) := dq_21 dp_cX7_rowsMeant rfl
theorem dX7_rowsMeant_38 : decode cX7_rowsMeant 38 = .ok (.iload 6, 2) := dq_21 dp_cX7_rowsMeant rfl
theorem dX7_rowsMeant_40 : decode cX7_rowsMeant 40 = .ok (.invokevirtual 313, 3) := dq_182 dp_cX7_rowsMeant rfl
theorem dX7_rowsMeant_43 : decode cX7_rowsMeant 43 = .ok (.imul, 1) := dq_104 dp_cX7_rowsMeant rfl
theorem dX7_rowsMeant_44 : decode cX7_rowsMeant 44 = .ok (.invokestatic 316, 3) := dq_184 dp_cX7_rowsMeant rfl
theorem dX7_rowsMeant_47 : decode cX7_rowsMeant 47 = .ok (.istore_n 3, 1) := dq_62 dp_cX7_rowsMeant rfl
theorem dX7_rowsMeant_48 : decode cX7_rowsMeant 48 = .ok (.iload 6, 2) := dq_21 dp_cX7_rowsMeant rfl
theorem dX7_rowsMeant_50 : decode cX7_rowsMeant 50 = .ok (.istore 4, 2) := dq_54 dp_cX7_rowsMeant rfl
theorem dX7_rowsMeant_52 : decode cX7_rowsMeant 52 = .ok (.iinc 5 1, 3) := dq_132 (v := 1) dp_cX7_rowsMeant rfl (by decide) rfl
theorem dX7_rowsMeant_55 : decode cX7_rowsMeant 55 = .ok (.goto (-41), 3) := dq_167 (v := 65495) dp_cX7_rowsMeant rfl rfl
theorem dX7_rowsMeant_58 : decode cX7_rowsMeant 58 = .ok (.iload_n 3, 1) := dq_29 dp_cX7_rowsMeant rfl
theorem dX7_rowsMeant_59 : decode cX7_rowsMeant 59 = .ok (.ireturn, 1) := dq_172 dp_cX7_rowsMeant rfl
end
section
set_option maxHeartbeats 4000000 in
set_option maxRecDepth 100000 in
theorem c_Pull_calm_any (l : Launch) (D : va_G) (cI cJ cZ cP cS : ClassId) (po : zPool) (d : Int32) (u0 : Nat) (ki a_ ta : Int32) (hu_u0 : zPu po u0 ki a_ ta) (hr_u0 : zPr ki a_ ta) : Met l yX2_calmWaysAt wsX2_calmWaysAt ({ frames := 0, cells := 0, slots := 0, locals := 0 }) (va_Pc [.ref u0, .int d] (zR D (zKT cI cJ cZ cP cS) po [])) (vp_Si (fun r => True)) 0 0 (fun _ => False) := by
  refine Met.ofW (cc := cX2_calmWaysAt) (maxL := 2) (ret := (some .int)) (by decide) rfl ?_
  intro p e s m args below meth c s₁ B hml hv
  obtain ⟨rfl, hP, hK, hN, hZ⟩ := hv
  have hx := B.exec
  have hb := B.bytes
  have hr := B.returns
  have hts := atoms_spec (ws := wsX2_calmWaysAt) B.pre
  have hown : s.vm.findClass RX2 = some m.cls := findClass_of_methodNamed B.named
  have hlocks := B.notSynchronized
  have hl := lv_entry ([.ref u0, .int d]) (n := 2) (Nat.le_of_ble_eq_true rfl)
  rw [lg_entry_eq]
  generalize (lg_sl ([.ref u0, .int d]) ++ List.replicate (2 - (lg_sl ([.ref u0, .int d])).length) Slot.unset).toArray = ls at hl ⊢
  replace hl : lv_has ls 2 [(0, .ref u0), (1, .int d)] := hl
  obtain ⟨⟨p1_u0, p2_u0⟩, ⟨p3_u0, p4_u0⟩, p5_u0, p6_u0⟩ := id hr_u0
  refine lv_aload_n hx hb dX2_calmWaysAt_0 rfl (lv_at hl 0 rfl) ?_
  refine va_get (D := D) (ci := 2) (v := .int ki) (C := RX2) (T := TX2) (N := 3) hx hb hts hi_X2_calmWaysAt_2 hown hK (zPu_P hZ hu_u0) 0 rfl rfl 0 (by decide) (hts (.fieldLink RX2 9 "TheLiningsInIt$Pull" "kind" "I") (List.mem_of_getElem? (i := 1) rfl)) (fun _ h9 => h9) rfl dX2_calmWaysAt_1 ?_
  have hsp : ki = 0 ∨ ki = 1 ∨ ki = 2 ∨ ki = 3 ∨ ki = 4 ∨ ki = 5 ∨ ki = 6 := by
    rcases (show ki.toInt = 0 ∨ ki.toInt = 1 ∨ ki.toInt = 2 ∨ ki.toInt = 3 ∨ ki.toInt = 4 ∨ ki.toInt = 5 ∨ ki.toInt = 6 by omega) with h9 | h9 | h9 | h9 | h9 | h9 | h9
    · refine Or.inl ?_; exact zf_val h9 (by decide)
    · refine Or.inr (Or.inl ?_); exact zf_val h9 (by decide)
    · refine Or.inr (Or.inr (Or.inl ?_)); exact zf_val h9 (by decide)
    · refine Or.inr (Or.inr (Or.inr (Or.inl ?_))); exact zf_val h9 (by decide)
    · refine Or.inr (Or.inr (Or.inr (Or.inr (Or.inl ?_)))); exact zf_val h9 (by decide)
    · refine Or.inr (Or.inr (Or.inr (Or.inr (Or.inr (Or.inl ?_))))); exact zf_val h9 (by decide)
    · refine Or.inr (Or.inr (Or.inr (Or.inr (Or.inr (Or.inr (?_)))))); exact zf_val h9 (by decide)
  rcases hsp with rfl | rfl | rfl | rfl | rfl | rfl | rfl
  · have kc0 : (0 : Int32).toInt = 0 := by decide
    refine lv_tableOut (tgt := 95) hx hb dX2_calmWaysAt_4 (by decide) (by decide) ?_
    refine lv_bipush (v := 6) hx hb dX2_calmWaysAt_95 (by decide) ?_
    refine lv_iload_n hx hb dX2_calmWaysAt_97 rfl (lv_at hl 1 rfl) ?_
    refine lv_iconst (v := 4) hx hb dX2_calmWaysAt_98 (by decide) ?_
    refine lv_idiv hx hb dX2_calmWaysAt_99 (by decide) ?_
    refine lv_topi (fun x_1 ex_1 => ?_)
    refine lv_isub hx hb dX2_calmWaysAt_100 ?_
    refine lv_topi (fun x_2 ex_2 => ?_)
    exact W.iret (v := x_2) hx hb hr (fun t ht hW => ⟨x_2, rfl, trivial, ht⟩) (fun q hq => by cases hq) dX2_calmWaysAt_101
  · have kc1 : (1 : Int32).toInt = 1 := by decide
    refine lv_tableIn (tgt := 44) hx hb dX2_calmWaysAt_4 (by decide) (by decide) rfl (by decide) ?_
    refine lv_bipush (v := 8) hx hb dX2_calmWaysAt_44 (by decide) ?_
    refine lv_iload_n hx hb dX2_calmWaysAt_46 rfl (lv_at hl 1 rfl) ?_
    refine lv_iconst (v := 4) hx hb dX2_calmWaysAt_47 (by decide) ?_
    refine lv_idiv hx hb dX2_calmWaysAt_48 (by decide) ?_
    refine lv_topi (fun x_3 ex_3 => ?_)
    refine lv_isub hx hb dX2_calmWaysAt_49 ?_
    refine lv_topi (fun x_4 ex_4 => ?_)
    exact W.iret (v := x_4) hx hb hr (fun t ht hW => ⟨x_4, rfl, trivial, ht⟩) (fun q hq => by cases hq) dX2_calmWaysAt_50
  · have kc2 : (2 : Int32).toInt = 2 := by decide
    refine lv_tableIn (tgt := 65) hx hb dX2_calmWaysAt_4 (by decide) (by decide) rfl (by decide) ?_
    refine lv_bipush (v := 6) hx hb dX2_calmWaysAt_65 (by decide) ?_
    refine lv_iload_n hx hb dX2_calmWaysAt_67 rfl (lv_at hl 1 rfl) ?_
    refine lv_iconst (v := 4) hx hb dX2_calmWaysAt_68 (by decide) ?_
    refine lv_idiv hx hb dX2_calmWaysAt_69 (by decide) ?_
    refine lv_topi (fun x_5 ex_5 => ?_)
    refine lv_isub hx hb dX2_calmWaysAt_70 ?_
    refine lv_topi (fun x_6 ex_6 => ?_)
    refine lv_aload_n hx hb dX2_calmWaysAt_71 rfl (lv_at hl 0 rfl) ?_
    refine va_get (D := D) (ci := 2) (v := .int a_) (C := RX2) (T := TX2) (N := 3) hx hb hts hi_X2_calmWaysAt_2 hown hK (zPu_P hZ hu_u0) 0 rfl rfl 1 (by decide) (hts (.fieldLink RX2 15 "TheLiningsInIt$Pull" "a" "I") (List.mem_of_getElem? (i := 2) rfl)) (fun _ h9 => h9) rfl dX2_calmWaysAt_72 ?_
    refine lv_iconst (v := 3) hx hb dX2_calmWaysAt_75 (by decide) ?_
    refine lv_idiv hx hb dX2_calmWaysAt_76 (by decide) ?_
    refine lv_topi (fun x_7 ex_7 => ?_)
    have qx_7 : x_7.toInt = a_.toInt / 3 := by rw [ex_7]; exact zf_div rfl (by decide) (by omega) (by omega)
    refine lv_iadd hx hb dX2_calmWaysAt_77 ?_
    refine lv_topi (fun x_8 ex_8 => ?_)
    exact W.iret (v := x_8) hx hb hr (fun t ht hW => ⟨x_8, rfl, trivial, ht⟩) (fun q hq => by cases hq) dX2_calmWaysAt_78
  · have kc3 : (3 : Int32).toInt = 3 := by decide
    refine lv_tableIn (tgt := 51) hx hb dX2_calmWaysAt_4 (by decide) (by decide) rfl (by decide) ?_
    refine lv_bipush (v := 8) hx hb dX2_calmWaysAt_51 (by decide) ?_
    refine lv_iload_n hx hb dX2_calmWaysAt_53 rfl (lv_at hl 1 rfl) ?_
    refine lv_iconst (v := 4) hx hb dX2_calmWaysAt_54 (by decide) ?_
    refine lv_idiv hx hb dX2_calmWaysAt_55 (by decide) ?_
    refine lv_topi (fun x_9 ex_9 => ?_)
    refine lv_isub hx hb dX2_calmWaysAt_56 ?_
    refine lv_topi (fun x_10 ex_10 => ?_)
    refine lv_aload_n hx hb dX2_calmWaysAt_57 rfl (lv_at hl 0 rfl) ?_
    refine va_get (D := D) (ci := 2) (v := .int a_) (C := RX2) (T := TX2) (N := 3) hx hb hts hi_X2_calmWaysAt_2 hown hK (zPu_P hZ hu_u0) 0 rfl rfl 1 (by decide) (hts (.fieldLink RX2 15 "TheLiningsInIt$Pull" "a" "I") (List.mem_of_getElem? (i := 2) rfl)) (fun _ h9 => h9) rfl dX2_calmWaysAt_58 ?_
    refine lv_iconst (v := 2) hx hb dX2_calmWaysAt_61 (by decide) ?_
    refine lv_idiv hx hb dX2_calmWaysAt_62 (by decide) ?_
    refine lv_topi (fun x_11 ex_11 => ?_)
    have qx_11 : x_11.toInt = a_.toInt / 2 := by rw [ex_11]; exact zf_div rfl (by decide) (by omega) (by omega)
    refine lv_iadd hx hb dX2_calmWaysAt_63 ?_
    refine lv_topi (fun x_12 ex_12 => ?_)
    exact W.iret (v := x_12) hx hb hr (fun t ht hW => ⟨x_12, rfl, trivial, ht⟩) (fun q hq => by cases hq) dX2_calmWaysAt_64
  · have kc4 : (4 : Int32).toInt = 4 := by decide
    refine lv_tableIn (tgt := 79) hx hb dX2_calmWaysAt_4 (by decide) (by decide) rfl (by decide) ?_
    refine lv_bipush (v := 8) hx hb dX2_calmWaysAt_79 (by decide) ?_
    refine lv_iload_n hx hb dX2_calmWaysAt_81 rfl (lv_at hl 1 rfl) ?_
    refine lv_bipush (v := 6) hx hb dX2_calmWaysAt_82 (by decide) ?_
    refine lv_idiv hx hb dX2_calmWaysAt_84 (by decide) ?_
    refine lv_topi (fun x_13 ex_13 => ?_)
    refine lv_isub hx hb dX2_calmWaysAt_85 ?_
    refine lv_topi (fun x_14 ex_14 => ?_)
    exact W.iret (v := x_14) hx hb hr (fun t ht hW => ⟨x_14, rfl, trivial, ht⟩) (fun q hq => by cases hq) dX2_calmWaysAt_86
  · have kc5 : (5 : Int32).toInt = 5 := by decide
    refine lv_tableIn (tgt := 95) hx hb dX2_calmWaysAt_4 (by decide) (by decide) rfl (by decide) ?_
    refine lv_bipush (v := 6) hx hb dX2_calmWaysAt_95 (by decide) ?_
    refine lv_iload_n hx hb dX2_calmWaysAt_97 rfl (lv_at hl 1 rfl) ?_
    refine lv_iconst (v := 4) hx hb dX2_calmWaysAt_98 (by decide) ?_
    refine lv_idiv hx hb dX2_calmWaysAt_99 (by decide) ?_
    refine lv_topi (fun x_15 ex_15 => ?_)
    refine lv_isub hx hb dX2_calmWaysAt_100 ?_
    refine lv_topi (fun x_16 ex_16 => ?_)
    exact W.iret (v := x_16) hx hb hr (fun t ht hW => ⟨x_16, rfl, trivial, ht⟩) (fun q hq => by cases hq) dX2_calmWaysAt_101
  · have kc6 : (6 : Int32).toInt = 6 := by decide
    refine lv_tableIn (tgt := 87) hx hb dX2_calmWaysAt_4 (by decide) (by decide) rfl (by decide) ?_
    refine lv_bipush (v := 10) hx hb dX2_calmWaysAt_87 (by decide) ?_
    refine lv_iload_n hx hb dX2_calmWaysAt_89 rfl (lv_at hl 1 rfl) ?_
    refine lv_bipush (v := 6) hx hb dX2_calmWaysAt_90 (by decide) ?_
    refine lv_idiv hx hb dX2_calmWaysAt_92 (by decide) ?_
    refine lv_topi (fun x_17 ex_17 => ?_)
    refine lv_isub hx hb dX2_calmWaysAt_93 ?_
    refine lv_topi (fun x_18 ex_18 => ?_)
    exact W.iret (v := x_18) hx hb hr (fun t ht hW => ⟨x_18, rfl, trivial, ht⟩) (fun q hq => by cases hq) dX2_calmWaysAt_94
set_option maxHeartbeats 4000000 in
set_option maxRecDepth 100000 in
theorem c_Pull_waysAt_any (l : Launch) (D : va_G) (cI cJ cZ cP cS : ClassId) (po : zPool) (d h : Int32) (u0 : Nat) (ki a_ ta : Int32) (hu_u0 : zPu po u0 ki a_ ta) (hr_u0 : zPr ki a_ ta) (hy2 : 0 ≤ h.toInt) (hy3 : h.toInt ≤ 9) : Met l yX2_waysAt wsX2_waysAt ({ frames := 1, cells := 0, slots := 0, locals := 21 }) (va_Pc [.ref u0, .int d, .int h] (zR D (zKT cI cJ cZ cP cS) po [])) (vp_Si (fun r => 0 ≤ r.toInt ∧ r.toInt ≤ 12)) 0 0 (fun _ => False) := by
  refine Met.ofW (cc := cX2_waysAt) (maxL := 3) (ret := (some .int)) (by decide) rfl ?_
  intro p e s m args below meth c s₁ B hml hv
  obtain ⟨rfl, hP, hK, hN, hZ⟩ := hv
  have hx := B.exec
  have hb := B.bytes
  have hr := B.returns
  have hts := atoms_spec (ws := wsX2_waysAt) B.pre
  have hown : s.vm.findClass RX2 = some m.cls := findClass_of_methodNamed B.named
  have hlocks := B.notSynchronized
  have hl := lv_entry ([.ref u0, .int d, .int h]) (n := 3) (Nat.le_of_ble_eq_true rfl)
  rw [lg_entry_eq]
  generalize (lg_sl ([.ref u0, .int d, .int h]) ++ List.replicate (3 - (lg_sl ([.ref u0, .int d, .int h])).length) Slot.unset).toArray = ls at hl ⊢
  replace hl : lv_has ls 3 [(0, .ref u0), (1, .int d), (2, .int h)] := hl
  obtain ⟨⟨p1_u0, p2_u0⟩, ⟨p3_u0, p4_u0⟩, p5_u0, p6_u0⟩ := id hr_u0
  refine lv_aload_n hx hb dX2_waysAt_0 rfl (lv_at hl 0 rfl) ?_
  refine va_get (D := D) (ci := 2) (v := .int ki) (C := RX2) (T := TX2) (N := 3) hx hb hts hi_X2_waysAt_2 hown hK (zPu_P hZ hu_u0) 0 rfl rfl 0 (by decide) (hts (.fieldLink RX2 9 "TheLiningsInIt$Pull" "kind" "I") (List.mem_of_getElem? (i := 1) rfl)) (fun _ h9 => h9) rfl dX2_waysAt_1 ?_
  refine lv_iconst (v := 5) hx hb dX2_waysAt_4 (by decide) ?_
  refine lv_icmp_ne (tgt := 11) hx hb dX2_waysAt_5 (by decide) (fun c_1 => ?_) (fun c_1 => ?_)
  · have fc_1 : ki.toInt ≠ 5 := zf_ne c_1 rfl (by decide)
    refine lv_iconst (v := 0) hx hb dX2_waysAt_11 (by decide) ?_
    refine lv_bipush (v := 12) hx hb dX2_waysAt_12 (by decide) ?_
    refine lv_aload_n hx hb dX2_waysAt_14 rfl (lv_at hl 0 rfl) ?_
    refine lv_iload_n hx hb dX2_waysAt_15 rfl (lv_at hl 1 rfl) ?_
    refine zc_V (As := [.int d]) (rest := [.int 12, .int 0]) ⟨hx, hb, hml, hown, hts⟩ (c_Pull_calm_any l D cI cJ cZ cP cS po (d) u0 (ki) (a_) (ta) hu_u0 ⟨by omega, by omega, by omega, by omega⟩) (cwV 1 hts gX2_waysAt_X2_calmWaysAt rfl rfl rfl ⟨rfl, dh_X2_calmWaysAt⟩ ⟨Nat.le_of_ble_eq_true rfl, Nat.le_of_ble_eq_true rfl⟩) hK hN hZ hP zP_nil (va_recv (q := (RX2, TX2, 3)) hK (zPu_P hZ hu_u0) (ci := 2) (q0 := 0) rfl rfl) rfl hl.1 rfl (Nat.le_of_ble_eq_true rfl) dX2_waysAt_16 ⟨Nat.le_of_ble_eq_true rfl, Nat.le_of_ble_eq_true rfl⟩ (fun r_2 hr_2 => ?_)
    refine lv_iload_n hx hb dX2_waysAt_19 rfl (lv_at hl 2 rfl) ?_
    refine lv_iconst (v := 3) hx hb dX2_waysAt_20 (by decide) ?_
    refine lv_idiv hx hb dX2_waysAt_21 (by decide) ?_
    refine lv_topi (fun x_3 ex_3 => ?_)
    have qx_3 : x_3.toInt = h.toInt / 3 := by rw [ex_3]; exact zf_div rfl (by decide) (by omega) (by omega)
    refine lv_isub hx hb dX2_waysAt_22 ?_
    refine lv_topi (fun x_4 ex_4 => ?_)
    refine va_mmin hx hb (hml.trans hl.1.symm) hown (hts (.methodLink RX2 33 Lib.Math.min.name) (List.mem_of_getElem? (i := 2) rfl)) (hts _ (List.mem_of_getElem? (i := 3) rfl)) (hts _ (List.mem_of_getElem? (i := 4) rfl)) (hts _ (List.mem_of_getElem? (i := 5) rfl)) (Nat.le_of_ble_eq_true rfl) (Nat.le_of_ble_eq_true rfl) (Nat.le_of_ble_eq_true rfl) (Nat.le_of_ble_eq_true rfl) dX2_waysAt_23 ?_
    refine lv_topi (fun x_5 ex_5 => ?_)
    have qx_5 := zf_min ex_5 (x1 := 12) (y1 := x_4.toInt) (by decide) rfl
    refine va_mmax hx hb (hml.trans hl.1.symm) hown (hts (.methodLink RX2 39 Lib.Math.max.name) (List.mem_of_getElem? (i := 6) rfl)) (hts _ (List.mem_of_getElem? (i := 7) rfl)) (hts _ (List.mem_of_getElem? (i := 4) rfl)) (hts _ (List.mem_of_getElem? (i := 8) rfl)) (Nat.le_of_ble_eq_true rfl) (Nat.le_of_ble_eq_true rfl) (Nat.le_of_ble_eq_true rfl) (Nat.le_of_ble_eq_true rfl) dX2_waysAt_26 ?_
    refine lv_topi (fun x_6 ex_6 => ?_)
    have qx_6 := zf_max ex_6 (x1 := 0) (y1 := x_5.toInt) (by decide) rfl
    exact W.iret (v := x_6) hx hb hr (fun t ht hW => ⟨x_6, rfl, ⟨by omega, by omega⟩, ht⟩) (fun q hq => by cases hq) dX2_waysAt_29
  · have fc_1 : ki.toInt = 5 := zf_eq c_1 rfl (by decide)
    refine lv_bipush (v := 12) hx hb dX2_waysAt_8 (by decide) ?_
    exact W.iret (v := 12) hx hb hr (fun t ht hW => ⟨12, rfl, ⟨by decide, by decide⟩, ht⟩) (fun q hq => by cases hq) dX2_waysAt_10
set_option maxHeartbeats 4000000 in
set_option maxRecDepth 100000 in
theorem c_Pull_shallower_any (l : Launch) (D : va_G) (cI cJ cZ cP cS : ClassId) (po : zPool) (d : Int32) (u0 : Nat) (ki a_ ta : Int32) (hu_u0 : zPu po u0 ki a_ ta) (hr_u0 : zPr ki a_ ta) : Met l yX2_shallower wsX2_shallower ({ frames := 1, cells := 0, slots := 0, locals := 21 }) (va_Pc [.ref u0, .int d] (zR D (zKT cI cJ cZ cP cS) po [])) (vp_Si (fun r => True)) 0 0 (fun _ => False) := by
  refine Met.ofW (cc := cX2_shallower) (maxL := 2) (ret := (some .int)) (by decide) rfl ?_
  intro p e s m args below meth c s₁ B hml hv
  obtain ⟨rfl, hP, hK, hN, hZ⟩ := hv
  have hx := B.exec
  have hb := B.bytes
  have hr := B.returns
  have hts := atoms_spec (ws := wsX2_shallower) B.pre
  have hown : s.vm.findClass RX2 = some m.cls := findClass_of_methodNamed B.named
  have hlocks := B.notSynchronized
  have hl := lv_entry ([.ref u0, .int d]) (n := 2) (Nat.le_of_ble_eq_true rfl)
  rw [lg_entry_eq]
  generalize (lg_sl ([.ref u0, .int d]) ++ List.replicate (2 - (lg_sl ([.ref u0, .int d])).length) Slot.unset).toArray = ls at hl ⊢
  replace hl : lv_has ls 2 [(0, .ref u0), (1, .int d)] := hl
  obtain ⟨⟨p1_u0, p2_u0⟩, ⟨p3_u0, p4_u0⟩, p5_u0, p6_u0⟩ := id hr_u0
  refine lv_iconst (v := 0) hx hb dX2_shallower_0 (by decide) ?_
  refine lv_iload_n hx hb dX2_shallower_1 rfl (lv_at hl 1 rfl) ?_
  refine lv_aload_n hx hb dX2_shallower_2 rfl (lv_at hl 0 rfl) ?_
  refine zc_V (As := []) (rest := [.int d, .int 0]) ⟨hx, hb, hml, hown, hts⟩ (c_Pull_step l D cI cJ cZ cP cS po u0 (ki) (a_) (ta) hu_u0 ⟨by omega, by omega, by omega, by omega⟩) (cwV 0 hts gX2_shallower_X2_step rfl rfl rfl ⟨rfl, dh_X2_step⟩ ⟨Nat.le_of_ble_eq_true rfl, Nat.le_of_ble_eq_true rfl⟩) hK hN hZ hP zP_nil (va_recv (q := (RX2, TX2, 3)) hK (zPu_P hZ hu_u0) (ci := 2) (q0 := 0) rfl rfl) rfl hl.1 rfl (Nat.le_of_ble_eq_true rfl) dX2_shallower_3 ⟨Nat.le_of_ble_eq_true rfl, Nat.le_of_ble_eq_true rfl⟩ (fun r_1 hr_1 => ?_)
  obtain ⟨g_2, g_3⟩ := hr_1
  refine lv_isub hx hb dX2_shallower_6 ?_
  refine lv_topi (fun x_4 ex_4 => ?_)
  refine va_mmax hx hb (hml.trans hl.1.symm) hown (hts (.methodLink RX2 39 Lib.Math.max.name) (List.mem_of_getElem? (i := 1) rfl)) (hts _ (List.mem_of_getElem? (i := 2) rfl)) (hts _ (List.mem_of_getElem? (i := 3) rfl)) (hts _ (List.mem_of_getElem? (i := 4) rfl)) (Nat.le_of_ble_eq_true rfl) (Nat.le_of_ble_eq_true rfl) (Nat.le_of_ble_eq_true rfl) (Nat.le_of_ble_eq_true rfl) dX2_shallower_7 ?_
  refine lv_topi (fun x_5 ex_5 => ?_)
  have qx_5 := zf_max ex_5 (x1 := 0) (y1 := x_4.toInt) (by decide) rfl
  exact W.iret (v := x_5) hx hb hr (fun t ht hW => ⟨x_5, rfl, trivial, ht⟩) (fun q hq => by cases hq) dX2_shallower_10
set_option maxHeartbeats 4000000 in
set_option maxRecDepth 100000 in
theorem c_Pull_deeper_any (l : Launch) (D : va_G) (cI cJ cZ cP cS : ClassId) (po : zPool) (d h : Int32) (u0 : Nat) (ki a_ ta : Int32) (hu_u0 : zPu po u0 ki a_ ta) (hr_u0 : zPr ki a_ ta) (hy2 : 0 ≤ h.toInt) (hy3 : h.toInt ≤ 9) : Met l yX2_deeper wsX2_deeper ({ frames := 1, cells := 0, slots := 0, locals := 21 }) (va_Pc [.ref u0, .int d, .int h] (zR D (zKT cI cJ cZ cP cS) po [])) (vp_Si (fun r => True)) 0 0 (fun _ => False) := by
  refine Met.ofW (cc := cX2_deeper) (maxL := 4) (ret := (some .int)) (by decide) rfl ?_
  intro p e s m args below meth c s₁ B hml hv
  obtain ⟨rfl, hP, hK, hN, hZ⟩ := hv
  have hx := B.exec
  have hb := B.bytes
  have hr := B.returns
  have hts := atoms_spec (ws := wsX2_deeper) B.pre
  have hown : s.vm.findClass RX2 = some m.cls := findClass_of_methodNamed B.named
  have hlocks := B.notSynchronized
  have hl := lv_entry ([.ref u0, .int d, .int h]) (n := 4) (Nat.le_of_ble_eq_true rfl)
  rw [lg_entry_eq]
  generalize (lg_sl ([.ref u0, .int d, .int h]) ++ List.replicate (4 - (lg_sl ([.ref u0, .int d, .int h])).length) Slot.unset).toArray = ls at hl ⊢
  replace hl : lv_has ls 4 [(0, .ref u0), (1, .int d), (2, .int h)] := hl
  obtain ⟨⟨p1_u0, p2_u0⟩, ⟨p3_u0, p4_u0⟩, p5_u0, p6_u0⟩ := id hr_u0
  refine lv_aload_n hx hb dX2_deeper_0 rfl (lv_at hl 0 rfl) ?_
  refine va_get (D := D) (ci := 2) (v := .int ki) (C := RX2) (T := TX2) (N := 3) hx hb hts hi_X2_deeper_2 hown hK (zPu_P hZ hu_u0) 0 rfl rfl 0 (by decide) (hts (.fieldLink RX2 9 "TheLiningsInIt$Pull" "kind" "I") (List.mem_of_getElem? (i := 1) rfl)) (fun _ h9 => h9) rfl dX2_deeper_1 ?_
  refine lv_iconst (v := 5) hx hb dX2_deeper_4 (by decide) ?_
  refine lv_icmp_ne (tgt := 10) hx hb dX2_deeper_5 (by decide) (fun c_1 => ?_) (fun c_1 => ?_)
  · have fc_1 : ki.toInt ≠ 5 := zf_ne c_1 rfl (by decide)
    refine lv_aload_n hx hb dX2_deeper_10 rfl (lv_at hl 0 rfl) ?_
    refine va_get (D := D) (ci := 2) (v := .int ki) (C := RX2) (T := TX2) (N := 3) hx hb hts hi_X2_deeper_2 hown hK (zPu_P hZ hu_u0) 0 rfl rfl 0 (by decide) (hts (.fieldLink RX2 9 "TheLiningsInIt$Pull" "kind" "I") (List.mem_of_getElem? (i := 1) rfl)) (fun _ h9 => h9) rfl dX2_deeper_11 ?_
    refine lv_iconst (v := 2) hx hb dX2_deeper_14 (by decide) ?_
    refine lv_icmp_ne (tgt := 29) hx hb dX2_deeper_15 (by decide) (fun c_2 => ?_) (fun c_2 => ?_)
    · have fc_2 : ki.toInt ≠ 2 := zf_ne c_2 rfl (by decide)
      refine lv_iconst (v := 0) hx hb dX2_deeper_29 (by decide) ?_
      refine lv_istore_n (lv' := [(3, .int 0), (0, .ref u0), (1, .int d), (2, .int h)]) hx hb dX2_deeper_30 rfl hl (by decide) rfl (fun ls hl => ?_)
      refine lv_iload_n hx hb dX2_deeper_31 rfl (lv_at hl 3 rfl) ?_
      refine lv_bipush (v := 6) hx hb dX2_deeper_32 (by decide) ?_
      refine lv_icmp_lt (tgt := 40) hx hb dX2_deeper_34 (by decide) (fun c_3 => ?_) (fun c_3 => ?_)
      · have fc_3 : h.toInt < 6 := zf_lt c_3 rfl (by decide)
        refine lv_bipush (v := 24) hx hb dX2_deeper_40 (by decide) ?_
        refine lv_iload_n hx hb dX2_deeper_42 rfl (lv_at hl 2 rfl) ?_
        refine lv_iload_n hx hb dX2_deeper_43 rfl (lv_at hl 0 rfl) ?_
        refine lv_iadd hx hb dX2_deeper_44 ?_
        refine lv_topi (fun y_4 ey_4 => ?_)
        obtain rfl : d = y_4 := (ey_4.trans (Int32.add_zero d)).symm
        refine va_mmin hx hb (hml.trans hl.1.symm) hown (hts (.methodLink RX2 33 Lib.Math.min.name) (List.mem_of_getElem? (i := 3) rfl)) (hts _ (List.mem_of_getElem? (i := 4) rfl)) (hts _ (List.mem_of_getElem? (i := 5) rfl)) (hts _ (List.mem_of_getElem? (i := 6) rfl)) (Nat.le_of_ble_eq_true rfl) (Nat.le_of_ble_eq_true rfl) (Nat.le_of_ble_eq_true rfl) (Nat.le_of_ble_eq_true rfl) dX2_deeper_45 ?_
        refine lv_topi (fun x_5 ex_5 => ?_)
        have qx_5 := zf_min ex_5 (x1 := 24) (y1 := d.toInt) (by decide) rfl
        exact W.iret (v := x_5) hx hb hr (fun t ht hW => ⟨x_5, rfl, trivial, ht⟩) (fun q hq => by cases hq) dX2_deeper_48
      · have fc_3 : 6 ≤ h.toInt := zf_nlt c_3 rfl (by decide)
        refine lv_iinc (v := 1) (lv' := [(3, .int 1), (0, .ref u0), (1, .int d), (2, .int h)]) hx hb dX2_deeper_37 hl (k := 0) rfl (by decide) (by decide) rfl (fun ls hl => ?_)
        refine lv_bipush (v := 24) hx hb dX2_deeper_40 (by decide) ?_
        refine lv_iload_n hx hb dX2_deeper_42 rfl (lv_at hl 2 rfl) ?_
        refine lv_iload_n hx hb dX2_deeper_43 rfl (lv_at hl 0 rfl) ?_
        refine lv_iadd hx hb dX2_deeper_44 ?_
        refine lv_topi (fun x_6 ex_6 => ?_)
        refine va_mmin hx hb (hml.trans hl.1.symm) hown (hts (.methodLink RX2 33 Lib.Math.min.name) (List.mem_of_getElem? (i := 3) rfl)) (hts _ (List.mem_of_getElem? (i := 4) rfl)) (hts _ (List.mem_of_getElem? (i := 5) rfl)) (hts _ (List.mem_of_getElem? (i := 6) rfl)) (Nat.le_of_ble_eq_true rfl) (Nat.le_of_ble_eq_true rfl) (Nat.le_of_ble_eq_true rfl) (Nat.le_of_ble_eq_true rfl) dX2_deeper_45 ?_
        refine lv_topi (fun x_7 ex_7 => ?_)
        have qx_7 := zf_min ex_7 (x1 := 24) (y1 := x_6.toInt) (by decide) rfl
        exact W.iret (v := x_7) hx hb hr (fun t ht hW => ⟨x_7, rfl, trivial, ht⟩) (fun q hq => by cases hq) dX2_deeper_48
    · have fc_2 : ki.toInt = 2 := zf_eq c_2 rfl (by decide)
      refine lv_iconst (v := 1) hx hb dX2_deeper_18 (by decide) ?_
      refine lv_aload_n hx hb dX2_deeper_19 rfl (lv_at hl 0 rfl) ?_
      refine va_get (D := D) (ci := 2) (v := .int a_) (C := RX2) (T := TX2) (N := 3) hx hb hts hi_X2_deeper_2 hown hK (zPu_P hZ hu_u0) 0 rfl rfl 1 (by decide) (hts (.fieldLink RX2 15 "TheLiningsInIt$Pull" "a" "I") (List.mem_of_getElem? (i := 2) rfl)) (fun _ h9 => h9) rfl dX2_deeper_20 ?_
      refine lv_iconst (v := 3) hx hb dX2_deeper_23 (by decide) ?_
      refine lv_idiv hx hb dX2_deeper_24 (by decide) ?_
      refine lv_topi (fun x_8 ex_8 => ?_)
      have qx_8 : x_8.toInt = a_.toInt / 3 := by rw [ex_8]; exact zf_div rfl (by decide) (by omega) (by omega)
      refine lv_iadd hx hb dX2_deeper_25 ?_
      refine lv_topi (fun x_9 ex_9 => ?_)
      have qx_9 : x_9.toInt = 1 + x_8.toInt := by rw [ex_9]; exact zf_add (by decide) rfl (by omega) (by omega)
      refine lv_goto (tgt := 30) hx hb dX2_deeper_26 (by decide) ?_
      refine lv_istore_n (lv' := [(3, .int x_9), (0, .ref u0), (1, .int d), (2, .int h)]) hx hb dX2_deeper_30 rfl hl (by decide) rfl (fun ls hl => ?_)
      refine lv_iload_n hx hb dX2_deeper_31 rfl (lv_at hl 3 rfl) ?_
      refine lv_bipush (v := 6) hx hb dX2_deeper_32 (by decide) ?_
      refine lv_icmp_lt (tgt := 40) hx hb dX2_deeper_34 (by decide) (fun c_10 => ?_) (fun c_10 => ?_)
      · have fc_10 : h.toInt < 6 := zf_lt c_10 rfl (by decide)
        refine lv_bipush (v := 24) hx hb dX2_deeper_40 (by decide) ?_
        refine lv_iload_n hx hb dX2_deeper_42 rfl (lv_at hl 2 rfl) ?_
        refine lv_iload_n hx hb dX2_deeper_43 rfl (lv_at hl 0 rfl) ?_
        refine lv_iadd hx hb dX2_deeper_44 ?_
        refine lv_topi (fun x_11 ex_11 => ?_)
        refine va_mmin hx hb (hml.trans hl.1.symm) hown (hts (.methodLink RX2 33 Lib.Math.min.name) (List.mem_of_getElem? (i := 3) rfl)) (hts _ (List.mem_of_getElem? (i := 4) rfl)) (hts _ (List.mem_of_getElem? (i := 5) rfl)) (hts _ (List.mem_of_getElem? (i := 6) rfl)) (Nat.le_of_ble_eq_true rfl) (Nat.le_of_ble_eq_true rfl) (Nat.le_of_ble_eq_true rfl) (Nat.le_of_ble_eq_true rfl) dX2_deeper_45 ?_
        refine lv_topi (fun x_12 ex_12 => ?_)
        have qx_12 := zf_min ex_12 (x1 := 24) (y1 := x_11.toInt) (by decide) rfl
        exact W.iret (v := x_12) hx hb hr (fun t ht hW => ⟨x_12, rfl, trivial, ht⟩) (fun q hq => by cases hq) dX2_deeper_48
      · have fc_10 : 6 ≤ h.toInt := zf_nlt c_10 rfl (by decide)
        obtain ⟨x_13, ex_13⟩ : ∃ y : Int32, y = x_9 + 1 := ⟨_, rfl⟩
        have qx_13 : x_13.toInt = x_9.toInt + 1 := by rw [ex_13]; exact zf_add rfl (by decide) (by omega) (by omega)
        refine lv_iinc (v := x_13) (lv' := [(3, .int x_13), (0, .ref u0), (1, .int d), (2, .int h)]) hx hb dX2_deeper_37 hl (k := 0) rfl ex_13.symm (by decide) rfl (fun ls hl => ?_)
        refine lv_bipush (v := 24) hx hb dX2_deeper_40 (by decide) ?_
        refine lv_iload_n hx hb dX2_deeper_42 rfl (lv_at hl 2 rfl) ?_
        refine lv_iload_n hx hb dX2_deeper_43 rfl (lv_at hl 0 rfl) ?_
        refine lv_iadd hx hb dX2_deeper_44 ?_
        refine lv_topi (fun x_14 ex_14 => ?_)
        refine va_mmin hx hb (hml.trans hl.1.symm) hown (hts (.methodLink RX2 33 Lib.Math.min.name) (List.mem_of_getElem? (i := 3) rfl)) (hts _ (List.mem_of_getElem? (i := 4) rfl)) (hts _ (List.mem_of_getElem? (i := 5) rfl)) (hts _ (List.mem_of_getElem? (i := 6) rfl)) (Nat.le_of_ble_eq_true rfl) (Nat.le_of_ble_eq_true rfl) (Nat.le_of_ble_eq_true rfl) (Nat.le_of_ble_eq_true rfl) dX2_deeper_45 ?_
        refine lv_topi (fun x_15 ex_15 => ?_)
        have qx_15 := zf_min ex_15 (x1 := 24) (y1 := x_14.toInt) (by decide) rfl
        exact W.iret (v := x_15) hx hb hr (fun t ht hW => ⟨x_15, rfl, trivial, ht⟩) (fun q hq => by cases hq) dX2_deeper_48
  · have fc_1 : ki.toInt = 5 := zf_eq c_1 rfl (by decide)
    refine lv_iload_n hx hb dX2_deeper_8 rfl (lv_at hl 1 rfl) ?_
    exact W.iret (v := d) hx hb hr (fun t ht hW => ⟨d, rfl, trivial, ht⟩) (fun q hq => by cases hq) dX2_deeper_9
set_option maxHeartbeats 4000000 in
set_option maxRecDepth 100000 in
theorem c_Pull_makes_any (l : Launch) (D : va_G) (cI cJ cZ cP cS : ClassId) (po : zPool) (d to h : Int32) (u0 : Nat) (ki a_ ta : Int32) (hu_u0 : zPu po u0 ki a_ ta) (hr_u0 : zPr ki a_ ta) (hy2 : 0 ≤ h.toInt) (hy3 : h.toInt ≤ 9) : Met l yX2_makes wsX2_makes ({ frames := 2, cells := 0, slots := 0, locals := 44 }) (va_Pc [.ref u0, .int d, .int to, .int h] (zR D (zKT cI cJ cZ cP cS) po [])) (vp_Si (fun r => 0 ≤ r.toInt ∧ r.toInt ≤ 1)) 0 0 (fun _ => False) := by
  refine Met.ofW (cc := cX2_makes) (maxL := 5) (ret := (some .boolean)) (by decide) rfl ?_
  intro p e s m args below meth c s₁ B hml hv
  obtain ⟨rfl, hP, hK, hN, hZ⟩ := hv
  have hx := B.exec
  have hb := B.bytes
  have hr := B.returns
  have hts := atoms_spec (ws := wsX2_makes) B.pre
  have hown : s.vm.findClass RX2 = some m.cls := findClass_of_methodNamed B.named
  have hlocks := B.notSynchronized
  have hl := lv_entry ([.ref u0, .int d, .int to, .int h]) (n := 5) (Nat.le_of_ble_eq_true rfl)
  rw [lg_entry_eq]
  generalize (lg_sl ([.ref u0, .int d, .int to, .int h]) ++ List.replicate (5 - (lg_sl ([.ref u0, .int d, .int to, .int h])).length) Slot.unset).toArray = ls at hl ⊢
  replace hl : lv_has ls 5 [(0, .ref u0), (1, .int d), (2, .int to), (3, .int h)] := hl
  obtain ⟨⟨p1_u0, p2_u0⟩, ⟨p3_u0, p4_u0⟩, p5_u0, p6_u0⟩ := id hr_u0
  refine lv_iload_n hx hb dX2_makes_0 rfl (lv_at hl 1 rfl) ?_
  refine lv_iconst (v := 1) hx hb dX2_makes_1 (by decide) ?_
  refine lv_icmp_ge (tgt := 7) hx hb dX2_makes_2 (by decide) (fun c_1 => ?_) (fun c_1 => ?_)
  · have fc_1 : 1 ≤ d.toInt := zf_le c_1 (by decide) rfl
    refine lv_aload_n hx hb dX2_makes_7 rfl (lv_at hl 0 rfl) ?_
    refine lv_iload_n hx hb dX2_makes_8 rfl (lv_at hl 1 rfl) ?_
    refine lv_iload_n hx hb dX2_makes_9 rfl (lv_at hl 3 rfl) ?_
    refine zc_V (As := [.int d, .int h]) (rest := []) ⟨hx, hb, hml, hown, hts⟩ (c_Pull_waysAt_any l D cI cJ cZ cP cS po (d) (h) u0 (ki) (a_) (ta) hu_u0 ⟨by omega, by omega, by omega, by omega⟩ hy2 hy3) (cwV 2 hts gX2_makes_X2_waysAt rfl rfl rfl ⟨rfl, dh_X2_waysAt⟩ ⟨Nat.le_of_ble_eq_true rfl, Nat.le_of_ble_eq_true rfl⟩) hK hN hZ hP zP_nil (va_recv (q := (RX2, TX2, 3)) hK (zPu_P hZ hu_u0) (ci := 2) (q0 := 0) rfl rfl) rfl hl.1 rfl (Nat.le_of_ble_eq_true rfl) dX2_makes_10 ⟨Nat.le_of_ble_eq_true rfl, Nat.le_of_ble_eq_true rfl⟩ (fun r_2 hr_2 => ?_)
    obtain ⟨g_3, g_4⟩ := hr_2
    refine lv_istore (lv' := [(4, .int r_2), (0, .ref u0), (1, .int d), (2, .int to), (3, .int h)]) hx hb dX2_makes_13 hl (by decide) rfl (fun ls hl => ?_)
    refine lv_iload hx hb dX2_makes_15 (lv_at hl 0 rfl) ?_
    refine lv_if_le (tgt := 29) hx hb dX2_makes_17 (by decide) (fun c_5 => ?_) (fun c_5 => ?_)
    · have fc_5 : r_2.toInt ≤ 0 := zf_le c_5 rfl (by decide)
      refine lv_iload hx hb dX2_makes_29 (lv_at hl 0 rfl) ?_
      refine lv_bipush (v := 12) hx hb dX2_makes_31 (by decide) ?_
      refine lv_icmp_ge (tgt := 50) hx hb dX2_makes_33 (by decide) (fun c_6 => ?_) (fun c_6 => ?_)
      · exfalso; have fc_6 : 12 ≤ r_2.toInt := zf_le c_6 (by decide) rfl; omega
      · have fc_6 : r_2.toInt < 12 := zf_nle c_6 (by decide) rfl
        refine lv_aload_n hx hb dX2_makes_36 rfl (lv_at hl 1 rfl) ?_
        refine lv_iload_n hx hb dX2_makes_37 rfl (lv_at hl 2 rfl) ?_
        refine lv_iload_n hx hb dX2_makes_38 rfl (lv_at hl 4 rfl) ?_
        refine zc_V (As := [.int d, .int h]) (rest := []) ⟨hx, hb, hml, hown, hts⟩ (c_Pull_deeper_any l D cI cJ cZ cP cS po (d) (h) u0 (ki) (a_) (ta) hu_u0 ⟨by omega, by omega, by omega, by omega⟩ hy2 hy3) (cwV 2 hts gX2_makes_X2_deeper rfl rfl rfl ⟨rfl, dh_X2_deeper⟩ ⟨Nat.le_of_ble_eq_true rfl, Nat.le_of_ble_eq_true rfl⟩) hK hN hZ hP zP_nil (va_recv (q := (RX2, TX2, 3)) hK (zPu_P hZ hu_u0) (ci := 2) (q0 := 0) rfl rfl) rfl hl.1 rfl (Nat.le_of_ble_eq_true rfl) dX2_makes_39 ⟨Nat.le_of_ble_eq_true rfl, Nat.le_of_ble_eq_true rfl⟩ (fun r_7 hr_7 => ?_)
        refine lv_iload_n hx hb dX2_makes_42 rfl (lv_at hl 3 rfl) ?_
        refine lv_icmp_ne (tgt := 50) hx hb dX2_makes_43 (by decide) (fun c_8 => ?_) (fun c_8 => ?_)
        · have fc_8 : r_7.toInt ≠ to.toInt := zf_ne c_8 rfl rfl
          refine lv_iconst (v := 0) hx hb dX2_makes_50 (by decide) ?_
          exact W.zret (v := 0) hx hb hr (by decide) (fun t ht hW => ⟨0, rfl, ⟨by decide, by decide⟩, ht⟩) (fun q hq => by cases hq) dX2_makes_51
        · have fc_8 : r_7.toInt = to.toInt := zf_eq c_8 rfl rfl
          refine lv_iconst (v := 1) hx hb dX2_makes_46 (by decide) ?_
          refine lv_goto (tgt := 51) hx hb dX2_makes_47 (by decide) ?_
          exact W.zret (v := 1) hx hb hr (by decide) (fun t ht hW => ⟨1, rfl, ⟨by decide, by decide⟩, ht⟩) (fun q hq => by cases hq) dX2_makes_51
    · have fc_5 : 0 < r_2.toInt := zf_nle c_5 rfl (by decide)
      refine lv_aload_n hx hb dX2_makes_20 rfl (lv_at hl 1 rfl) ?_
      refine lv_iload_n hx hb dX2_makes_21 rfl (lv_at hl 2 rfl) ?_
      refine zc_V (As := [.int d]) (rest := []) ⟨hx, hb, hml, hown, hts⟩ (c_Pull_shallower_any l D cI cJ cZ cP cS po (d) u0 (ki) (a_) (ta) hu_u0 ⟨by omega, by omega, by omega, by omega⟩) (cwV 1 hts gX2_makes_X2_shallower rfl rfl rfl ⟨rfl, dh_X2_shallower⟩ ⟨Nat.le_of_ble_eq_true rfl, Nat.le_of_ble_eq_true rfl⟩) hK hN hZ hP zP_nil (va_recv (q := (RX2, TX2, 3)) hK (zPu_P hZ hu_u0) (ci := 2) (q0 := 0) rfl rfl) rfl hl.1 rfl (Nat.le_of_ble_eq_true rfl) dX2_makes_22 ⟨Nat.le_of_ble_eq_true rfl, Nat.le_of_ble_eq_true rfl⟩ (fun r_9 hr_9 => ?_)
      refine lv_iload_n hx hb dX2_makes_25 rfl (lv_at hl 3 rfl) ?_
      refine lv_icmp_eq (tgt := 46) hx hb dX2_makes_26 (by decide) (fun c_10 => ?_) (fun c_10 => ?_)
      · have fc_10 : r_9.toInt = to.toInt := zf_eq c_10 rfl rfl
        refine lv_iconst (v := 1) hx hb dX2_makes_46 (by decide) ?_
        refine lv_goto (tgt := 51) hx hb dX2_makes_47 (by decide) ?_
        exact W.zret (v := 1) hx hb hr (by decide) (fun t ht hW => ⟨1, rfl, ⟨by decide, by decide⟩, ht⟩) (fun q hq => by cases hq) dX2_makes_51
      · have fc_10 : r_9.toInt ≠ to.toInt := zf_ne c_10 rfl rfl
        refine lv_iload hx hb dX2_makes_29 (lv_at hl 0 rfl) ?_
        refine lv_bipush (v := 12) hx hb dX2_makes_31 (by decide) ?_
        refine lv_icmp_ge (tgt := 50) hx hb dX2_makes_33 (by decide) (fun c_11 => ?_) (fun c_11 => ?_)
        · have fc_11 : 12 ≤ r_2.toInt := zf_le c_11 (by decide) rfl
          refine lv_iconst (v := 0) hx hb dX2_makes_50 (by decide) ?_
          exact W.zret (v := 0) hx hb hr (by decide) (fun t ht hW => ⟨0, rfl, ⟨by decide, by decide⟩, ht⟩) (fun q hq => by cases hq) dX2_makes_51
        · have fc_11 : r_2.toInt < 12 := zf_nle c_11 (by decide) rfl
          refine lv_aload_n hx hb dX2_makes_36 rfl (lv_at hl 1 rfl) ?_
          refine lv_iload_n hx hb dX2_makes_37 rfl (lv_at hl 2 rfl) ?_
          refine lv_iload_n hx hb dX2_makes_38 rfl (lv_at hl 4 rfl) ?_
          refine zc_V (As := [.int d, .int h]) (rest := []) ⟨hx, hb, hml, hown, hts⟩ (c_Pull_deeper_any l D cI cJ cZ cP cS po (d) (h) u0 (ki) (a_) (ta) hu_u0 ⟨by omega, by omega, by omega, by omega⟩ hy2 hy3) (cwV 2 hts gX2_makes_X2_deeper rfl rfl rfl ⟨rfl, dh_X2_deeper⟩ ⟨Nat.le_of_ble_eq_true rfl, Nat.le_of_ble_eq_true rfl⟩) hK hN hZ hP zP_nil (va_recv (q := (RX2, TX2, 3)) hK (zPu_P hZ hu_u0) (ci := 2) (q0 := 0) rfl rfl) rfl hl.1 rfl (Nat.le_of_ble_eq_true rfl) dX2_makes_39 ⟨Nat.le_of_ble_eq_true rfl, Nat.le_of_ble_eq_true rfl⟩ (fun r_12 hr_12 => ?_)
          refine lv_iload_n hx hb dX2_makes_42 rfl (lv_at hl 3 rfl) ?_
          refine lv_icmp_ne (tgt := 50) hx hb dX2_makes_43 (by decide) (fun c_13 => ?_) (fun c_13 => ?_)
          · have fc_13 : r_12.toInt ≠ to.toInt := zf_ne c_13 rfl rfl
            refine lv_iconst (v := 0) hx hb dX2_makes_50 (by decide) ?_
            exact W.zret (v := 0) hx hb hr (by decide) (fun t ht hW => ⟨0, rfl, ⟨by decide, by decide⟩, ht⟩) (fun q hq => by cases hq) dX2_makes_51
          · have fc_13 : r_12.toInt = to.toInt := zf_eq c_13 rfl rfl
            refine lv_iconst (v := 1) hx hb dX2_makes_46 (by decide) ?_
            refine lv_goto (tgt := 51) hx hb dX2_makes_47 (by decide) ?_
            exact W.zret (v := 1) hx hb hr (by decide) (fun t ht hW => ⟨1, rfl, ⟨by decide, by decide⟩, ht⟩) (fun q hq => by cases hq) dX2_makes_51
  · have fc_1 : d.toInt < 1 := zf_nle c_1 (by decide) rfl
    refine lv_iconst (v := 0) hx hb dX2_makes_5 (by decide) ?_
    exact W.zret (v := 0) hx hb hr (by decide) (fun t ht hW => ⟨0, rfl, ⟨by decide, by decide⟩, ht⟩) (fun q hq => by cases hq) dX2_makes_6
set_option maxHeartbeats 4000000 in
set_option maxRecDepth 100000 in
theorem c_J_pullsMaking_any (l : Launch) (D : va_G) (cI cJ cZ cP cS : ClassId) (po : zPool) (j0 jp jc z0 zl zs : Nat) (cn de tr se hu sd : Int32) (fp : Nat → Option Nat) (kf af tf : Nat → Int32) (d to : Int32) (hy0 : 0 ≤ cn.toInt) (hy1 : cn.toInt ≤ 8) (hy2 : 0 ≤ de.toInt) (hy3 : de.toInt ≤ 24) (hy4 : 0 ≤ hu.toInt) (hy5 : hu.toInt ≤ 9) (hjp : zJP po fp cn kf af tf) : Met l yX0_pullsMaking wsX0_pullsMaking ({ frames := 3, cells := 0, slots := 0, locals := 68 }) (va_Pc [.ref j0, .int d, .int to] (zR D (zKT cI cJ cZ cP cS) po [(j0, .inr (0, [.ref z0, .ref jp, .ref jc, .int cn, .int de, .int tr, .int se, .int hu, .int sd])), (jp, .inl (cP, 8, .inr (.inr (.inr (.inr fp)))))])) (vp_Si (fun r => True)) 0 0 (fun _ => False) := by
  refine Met.ofW (cc := cX0_pullsMaking) (maxL := 6) (ret := (some .int)) (by decide) rfl ?_
  intro p e s m args below meth c s₁ B hml hv
  obtain ⟨rfl, hP, hK, hN, hZ⟩ := hv
  have hx := B.exec
  have hb := B.bytes
  have hr := B.returns
  have hts := atoms_spec (ws := wsX0_pullsMaking) B.pre
  have hown : s.vm.findClass RX0 = some m.cls := findClass_of_methodNamed B.named
  have hlocks := B.notSynchronized
  have hl := lv_entry ([.ref j0, .int d, .int to]) (n := 6) (Nat.le_of_ble_eq_true rfl)
  rw [lg_entry_eq]
  generalize (lg_sl ([.ref j0, .int d, .int to]) ++ List.replicate (6 - (lg_sl ([.ref j0, .int d, .int to])).length) Slot.unset).toArray = ls at hl ⊢
  replace hl : lv_has ls 6 [(0, .ref j0), (1, .int d), (2, .int to)] := hl
  refine lv_iconst (v := 0) hx hb dX0_pullsMaking_0 (by decide) ?_
  refine lv_istore_n (lv' := [(3, .int 0), (0, .ref j0), (1, .int d), (2, .int to)]) hx hb dX0_pullsMaking_1 rfl hl (by decide) rfl (fun ls hl => ?_)
  refine lv_iconst (v := 0) hx hb dX0_pullsMaking_2 (by decide) ?_
  refine lv_istore (lv' := [(4, .int 0), (3, .int 0), (0, .ref j0), (1, .int d), (2, .int to)]) hx hb dX0_pullsMaking_3 hl (by decide) rfl (fun ls hl => ?_)
  obtain ⟨i_5, hi_5⟩ : ∃ i : Int32, i = 0 := ⟨_, rfl⟩
  replace hl : lv_has ls 6 [(4, .int i_5), (3, .int 0), (0, .ref j0), (1, .int d), (2, .int to)] := by rw [hi_5]; exact lv_sub hl [0, 1, 2, 3, 4] rfl
  have h1i_5 : i_5.toInt = 0 := by rw [hi_5]; decide
  obtain ⟨nfu, hni_5⟩ : ∃ nq9 : Nat, cn.toInt ≤ i_5.toInt + (nq9 : Int) := ⟨((cn.toInt : Int) - 0).toNat, by omega⟩
  have hloi_5 : 0 ≤ i_5.toInt := by omega
  obtain ⟨v_1, hv_1⟩ : ∃ g : Int32, g = 0 := ⟨_, rfl⟩
  replace hl : lv_has ls 6 [(4, .int i_5), (3, .int v_1), (0, .ref j0), (1, .int d), (2, .int to)] := by rw [hv_1]; exact hl
  clear h1i_5 hi_5 hv_1
  revert hni_5
  revert hloi_5
  revert hl
  revert ls
  revert v_1
  revert i_5
  induction nfu with
  | zero =>
    intro i_5 v_1 ls hl hloi_5 hni_5
    have hzi_5 : cn.toInt ≤ i_5.toInt := by omega
    refine lv_iload hx hb dX0_pullsMaking_5 (lv_at hl 0 rfl) ?_
    refine lv_aload_n hx hb dX0_pullsMaking_7 rfl (lv_at hl 2 rfl) ?_
    refine va_get (D := D) (ci := 0) (v := .int cn) (C := RX0) (T := TX0) (N := 9) hx hb hts hi_X0_pullsMaking_0 hown hK hP 0 rfl rfl 3 (by decide) (hts (.fieldLink RX0 28 "TheLiningsInIt$Jacket" "pullCount" "I") (List.mem_of_getElem? (i := 1) rfl)) (fun _ h9 => h9) rfl dX0_pullsMaking_8 ?_
    refine lv_icmp_ge (tgt := 50) hx hb dX0_pullsMaking_11 (by decide) (fun c_2 => ?_) (fun c_2 => ?_)
    · have fc_2 : cn.toInt ≤ i_5.toInt := zf_le c_2 rfl rfl
      refine lv_iload_n hx hb dX0_pullsMaking_50 rfl (lv_at hl 1 rfl) ?_
      exact W.iret (v := v_1) hx hb hr (fun t ht hW => ⟨v_1, rfl, trivial, ht⟩) (fun q hq => by cases hq) dX0_pullsMaking_51
    · exfalso; have fc_2 : i_5.toInt < cn.toInt := zf_nle c_2 rfl rfl; omega
  | succ nfu ih =>
    intro i_5 v_1 ls hl hloi_5 hni_5
    refine lv_iload hx hb dX0_pullsMaking_5 (lv_at hl 0 rfl) ?_
    refine lv_aload_n hx hb dX0_pullsMaking_7 rfl (lv_at hl 2 rfl) ?_
    refine va_get (D := D) (ci := 0) (v := .int cn) (C := RX0) (T := TX0) (N := 9) hx hb hts hi_X0_pullsMaking_0 hown hK hP 0 rfl rfl 3 (by decide) (hts (.fieldLink RX0 28 "TheLiningsInIt$Jacket" "pullCount" "I") (List.mem_of_getElem? (i := 1) rfl)) (fun _ h9 => h9) rfl dX0_pullsMaking_8 ?_
    refine lv_icmp_ge (tgt := 50) hx hb dX0_pullsMaking_11 (by decide) (fun c_3 => ?_) (fun c_3 => ?_)
    · have fc_3 : cn.toInt ≤ i_5.toInt := zf_le c_3 rfl rfl
      refine lv_iload_n hx hb dX0_pullsMaking_50 rfl (lv_at hl 1 rfl) ?_
      exact W.iret (v := v_1) hx hb hr (fun t ht hW => ⟨v_1, rfl, trivial, ht⟩) (fun q hq => by cases hq) dX0_pullsMaking_51
    · have fc_3 : i_5.toInt < cn.toInt := zf_nle c_3 rfl rfl
      refine lv_aload_n hx hb dX0_pullsMaking_14 rfl (lv_at hl 2 rfl) ?_
      refine lv_iload hx hb dX0_pullsMaking_15 (lv_at hl 0 rfl) ?_
      refine zc_Vq (As := [.int i_5]) (rest := []) ⟨hx, hb, hml, hown, hts⟩ (c_J_pullAt l D cI cJ cZ cP cS po j0 jp jc z0 0 0 (cn) (de) (tr) (se) (hu) (sd) fp kf af tf (i_5) hy0 hy1 hy2 hy3 hy4 hy5 hjp) (cwV 1 hts gX0_pullsMaking_X0_pullAt rfl rfl rfl ⟨rfl, dh_X0_pullAt⟩ ⟨Nat.le_of_ble_eq_true rfl, Nat.le_of_ble_eq_true rfl⟩) hK hN hZ hP (hP.sub [0, 1] rfl) (va_recv (q := (RX0, TX0, 9)) hK hP (ci := 0) (q0 := 0) rfl rfl) rfl hl.1 rfl (Nat.le_of_ble_eq_true rfl) dX0_pullsMaking_17 ⟨Nat.le_of_ble_eq_true rfl, Nat.le_of_ble_eq_true rfl⟩ (fun r_4 hr_4 => ?_)
      rcases hr_4 with ⟨rfl, g_5⟩ | ⟨rfl, g_6⟩ | ⟨⟨u_8, kiu_8, au_8, tu_8, rfl, huu_8, hkku_8⟩, g_7⟩
      · exfalso; omega
      · refine lv_astoreN (lv' := [(5, .null), (4, .int i_5), (3, .int v_1), (0, .ref j0), (1, .int d), (2, .int to)]) hx hb dX0_pullsMaking_20 hl (by decide) rfl (fun ls hl => ?_)
        refine lv_aloadN hx hb dX0_pullsMaking_22 (lv_at hl 0 rfl) ?_
        refine lv_ifnullN (tgt := 44) hx hb dX0_pullsMaking_24 (by decide) ?_
        obtain ⟨x_9, ex_9⟩ : ∃ y : Int32, y = i_5 + 1 := ⟨_, rfl⟩
        have qx_9 : x_9.toInt = i_5.toInt + 1 := dw_inc ex_9 fc_3
        refine lv_iinc (v := x_9) (lv' := [(4, .int x_9), (5, .null), (3, .int v_1), (0, .ref j0), (1, .int d), (2, .int to)]) hx hb dX0_pullsMaking_44 hl (k := 1) rfl ex_9.symm (by decide) rfl (fun ls hl => ?_)
        refine lv_goto (tgt := 5) hx hb dX0_pullsMaking_47 (by decide) ?_
        exact ih x_9 v_1 _ (lv_sub hl [0, 2, 3, 4, 5] rfl) (dw_lo hloi_5 qx_9) (dw_hn hni_5 qx_9)
      · refine W.eq (g2 := F0 m 20 ls (.ref u_8 :: [])) rfl ?_
        obtain ⟨hku_8, hau_8, htu_8⟩ := zPu_pr hZ huu_8
        refine lv_astore (lv' := [(5, .ref u_8), (4, .int i_5), (3, .int v_1), (0, .ref j0), (1, .int d), (2, .int to)]) hx hb dX0_pullsMaking_20 hl (by decide) rfl (fun ls hl => ?_)
        refine lv_aload hx hb dX0_pullsMaking_22 (lv_at hl 0 rfl) ?_
        refine lv_ifnull hx hb dX0_pullsMaking_24 ?_
        refine lv_aload hx hb dX0_pullsMaking_27 (lv_at hl 0 rfl) ?_
        refine lv_iload_n hx hb dX0_pullsMaking_29 rfl (lv_at hl 4 rfl) ?_
        refine lv_iload_n hx hb dX0_pullsMaking_30 rfl (lv_at hl 5 rfl) ?_
        refine lv_aload_n hx hb dX0_pullsMaking_31 rfl (lv_at hl 3 rfl) ?_
        refine va_get (D := D) (ci := 0) (v := .int hu) (C := RX0) (T := TX0) (N := 9) hx hb hts hi_X0_pullsMaking_0 hown hK hP 0 rfl rfl 7 (by decide) (hts (.fieldLink RX0 41 "TheLiningsInIt$Jacket" "hurry" "I") (List.mem_of_getElem? (i := 2) rfl)) (fun _ h9 => h9) rfl dX0_pullsMaking_32 ?_
        refine zc_V (As := [.int d, .int to, .int hu]) (rest := []) ⟨hx, hb, hml, hown, hts⟩ (c_Pull_makes_any l D cI cJ cZ cP cS po (d) (to) (hu) u_8 (kiu_8) (au_8) (tu_8) huu_8 ⟨by omega, by omega, by omega, by omega⟩ hy4 hy5) (cwV 3 hts gX0_pullsMaking_X2_makes rfl rfl rfl ⟨rfl, dh_X2_makes⟩ ⟨Nat.le_of_ble_eq_true rfl, Nat.le_of_ble_eq_true rfl⟩) hK hN hZ hP zP_nil (va_recv (q := (RX2, TX2, 3)) hK (zPu_P hZ huu_8) (ci := 2) (q0 := 0) rfl rfl) rfl hl.1 rfl (Nat.le_of_ble_eq_true rfl) dX0_pullsMaking_35 ⟨Nat.le_of_ble_eq_true rfl, Nat.le_of_ble_eq_true rfl⟩ (fun r_10 hr_10 => ?_)
        obtain ⟨g_11, g_12⟩ := hr_10
        refine lv_if_eq (tgt := 44) hx hb dX0_pullsMaking_38 (by decide) (fun c_13 => ?_) (fun c_13 => ?_)
        · have fc_13 : r_10.toInt = 0 := zf_eq c_13 rfl (by decide)
          obtain ⟨x_14, ex_14⟩ : ∃ y : Int32, y = i_5 + 1 := ⟨_, rfl⟩
          have qx_14 : x_14.toInt = i_5.toInt + 1 := dw_inc ex_14 fc_3
          refine lv_iinc (v := x_14) (lv' := [(4, .int x_14), (5, .ref u_8), (3, .int v_1), (0, .ref j0), (1, .int d), (2, .int to)]) hx hb dX0_pullsMaking_44 hl (k := 1) rfl ex_14.symm (by decide) rfl (fun ls hl => ?_)
          refine lv_goto (tgt := 5) hx hb dX0_pullsMaking_47 (by decide) ?_
          exact ih x_14 v_1 _ (lv_sub hl [0, 2, 3, 4, 5] rfl) (dw_lo hloi_5 qx_14) (dw_hn hni_5 qx_14)
        · have fc_13 : r_10.toInt ≠ 0 := zf_ne c_13 rfl (by decide)
          obtain ⟨x_15, ex_15⟩ : ∃ y : Int32, y = v_1 + 1 := ⟨_, rfl⟩
          refine lv_iinc (v := x_15) (lv' := [(3, .int x_15), (5, .ref u_8), (4, .int i_5), (0, .ref j0), (1, .int d), (2, .int to)]) hx hb dX0_pullsMaking_41 hl (k := 2) rfl ex_15.symm (by decide) rfl (fun ls hl => ?_)
          obtain ⟨x_16, ex_16⟩ : ∃ y : Int32, y = i_5 + 1 := ⟨_, rfl⟩
          have qx_16 : x_16.toInt = i_5.toInt + 1 := dw_inc ex_16 fc_3
          refine lv_iinc (v := x_16) (lv' := [(4, .int x_16), (3, .int x_15), (5, .ref u_8), (0, .ref j0), (1, .int d), (2, .int to)]) hx hb dX0_pullsMaking_44 hl (k := 2) rfl ex_16.symm (by decide) rfl (fun ls hl => ?_)
          refine lv_goto (tgt := 5) hx hb dX0_pullsMaking_47 (by decide) ?_
          exact ih x_16 x_15 _ (lv_sub hl [0, 1, 3, 4, 5] rfl) (dw_lo hloi_5 qx_16) (dw_hn hni_5 qx_16)
set_option maxHeartbeats 4000000 in
set_option maxRecDepth 100000 in
theorem c_J_firstMaking_any (l : Launch) (D : va_G) (cI cJ cZ cP cS : ClassId) (po : zPool) (j0 jp jc z0 zl zs : Nat) (cn de tr se hu sd : Int32) (fp : Nat → Option Nat) (kf af tf : Nat → Int32) (d to : Int32) (hy0 : 0 ≤ cn.toInt) (hy1 : cn.toInt ≤ 8) (hy2 : 0 ≤ de.toInt) (hy3 : de.toInt ≤ 24) (hy4 : 0 ≤ hu.toInt) (hy5 : hu.toInt ≤ 9) (hjp : zJP po fp cn kf af tf) : Met l yX0_firstMaking wsX0_firstMaking ({ frames := 3, cells := 0, slots := 0, locals := 68 }) (va_Pc [.ref j0, .int d, .int to] (zR D (zKT cI cJ cZ cP cS) po [(j0, .inr (0, [.ref z0, .ref jp, .ref jc, .int cn, .int de, .int tr, .int se, .int hu, .int sd])), (jp, .inl (cP, 8, .inr (.inr (.inr (.inr fp)))))])) (vp_Si (fun r => True)) 0 0 (fun _ => False) := by
  refine Met.ofW (cc := cX0_firstMaking) (maxL := 5) (ret := (some .int)) (by decide) rfl ?_
  intro p e s m args below meth c s₁ B hml hv
  obtain ⟨rfl, hP, hK, hN, hZ⟩ := hv
  have hx := B.exec
  have hb := B.bytes
  have hr := B.returns
  have hts := atoms_spec (ws := wsX0_firstMaking) B.pre
  have hown : s.vm.findClass RX0 = some m.cls := findClass_of_methodNamed B.named
  have hlocks := B.notSynchronized
  have hl := lv_entry ([.ref j0, .int d, .int to]) (n := 5) (Nat.le_of_ble_eq_true rfl)
  rw [lg_entry_eq]
  generalize (lg_sl ([.ref j0, .int d, .int to]) ++ List.replicate (5 - (lg_sl ([.ref j0, .int d, .int to])).length) Slot.unset).toArray = ls at hl ⊢
  replace hl : lv_has ls 5 [(0, .ref j0), (1, .int d), (2, .int to)] := hl
  refine lv_iconst (v := 0) hx hb dX0_firstMaking_0 (by decide) ?_
  refine lv_istore_n (lv' := [(3, .int 0), (0, .ref j0), (1, .int d), (2, .int to)]) hx hb dX0_firstMaking_1 rfl hl (by decide) rfl (fun ls hl => ?_)
  obtain ⟨i_2, hi_2⟩ : ∃ i : Int32, i = 0 := ⟨_, rfl⟩
  replace hl : lv_has ls 5 [(3, .int i_2), (0, .ref j0), (1, .int d), (2, .int to)] := by rw [hi_2]; exact lv_sub hl [0, 1, 2, 3] rfl
  have h1i_2 : i_2.toInt = 0 := by rw [hi_2]; decide
  obtain ⟨nfu, hni_2⟩ : ∃ nq9 : Nat, cn.toInt ≤ i_2.toInt + (nq9 : Int) := ⟨((cn.toInt : Int) - 0).toNat, by omega⟩
  have hloi_2 : 0 ≤ i_2.toInt := by omega
  clear h1i_2 hi_2
  revert hni_2
  revert hloi_2
  revert hl
  revert ls
  revert i_2
  induction nfu with
  | zero =>
    intro i_2 ls hl hloi_2 hni_2
    have hzi_2 : cn.toInt ≤ i_2.toInt := by omega
    refine lv_iload_n hx hb dX0_firstMaking_2 rfl (lv_at hl 0 rfl) ?_
    refine lv_aload_n hx hb dX0_firstMaking_3 rfl (lv_at hl 1 rfl) ?_
    refine va_get (D := D) (ci := 0) (v := .int cn) (C := RX0) (T := TX0) (N := 9) hx hb hts hi_X0_firstMaking_0 hown hK hP 0 rfl rfl 3 (by decide) (hts (.fieldLink RX0 28 "TheLiningsInIt$Jacket" "pullCount" "I") (List.mem_of_getElem? (i := 1) rfl)) (fun _ h9 => h9) rfl dX0_firstMaking_4 ?_
    refine lv_icmp_ge (tgt := 44) hx hb dX0_firstMaking_7 (by decide) (fun c_1 => ?_) (fun c_1 => ?_)
    · have fc_1 : cn.toInt ≤ i_2.toInt := zf_le c_1 rfl rfl
      refine lv_iconst (v := (-1)) hx hb dX0_firstMaking_44 (by decide) ?_
      exact W.iret (v := (-1)) hx hb hr (fun t ht hW => ⟨(-1), rfl, trivial, ht⟩) (fun q hq => by cases hq) dX0_firstMaking_45
    · exfalso; have fc_1 : i_2.toInt < cn.toInt := zf_nle c_1 rfl rfl; omega
  | succ nfu ih =>
    intro i_2 ls hl hloi_2 hni_2
    refine lv_iload_n hx hb dX0_firstMaking_2 rfl (lv_at hl 0 rfl) ?_
    refine lv_aload_n hx hb dX0_firstMaking_3 rfl (lv_at hl 1 rfl) ?_
    refine va_get (D := D) (ci := 0) (v := .int cn) (C := RX0) (T := TX0) (N := 9) hx hb hts hi_X0_firstMaking_0 hown hK hP 0 rfl rfl 3 (by decide) (hts (.fieldLink RX0 28 "TheLiningsInIt$Jacket" "pullCount" "I") (List.mem_of_getElem? (i := 1) rfl)) (fun _ h9 => h9) rfl dX0_firstMaking_4 ?_
    refine lv_icmp_ge (tgt := 44) hx hb dX0_firstMaking_7 (by decide) (fun c_2 => ?_) (fun c_2 => ?_)
    · have fc_2 : cn.toInt ≤ i_2.toInt := zf_le c_2 rfl rfl
      refine lv_iconst (v := (-1)) hx hb dX0_firstMaking_44 (by decide) ?_
      exact W.iret (v := (-1)) hx hb hr (fun t ht hW => ⟨(-1), rfl, trivial, ht⟩) (fun q hq => by cases hq) dX0_firstMaking_45
    · have fc_2 : i_2.toInt < cn.toInt := zf_nle c_2 rfl rfl
      refine lv_aload_n hx hb dX0_firstMaking_10 rfl (lv_at hl 1 rfl) ?_
      refine lv_iload_n hx hb dX0_firstMaking_11 rfl (lv_at hl 0 rfl) ?_
      refine zc_Vq (As := [.int i_2]) (rest := []) ⟨hx, hb, hml, hown, hts⟩ (c_J_pullAt l D cI cJ cZ cP cS po j0 jp jc z0 0 0 (cn) (de) (tr) (se) (hu) (sd) fp kf af tf (i_2) hy0 hy1 hy2 hy3 hy4 hy5 hjp) (cwV 1 hts gX0_firstMaking_X0_pullAt rfl rfl rfl ⟨rfl, dh_X0_pullAt⟩ ⟨Nat.le_of_ble_eq_true rfl, Nat.le_of_ble_eq_true rfl⟩) hK hN hZ hP (hP.sub [0, 1] rfl) (va_recv (q := (RX0, TX0, 9)) hK hP (ci := 0) (q0 := 0) rfl rfl) rfl hl.1 rfl (Nat.le_of_ble_eq_true rfl) dX0_firstMaking_12 ⟨Nat.le_of_ble_eq_true rfl, Nat.le_of_ble_eq_true rfl⟩ (fun r_3 hr_3 => ?_)
      rcases hr_3 with ⟨rfl, g_4⟩ | ⟨rfl, g_5⟩ | ⟨⟨u_7, kiu_7, au_7, tu_7, rfl, huu_7, hkku_7⟩, g_6⟩
      · exfalso; omega
      · refine lv_astoreN (lv' := [(4, .null), (3, .int i_2), (0, .ref j0), (1, .int d), (2, .int to)]) hx hb dX0_firstMaking_15 hl (by decide) rfl (fun ls hl => ?_)
        refine lv_aloadN hx hb dX0_firstMaking_17 (lv_at hl 0 rfl) ?_
        refine lv_ifnullN (tgt := 38) hx hb dX0_firstMaking_19 (by decide) ?_
        obtain ⟨x_8, ex_8⟩ : ∃ y : Int32, y = i_2 + 1 := ⟨_, rfl⟩
        have qx_8 : x_8.toInt = i_2.toInt + 1 := dw_inc ex_8 fc_2
        refine lv_iinc (v := x_8) (lv' := [(3, .int x_8), (4, .null), (0, .ref j0), (1, .int d), (2, .int to)]) hx hb dX0_firstMaking_38 hl (k := 1) rfl ex_8.symm (by decide) rfl (fun ls hl => ?_)
        refine lv_goto (tgt := 2) hx hb dX0_firstMaking_41 (by decide) ?_
        exact ih x_8 _ (lv_sub hl [0, 2, 3, 4] rfl) (dw_lo hloi_2 qx_8) (dw_hn hni_2 qx_8)
      · refine W.eq (g2 := F0 m 15 ls (.ref u_7 :: [])) rfl ?_
        obtain ⟨hku_7, hau_7, htu_7⟩ := zPu_pr hZ huu_7
        refine lv_astore (lv' := [(4, .ref u_7), (3, .int i_2), (0, .ref j0), (1, .int d), (2, .int to)]) hx hb dX0_firstMaking_15 hl (by decide) rfl (fun ls hl => ?_)
        refine lv_aload hx hb dX0_firstMaking_17 (lv_at hl 0 rfl) ?_
        refine lv_ifnull hx hb dX0_firstMaking_19 ?_
        refine lv_aload hx hb dX0_firstMaking_22 (lv_at hl 0 rfl) ?_
        refine lv_iload_n hx hb dX0_firstMaking_24 rfl (lv_at hl 3 rfl) ?_
        refine lv_iload_n hx hb dX0_firstMaking_25 rfl (lv_at hl 4 rfl) ?_
        refine lv_aload_n hx hb dX0_firstMaking_26 rfl (lv_at hl 2 rfl) ?_
        refine va_get (D := D) (ci := 0) (v := .int hu) (C := RX0) (T := TX0) (N := 9) hx hb hts hi_X0_firstMaking_0 hown hK hP 0 rfl rfl 7 (by decide) (hts (.fieldLink RX0 41 "TheLiningsInIt$Jacket" "hurry" "I") (List.mem_of_getElem? (i := 2) rfl)) (fun _ h9 => h9) rfl dX0_firstMaking_27 ?_
        refine zc_V (As := [.int d, .int to, .int hu]) (rest := []) ⟨hx, hb, hml, hown, hts⟩ (c_Pull_makes_any l D cI cJ cZ cP cS po (d) (to) (hu) u_7 (kiu_7) (au_7) (tu_7) huu_7 ⟨by omega, by omega, by omega, by omega⟩ hy4 hy5) (cwV 3 hts gX0_firstMaking_X2_makes rfl rfl rfl ⟨rfl, dh_X2_makes⟩ ⟨Nat.le_of_ble_eq_true rfl, Nat.le_of_ble_eq_true rfl⟩) hK hN hZ hP zP_nil (va_recv (q := (RX2, TX2, 3)) hK (zPu_P hZ huu_7) (ci := 2) (q0 := 0) rfl rfl) rfl hl.1 rfl (Nat.le_of_ble_eq_true rfl) dX0_firstMaking_30 ⟨Nat.le_of_ble_eq_true rfl, Nat.le_of_ble_eq_true rfl⟩ (fun r_9 hr_9 => ?_)
        obtain ⟨g_10, g_11⟩ := hr_9
        refine lv_if_eq (tgt := 38) hx hb dX0_firstMaking_33 (by decide) (fun c_12 => ?_) (fun c_12 => ?_)
        · have fc_12 : r_9.toInt = 0 := zf_eq c_12 rfl (by decide)
          obtain ⟨x_13, ex_13⟩ : ∃ y : Int32, y = i_2 + 1 := ⟨_, rfl⟩
          have qx_13 : x_13.toInt = i_2.toInt + 1 := dw_inc ex_13 fc_2
          refine lv_iinc (v := x_13) (lv' := [(3, .int x_13), (4, .ref u_7), (0, .ref j0), (1, .int d), (2, .int to)]) hx hb dX0_firstMaking_38 hl (k := 1) rfl ex_13.symm (by decide) rfl (fun ls hl => ?_)
          refine lv_goto (tgt := 2) hx hb dX0_firstMaking_41 (by decide) ?_
          exact ih x_13 _ (lv_sub hl [0, 2, 3, 4] rfl) (dw_lo hloi_2 qx_13) (dw_hn hni_2 qx_13)
        · have fc_12 : r_9.toInt ≠ 0 := zf_ne c_12 rfl (by decide)
          refine lv_iload_n hx hb dX0_firstMaking_36 rfl (lv_at hl 1 rfl) ?_
          exact W.iret (v := i_2) hx hb hr (fun t ht hW => ⟨i_2, rfl, trivial, ht⟩) (fun q hq => by cases hq) dX0_firstMaking_37
end
section
theorem gl_X7_refuse_X70 : GoodIn wsX7_refuse wsX70 := (dg_t (dg_t (dg_t (dg_t (dg_t (dg_t gw_wsX70))))))
theorem hi_X7_refuse_7 : ∀ w ∈ u_ws RX7 TX7 9, w ∈ wsX7_refuse := fun w h => (gl_X7_refuse_X70 w h).1
set_option maxHeartbeats 4000000 in
set_option maxRecDepth 100000 in
theorem c_X_refuse_1 (l : Launch) (D : va_G) (cI cJ cZ cP cS : ClassId) (po : zPool) (x0 xs j0 k0 w0 rd mv xr : Nat) (im lf : Int32) (fr : Nat → Int32) (hy0 : 0 ≤ im.toInt) (hy1 : im.toInt ≤ 1) (hy2 : (-1) ≤ lf.toInt) (hy3 : lf.toInt ≤ 160) (hpz : Nat) : Met l yX7_refuse wsX7_refuse ({ frames := 1, cells := 0, slots := 0, locals := 22 }) (va_Pc [.ref x0, .int 1] (zW D (zKT cI cJ cZ cP cS) po [(x0, .inr (7, [.ref xs, .ref j0, .ref k0, .ref w0, .ref rd, .ref mv, .ref xr, .int im, .int lf])), (xr, .inl (cI, 8, .inl fr))] hpz)) (va_Qi (fun (r : Int32) (fr2 : (Nat → Int32)) => r = (-1)) (zB D [(x0, .inr (7, [.ref xs, .ref j0, .ref k0, .ref w0, .ref rd, .ref mv, .ref xr, .int im, .int lf])), (xr, .inl (cI, 8, .inl fr))] hpz (fun (fr2 : Nat → Int32) => [(x0, .inr (7, [.ref xs, .ref j0, .ref k0, .ref w0, .ref rd, .ref mv, .ref xr, .int im, .int lf])), (xr, .inl (cI, 8, .inl fr2))])) (va_A [(x0, .inr (7, [.ref xs, .ref j0, .ref k0, .ref w0, .ref rd, .ref mv, .ref xr, .int im, .int lf])), (xr, .inl (cI, 8, .inl fr))] hpz)) 0 0 (va_A [(x0, .inr (7, [.ref xs, .ref j0, .ref k0, .ref w0, .ref rd, .ref mv, .ref xr, .int im, .int lf])), (xr, .inl (cI, 8, .inl fr))] hpz) := by
  refine Met.ofW (cc := cX7_refuse) (maxL := 2) (ret := (some .int)) (by decide) rfl ?_
  intro p e s m args below meth c s₁ B hml hv
  obtain ⟨rfl, hsz, hP, hK, hD0, hN, hZ⟩ := hv
  have hx := B.exec
  have hb := B.bytes
  have hr := B.returns
  have hts := atoms_spec (ws := wsX7_refuse) B.pre
  have hown : s.vm.findClass RX7 = some m.cls := findClass_of_methodNamed B.named
  have hlocks := B.notSynchronized
  subst hsz
  have hD := hD0.self (sz := s.heap.size)
  have hA := zA_of hD
  have hl := lv_entry ([.ref x0, .int 1]) (n := 2) (Nat.le_of_ble_eq_true rfl)
  rw [lg_entry_eq]
  generalize (lg_sl ([.ref x0, .int 1]) ++ List.replicate (2 - (lg_sl ([.ref x0, .int 1])).length) Slot.unset).toArray = ls at hl ⊢
  replace hl : lv_has ls 2 [(0, .ref x0), (1, .int 1)] := hl
  refine zw_begin hP hD (fun H locs hP1 hS => ?_)
  clear hP
  have hP := hP1
  clear hP1
  refine lv_iload_n hx hb dX7_refuse_0 rfl (lv_at hl 1 rfl) ?_
  refine lv_iconst (v := 1) hx hb dX7_refuse_1 (by decide) ?_
  refine lv_bipush (v := 7) hx hb dX7_refuse_2 (by decide) ?_
  have kc1 : (1 : Int32).toInt = 1 := by decide
  have kc7 : (7 : Int32).toInt = 7 := by decide
  refine zc_S (As := [.int 1, .int 1, .int 7]) (rest := []) ⟨hx, hb, hml, hown, hts⟩ (c_within l D cI cJ cZ cP cS po (1) (1) (7) ) (va_cwS 3 hts gX7_refuse_X7_within rfl rfl rfl dh_X7_within ⟨Nat.le_of_ble_eq_true rfl, Nat.le_of_ble_eq_true rfl⟩) hK hN (hZ.kept hS) rfl hl.1 rfl (Nat.le_of_ble_eq_true rfl) dX7_refuse_4 ⟨Nat.le_of_ble_eq_true rfl, Nat.le_of_ble_eq_true rfl⟩ (fun r_1 hr_1 => ?_)
  rcases hr_1 with ⟨rfl, g_2⟩ | ⟨rfl, g_3, g_4⟩ | ⟨rfl, g_5, g_6⟩
  · exfalso; omega
  · exfalso; omega
  · refine lv_if_eq (tgt := 20) hx hb dX7_refuse_7 (by decide) (fun c_7 => ?_) (fun c_7 => ?_)
    · exact absurd c_7 (by decide)
    · refine lv_aload_n hx hb dX7_refuse_10 rfl (lv_at hl 0 rfl) ?_
      refine va_get (D := D) (ci := 7) (v := .ref xr) (C := RX7) (T := TX7) (N := 9) hx hb hts hi_X7_refuse_7 hown hK hP 0 rfl rfl 6 (by decide) (hts (.fieldLink RX7 46 "TheLiningsInIt" "refusals" "[I") (List.mem_of_getElem? (i := 1) rfl)) (fun _ h9 => h9) rfl dX7_refuse_11 ?_
      refine lv_iload_n hx hb dX7_refuse_14 rfl (lv_at hl 1 rfl) ?_
      refine lv_dup2_11 hx hb dX7_refuse_15 rfl rfl ?_
      refine va_iald hx hb hK hP 1 0 rfl rfl (zf_in (by decide) (by decide)) dX7_refuse_16 ?_
      refine lv_topi (fun x_8 ex_8 => ?_)
      refine lv_iconst (v := 1) hx hb dX7_refuse_17 (by decide) ?_
      refine lv_iadd hx hb dX7_refuse_18 ?_
      refine lv_topi (fun x_9 ex_9 => ?_)
      refine va_iast hx hb hK hP hD hS 1 0 rfl rfl (zf_in (by decide) (by decide)) dX7_refuse_19 (fun H locs hP hD hS => ?_)
      obtain ⟨g_10, hg_10⟩ : ∃ g : Nat → Int32, g = upd fr (1 : Int32).toNatClampNeg x_9 := ⟨_, rfl⟩
      rw [← hg_10] at hP hD
      clear hg_10
      have h9R := zRe (ws' := [(x0, .inr (7, [.ref xs, .ref j0, .ref k0, .ref w0, .ref rd, .ref mv, .ref xr, .int im, .int lf])), (xr, .inl (cI, 8, .inl g_10))]) hP hD rfl
      clear hP hD
      obtain ⟨hP, hD⟩ := h9R
      refine lv_iload_n hx hb dX7_refuse_20 rfl (lv_at hl 1 rfl) ?_
      refine lv_ineg hx hb dX7_refuse_21 ?_
      refine lv_topi (fun y_11 ey_11 => ?_)
      obtain rfl : y_11 = (-1) := ey_11.trans (by decide)
      exact W.iret (v := (-1)) hx hb hr (fun t ht hW => ⟨⟨(-1), g_10, rfl, rfl, zRet ht hP hD [0, 1] (by decide) rfl⟩, hS.F ht⟩) hS.2.2 dX7_refuse_22
set_option maxHeartbeats 4000000 in
set_option maxRecDepth 100000 in
theorem c_X_refuse_2 (l : Launch) (D : va_G) (cI cJ cZ cP cS : ClassId) (po : zPool) (x0 xs j0 k0 w0 rd mv xr : Nat) (im lf : Int32) (fr : Nat → Int32) (hy0 : 0 ≤ im.toInt) (hy1 : im.toInt ≤ 1) (hy2 : (-1) ≤ lf.toInt) (hy3 : lf.toInt ≤ 160) (hpz : Nat) : Met l yX7_refuse wsX7_refuse ({ frames := 1, cells := 0, slots := 0, locals := 22 }) (va_Pc [.ref x0, .int 2] (zW D (zKT cI cJ cZ cP cS) po [(x0, .inr (7, [.ref xs, .ref j0, .ref k0, .ref w0, .ref rd, .ref mv, .ref xr, .int im, .int lf])), (xr, .inl (cI, 8, .inl fr))] hpz)) (va_Qi (fun (r : Int32) (fr2 : (Nat → Int32)) => r = (-2)) (zB D [(x0, .inr (7, [.ref xs, .ref j0, .ref k0, .ref w0, .ref rd, .ref mv, .ref xr, .int im, .int lf])), (xr, .inl (cI, 8, .inl fr))] hpz (fun (fr2 : Nat → Int32) => [(x0, .inr (7, [.ref xs, .ref j0, .ref k0, .ref w0, .ref rd, .ref mv, .ref xr, .int im, .int lf])), (xr, .inl (cI, 8, .inl fr2))])) (va_A [(x0, .inr (7, [.ref xs, .ref j0, .ref k0, .ref w0, .ref rd, .ref mv, .ref xr, .int im, .int lf])), (xr, .inl (cI, 8, .inl fr))] hpz)) 0 0 (va_A [(x0, .inr (7, [.ref xs, .ref j0, .ref k0, .ref w0, .ref rd, .ref mv, .ref xr, .int im, .int lf])), (xr, .inl (cI, 8, .inl fr))] hpz) := by
  refine Met.ofW (cc := cX7_refuse) (maxL := 2) (ret := (some .int)) (by decide) rfl ?_
  intro p e s m args below meth c s₁ B hml hv
  obtain ⟨rfl, hsz, hP, hK, hD0, hN, hZ⟩ := hv
  have hx := B.exec
  have hb := B.bytes
  have hr := B.returns
  have hts := atoms_spec (ws := wsX7_refuse) B.pre
  have hown : s.vm.findClass RX7 = some m.cls := findClass_of_methodNamed B.named
  have hlocks := B.notSynchronized
  subst hsz
  have hD := hD0.self (sz := s.heap.size)
  have hA := zA_of hD
  have hl := lv_entry ([.ref x0, .int 2]) (n := 2) (Nat.le_of_ble_eq_true rfl)
  rw [lg_entry_eq]
  generalize (lg_sl ([.ref x0, .int 2]) ++ List.replicate (2 - (lg_sl ([.ref x0, .int 2])).length) Slot.unset).toArray = ls at hl ⊢
  replace hl : lv_has ls 2 [(0, .ref x0), (1, .int 2)] := hl
  refine zw_begin hP hD (fun H locs hP1 hS => ?_)
  clear hP
  have hP := hP1
  clear hP1
  refine lv_iload_n hx hb dX7_refuse_0 rfl (lv_at hl 1 rfl) ?_
  refine lv_iconst (v := 1) hx hb dX7_refuse_1 (by decide) ?_
  refine lv_bipush (v := 7) hx hb dX7_refuse_2 (by decide) ?_
  have kc2 : (2 : Int32).toInt = 2 := by decide
  have kc1 : (1 : Int32).toInt = 1 := by decide
  have kc7 : (7 : Int32).toInt = 7 := by decide
  refine zc_S (As := [.int 2, .int 1, .int 7]) (rest := []) ⟨hx, hb, hml, hown, hts⟩ (c_within l D cI cJ cZ cP cS po (2) (1) (7) ) (va_cwS 3 hts gX7_refuse_X7_within rfl rfl rfl dh_X7_within ⟨Nat.le_of_ble_eq_true rfl, Nat.le_of_ble_eq_true rfl⟩) hK hN (hZ.kept hS) rfl hl.1 rfl (Nat.le_of_ble_eq_true rfl) dX7_refuse_4 ⟨Nat.le_of_ble_eq_true rfl, Nat.le_of_ble_eq_true rfl⟩ (fun r_1 hr_1 => ?_)
  rcases hr_1 with ⟨rfl, g_2⟩ | ⟨rfl, g_3, g_4⟩ | ⟨rfl, g_5, g_6⟩
  · exfalso; omega
  · exfalso; omega
  · refine lv_if_eq (tgt := 20) hx hb dX7_refuse_7 (by decide) (fun c_7 => ?_) (fun c_7 => ?_)
    · exact absurd c_7 (by decide)
    · refine lv_aload_n hx hb dX7_refuse_10 rfl (lv_at hl 0 rfl) ?_
      refine va_get (D := D) (ci := 7) (v := .ref xr) (C := RX7) (T := TX7) (N := 9) hx hb hts hi_X7_refuse_7 hown hK hP 0 rfl rfl 6 (by decide) (hts (.fieldLink RX7 46 "TheLiningsInIt" "refusals" "[I") (List.mem_of_getElem? (i := 1) rfl)) (fun _ h9 => h9) rfl dX7_refuse_11 ?_
      refine lv_iload_n hx hb dX7_refuse_14 rfl (lv_at hl 1 rfl) ?_
      refine lv_dup2_11 hx hb dX7_refuse_15 rfl rfl ?_
      refine va_iald hx hb hK hP 1 0 rfl rfl (zf_in (by decide) (by decide)) dX7_refuse_16 ?_
      refine lv_topi (fun x_8 ex_8 => ?_)
      refine lv_iconst (v := 1) hx hb dX7_refuse_17 (by decide) ?_
      refine lv_iadd hx hb dX7_refuse_18 ?_
      refine lv_topi (fun x_9 ex_9 => ?_)
      refine va_iast hx hb hK hP hD hS 1 0 rfl rfl (zf_in (by decide) (by decide)) dX7_refuse_19 (fun H locs hP hD hS => ?_)
      obtain ⟨g_10, hg_10⟩ : ∃ g : Nat → Int32, g = upd fr (2 : Int32).toNatClampNeg x_9 := ⟨_, rfl⟩
      rw [← hg_10] at hP hD
      clear hg_10
      have h9R := zRe (ws' := [(x0, .inr (7, [.ref xs, .ref j0, .ref k0, .ref w0, .ref rd, .ref mv, .ref xr, .int im, .int lf])), (xr, .inl (cI, 8, .inl g_10))]) hP hD rfl
      clear hP hD
      obtain ⟨hP, hD⟩ := h9R
      refine lv_iload_n hx hb dX7_refuse_20 rfl (lv_at hl 1 rfl) ?_
      refine lv_ineg hx hb dX7_refuse_21 ?_
      refine lv_topi (fun y_11 ey_11 => ?_)
      obtain rfl : y_11 = (-2) := ey_11.trans (by decide)
      exact W.iret (v := (-2)) hx hb hr (fun t ht hW => ⟨⟨(-2), g_10, rfl, rfl, zRet ht hP hD [0, 1] (by decide) rfl⟩, hS.F ht⟩) hS.2.2 dX7_refuse_22
set_option maxHeartbeats 4000000 in
set_option maxRecDepth 100000 in
theorem c_X_refuse_3 (l : Launch) (D : va_G) (cI cJ cZ cP cS : ClassId) (po : zPool) (x0 xs j0 k0 w0 rd mv xr : Nat) (im lf : Int32) (fr : Nat → Int32) (hy0 : 0 ≤ im.toInt) (hy1 : im.toInt ≤ 1) (hy2 : (-1) ≤ lf.toInt) (hy3 : lf.toInt ≤ 160) (hpz : Nat) : Met l yX7_refuse wsX7_refuse ({ frames := 1, cells := 0, slots := 0, locals := 22 }) (va_Pc [.ref x0, .int 3] (zW D (zKT cI cJ cZ cP cS) po [(x0, .inr (7, [.ref xs, .ref j0, .ref k0, .ref w0, .ref rd, .ref mv, .ref xr, .int im, .int lf])), (xr, .inl (cI, 8, .inl fr))] hpz)) (va_Qi (fun (r : Int32) (fr2 : (Nat → Int32)) => r = (-3)) (zB D [(x0, .inr (7, [.ref xs, .ref j0, .ref k0, .ref w0, .ref rd, .ref mv, .ref xr, .int im, .int lf])), (xr, .inl (cI, 8, .inl fr))] hpz (fun (fr2 : Nat → Int32) => [(x0, .inr (7, [.ref xs, .ref j0, .ref k0, .ref w0, .ref rd, .ref mv, .ref xr, .int im, .int lf])), (xr, .inl (cI, 8, .inl fr2))])) (va_A [(x0, .inr (7, [.ref xs, .ref j0, .ref k0, .ref w0, .ref rd, .ref mv, .ref xr, .int im, .int lf])), (xr, .inl (cI, 8, .inl fr))] hpz)) 0 0 (va_A [(x0, .inr (7, [.ref xs, .ref j0, .ref k0, .ref w0, .ref rd, .ref mv, .ref xr, .int im, .int lf])), (xr, .inl (cI, 8, .inl fr))] hpz) := by
  refine Met.ofW (cc := cX7_refuse) (maxL := 2) (ret := (some .int)) (by decide) rfl ?_
  intro p e s m args below meth c s₁ B hml hv
  obtain ⟨rfl, hsz, hP, hK, hD0, hN, hZ⟩ := hv
  have hx := B.exec
  have hb := B.bytes
  have hr := B.returns
  have hts := atoms_spec (ws := wsX7_refuse) B.pre
  have hown : s.vm.findClass RX7 = some m.cls := findClass_of_methodNamed B.named
  have hlocks := B.notSynchronized
  subst hsz
  have hD := hD0.self (sz := s.heap.size)
  have hA := zA_of hD
  have hl := lv_entry ([.ref x0, .int 3]) (n := 2) (Nat.le_of_ble_eq_true rfl)
  rw [lg_entry_eq]
  generalize (lg_sl ([.ref x0, .int 3]) ++ List.replicate (2 - (lg_sl ([.ref x0, .int 3])).length) Slot.unset).toArray = ls at hl ⊢
  replace hl : lv_has ls 2 [(0, .ref x0), (1, .int 3)] := hl
  refine zw_begin hP hD (fun H locs hP1 hS => ?_)
  clear hP
  have hP := hP1
  clear hP1
  refine lv_iload_n hx hb dX7_refuse_0 rfl (lv_at hl 1 rfl) ?_
  refine lv_iconst (v := 1) hx hb dX7_refuse_1 (by decide) ?_
  refine lv_bipush (v := 7) hx hb dX7_refuse_2 (by decide) ?_
  have kc3 : (3 : Int32).toInt = 3 := by decide
  have kc1 : (1 : Int32).toInt = 1 := by decide
  have kc7 : (7 : Int32).toInt = 7 := by decide
  refine zc_S (As := [.int 3, .int 1, .int 7]) (rest := []) ⟨hx, hb, hml, hown, hts⟩ (c_within l D cI cJ cZ cP cS po (3) (1) (7) ) (va_cwS 3 hts gX7_refuse_X7_within rfl rfl rfl dh_X7_within ⟨Nat.le_of_ble_eq_true rfl, Nat.le_of_ble_eq_true rfl⟩) hK hN (hZ.kept hS) rfl hl.1 rfl (Nat.le_of_ble_eq_true rfl) dX7_refuse_4 ⟨Nat.le_of_ble_eq_true rfl, Nat.le_of_ble_eq_true rfl⟩ (fun r_1 hr_1 => ?_)
  rcases hr_1 with ⟨rfl, g_2⟩ | ⟨rfl, g_3, g_4⟩ | ⟨rfl, g_5, g_6⟩
  · exfalso; omega
  · exfalso; omega
  · refine lv_if_eq (tgt := 20) hx hb dX7_refuse_7 (by decide) (fun c_7 => ?_) (fun c_7 => ?_)
    · exact absurd c_7 (by decide)
    · refine lv_aload_n hx hb dX7_refuse_10 rfl (lv_at hl 0 rfl) ?_
      refine va_get (D := D) (ci := 7) (v := .ref xr) (C := RX7) (T := TX7) (N := 9) hx hb hts hi_X7_refuse_7 hown hK hP 0 rfl rfl 6 (by decide) (hts (.fieldLink RX7 46 "TheLiningsInIt" "refusals" "[I") (List.mem_of_getElem? (i := 1) rfl)) (fun _ h9 => h9) rfl dX7_refuse_11 ?_
      refine lv_iload_n hx hb dX7_refuse_14 rfl (lv_at hl 1 rfl) ?_
      refine lv_dup2_11 hx hb dX7_refuse_15 rfl rfl ?_
      refine va_iald hx hb hK hP 1 0 rfl rfl (zf_in (by decide) (by decide)) dX7_refuse_16 ?_
      refine lv_topi (fun x_8 ex_8 => ?_)
      refine lv_iconst (v := 1) hx hb dX7_refuse_17 (by decide) ?_
      refine lv_iadd hx hb dX7_refuse_18 ?_
      refine lv_topi (fun x_9 ex_9 => ?_)
      refine va_iast hx hb hK hP hD hS 1 0 rfl rfl (zf_in (by decide) (by decide)) dX7_refuse_19 (fun H locs hP hD hS => ?_)
      obtain ⟨g_10, hg_10⟩ : ∃ g : Nat → Int32, g = upd fr (3 : Int32).toNatClampNeg x_9 := ⟨_, rfl⟩
      rw [← hg_10] at hP hD
      clear hg_10
      have h9R := zRe (ws' := [(x0, .inr (7, [.ref xs, .ref j0, .ref k0, .ref w0, .ref rd, .ref mv, .ref xr, .int im, .int lf])), (xr, .inl (cI, 8, .inl g_10))]) hP hD rfl
      clear hP hD
      obtain ⟨hP, hD⟩ := h9R
      refine lv_iload_n hx hb dX7_refuse_20 rfl (lv_at hl 1 rfl) ?_
      refine lv_ineg hx hb dX7_refuse_21 ?_
      refine lv_topi (fun y_11 ey_11 => ?_)
      obtain rfl : y_11 = (-3) := ey_11.trans (by decide)
      exact W.iret (v := (-3)) hx hb hr (fun t ht hW => ⟨⟨(-3), g_10, rfl, rfl, zRet ht hP hD [0, 1] (by decide) rfl⟩, hS.F ht⟩) hS.2.2 dX7_refuse_22
set_option maxHeartbeats 4000000 in
set_option maxRecDepth 100000 in
theorem c_X_refuse_4 (l : Launch) (D : va_G) (cI cJ cZ cP cS : ClassId) (po : zPool) (x0 xs j0 k0 w0 rd mv xr : Nat) (im lf : Int32) (fr : Nat → Int32) (hy0 : 0 ≤ im.toInt) (hy1 : im.toInt ≤ 1) (hy2 : (-1) ≤ lf.toInt) (hy3 : lf.toInt ≤ 160) (hpz : Nat) : Met l yX7_refuse wsX7_refuse ({ frames := 1, cells := 0, slots := 0, locals := 22 }) (va_Pc [.ref x0, .int 4] (zW D (zKT cI cJ cZ cP cS) po [(x0, .inr (7, [.ref xs, .ref j0, .ref k0, .ref w0, .ref rd, .ref mv, .ref xr, .int im, .int lf])), (xr, .inl (cI, 8, .inl fr))] hpz)) (va_Qi (fun (r : Int32) (fr2 : (Nat → Int32)) => r = (-4)) (zB D [(x0, .inr (7, [.ref xs, .ref j0, .ref k0, .ref w0, .ref rd, .ref mv, .ref xr, .int im, .int lf])), (xr, .inl (cI, 8, .inl fr))] hpz (fun (fr2 : Nat → Int32) => [(x0, .inr (7, [.ref xs, .ref j0, .ref k0, .ref w0, .ref rd, .ref mv, .ref xr, .int im, .int lf])), (xr, .inl (cI, 8, .inl fr2))])) (va_A [(x0, .inr (7, [.ref xs, .ref j0, .ref k0, .ref w0, .ref rd, .ref mv, .ref xr, .int im, .int lf])), (xr, .inl (cI, 8, .inl fr))] hpz)) 0 0 (va_A [(x0, .inr (7, [.ref xs, .ref j0, .ref k0, .ref w0, .ref rd, .ref mv, .ref xr, .int im, .int lf])), (xr, .inl (cI, 8, .inl fr))] hpz) := by
  refine Met.ofW (cc := cX7_refuse) (maxL := 2) (ret := (some .int)) (by decide) rfl ?_
  intro p e s m args below meth c s₁ B hml hv
  obtain ⟨rfl, hsz, hP, hK, hD0, hN, hZ⟩ := hv
  have hx := B.exec
  have hb := B.bytes
  have hr := B.returns
  have hts := atoms_spec (ws := wsX7_refuse) B.pre
  have hown : s.vm.findClass RX7 = some m.cls := findClass_of_methodNamed B.named
  have hlocks := B.notSynchronized
  subst hsz
  have hD := hD0.self (sz := s.heap.size)
  have hA := zA_of hD
  have hl := lv_entry ([.ref x0, .int 4]) (n := 2) (Nat.le_of_ble_eq_true rfl)
  rw [lg_entry_eq]
  generalize (lg_sl ([.ref x0, .int 4]) ++ List.replicate (2 - (lg_sl ([.ref x0, .int 4])).length) Slot.unset).toArray = ls at hl ⊢
  replace hl : lv_has ls 2 [(0, .ref x0), (1, .int 4)] := hl
  refine zw_begin hP hD (fun H locs hP1 hS => ?_)
  clear hP
  have hP := hP1
  clear hP1
  refine lv_iload_n hx hb dX7_refuse_0 rfl (lv_at hl 1 rfl) ?_
  refine lv_iconst (v := 1) hx hb dX7_refuse_1 (by decide) ?_
  refine lv_bipush (v := 7) hx hb dX7_refuse_2 (by decide) ?_
  have kc4 : (4 : Int32).toInt = 4 := by decide
  have kc1 : (1 : Int32).toInt = 1 := by decide
  have kc7 : (7 : Int32).toInt = 7 := by decide
  refine zc_S (As := [.int 4, .int 1, .int 7]) (rest := []) ⟨hx, hb, hml, hown, hts⟩ (c_within l D cI cJ cZ cP cS po (4) (1) (7) ) (va_cwS 3 hts gX7_refuse_X7_within rfl rfl rfl dh_X7_within ⟨Nat.le_of_ble_eq_true rfl, Nat.le_of_ble_eq_true rfl⟩) hK hN (hZ.kept hS) rfl hl.1 rfl (Nat.le_of_ble_eq_true rfl) dX7_refuse_4 ⟨Nat.le_of_ble_eq_true rfl, Nat.le_of_ble_eq_true rfl⟩ (fun r_1 hr_1 => ?_)
  rcases hr_1 with ⟨rfl, g_2⟩ | ⟨rfl, g_3, g_4⟩ | ⟨rfl, g_5, g_6⟩
  · exfalso; omega
  · exfalso; omega
  · refine lv_if_eq (tgt := 20) hx hb dX7_refuse_7 (by decide) (fun c_7 => ?_) (fun c_7 => ?_)
    · exact absurd c_7 (by decide)
    · refine lv_aload_n hx hb dX7_refuse_10 rfl (lv_at hl 0 rfl) ?_
      refine va_get (D := D) (ci := 7) (v := .ref xr) (C := RX7) (T := TX7) (N := 9) hx hb hts hi_X7_refuse_7 hown hK hP 0 rfl rfl 6 (by decide) (hts (.fieldLink RX7 46 "TheLiningsInIt" "refusals" "[I") (List.mem_of_getElem? (i := 1) rfl)) (fun _ h9 => h9) rfl dX7_refuse_11 ?_
      refine lv_iload_n hx hb dX7_refuse_14 rfl (lv_at hl 1 rfl) ?_
      refine lv_dup2_11 hx hb dX7_refuse_15 rfl rfl ?_
      refine va_iald hx hb hK hP 1 0 rfl rfl (zf_in (by decide) (by decide)) dX7_refuse_16 ?_
      refine lv_topi (fun x_8 ex_8 => ?_)
      refine lv_iconst (v := 1) hx hb dX7_refuse_17 (by decide) ?_
      refine lv_iadd hx hb dX7_refuse_18 ?_
      refine lv_topi (fun x_9 ex_9 => ?_)
      refine va_iast hx hb hK hP hD hS 1 0 rfl rfl (zf_in (by decide) (by decide)) dX7_refuse_19 (fun H locs hP hD hS => ?_)
      obtain ⟨g_10, hg_10⟩ : ∃ g : Nat → Int32, g = upd fr (4 : Int32).toNatClampNeg x_9 := ⟨_, rfl⟩
      rw [← hg_10] at hP hD
      clear hg_10
      have h9R := zRe (ws' := [(x0, .inr (7, [.ref xs, .ref j0, .ref k0, .ref w0, .ref rd, .ref mv, .ref xr, .int im, .int lf])), (xr, .inl (cI, 8, .inl g_10))]) hP hD rfl
      clear hP hD
      obtain ⟨hP, hD⟩ := h9R
      refine lv_iload_n hx hb dX7_refuse_20 rfl (lv_at hl 1 rfl) ?_
      refine lv_ineg hx hb dX7_refuse_21 ?_
      refine lv_topi (fun y_11 ey_11 => ?_)
      obtain rfl : y_11 = (-4) := ey_11.trans (by decide)
      exact W.iret (v := (-4)) hx hb hr (fun t ht hW => ⟨⟨(-4), g_10, rfl, rfl, zRet ht hP hD [0, 1] (by decide) rfl⟩, hS.F ht⟩) hS.2.2 dX7_refuse_22
set_option maxHeartbeats 4000000 in
set_option maxRecDepth 100000 in
theorem c_X_refuse_5 (l : Launch) (D : va_G) (cI cJ cZ cP cS : ClassId) (po : zPool) (x0 xs j0 k0 w0 rd mv xr : Nat) (im lf : Int32) (fr : Nat → Int32) (hy0 : 0 ≤ im.toInt) (hy1 : im.toInt ≤ 1) (hy2 : (-1) ≤ lf.toInt) (hy3 : lf.toInt ≤ 160) (hpz : Nat) : Met l yX7_refuse wsX7_refuse ({ frames := 1, cells := 0, slots := 0, locals := 22 }) (va_Pc [.ref x0, .int 5] (zW D (zKT cI cJ cZ cP cS) po [(x0, .inr (7, [.ref xs, .ref j0, .ref k0, .ref w0, .ref rd, .ref mv, .ref xr, .int im, .int lf])), (xr, .inl (cI, 8, .inl fr))] hpz)) (va_Qi (fun (r : Int32) (fr2 : (Nat → Int32)) => r = (-5)) (zB D [(x0, .inr (7, [.ref xs, .ref j0, .ref k0, .ref w0, .ref rd, .ref mv, .ref xr, .int im, .int lf])), (xr, .inl (cI, 8, .inl fr))] hpz (fun (fr2 : Nat → Int32) => [(x0, .inr (7, [.ref xs, .ref j0, .ref k0, .ref w0, .ref rd, .ref mv, .ref xr, .int im, .int lf])), (xr, .inl (cI, 8, .inl fr2))])) (va_A [(x0, .inr (7, [.ref xs, .ref j0, .ref k0, .ref w0, .ref rd, .ref mv, .ref xr, .int im, .int lf])), (xr, .inl (cI, 8, .inl fr))] hpz)) 0 0 (va_A [(x0, .inr (7, [.ref xs, .ref j0, .ref k0, .ref w0, .ref rd, .ref mv, .ref xr, .int im, .int lf])), (xr, .inl (cI, 8, .inl fr))] hpz) := by
  refine Met.ofW (cc := cX7_refuse) (maxL := 2) (ret := (some .int)) (by decide) rfl ?_
  intro p e s m args below meth c s₁ B hml hv
  obtain ⟨rfl, hsz, hP, hK, hD0, hN, hZ⟩ := hv
  have hx := B.exec
  have hb := B.bytes
  have hr := B.returns
  have hts := atoms_spec (ws := wsX7_refuse) B.pre
  have hown : s.vm.findClass RX7 = some m.cls := findClass_of_methodNamed B.named
  have hlocks := B.notSynchronized
  subst hsz
  have hD := hD0.self (sz := s.heap.size)
  have hA := zA_of hD
  have hl := lv_entry ([.ref x0, .int 5]) (n := 2) (Nat.le_of_ble_eq_true rfl)
  rw [lg_entry_eq]
  generalize (lg_sl ([.ref x0, .int 5]) ++ List.replicate (2 - (lg_sl ([.ref x0, .int 5])).length) Slot.unset).toArray = ls at hl ⊢
  replace hl : lv_has ls 2 [(0, .ref x0), (1, .int 5)] := hl
  refine zw_begin hP hD (fun H locs hP1 hS => ?_)
  clear hP
  have hP := hP1
  clear hP1
  refine lv_iload_n hx hb dX7_refuse_0 rfl (lv_at hl 1 rfl) ?_
  refine lv_iconst (v := 1) hx hb dX7_refuse_1 (by decide) ?_
  refine lv_bipush (v := 7) hx hb dX7_refuse_2 (by decide) ?_
  have kc5 : (5 : Int32).toInt = 5 := by decide
  have kc1 : (1 : Int32).toInt = 1 := by decide
  have kc7 : (7 : Int32).toInt = 7 := by decide
  refine zc_S (As := [.int 5, .int 1, .int 7]) (rest := []) ⟨hx, hb, hml, hown, hts⟩ (c_within l D cI cJ cZ cP cS po (5) (1) (7) ) (va_cwS 3 hts gX7_refuse_X7_within rfl rfl rfl dh_X7_within ⟨Nat.le_of_ble_eq_true rfl, Nat.le_of_ble_eq_true rfl⟩) hK hN (hZ.kept hS) rfl hl.1 rfl (Nat.le_of_ble_eq_true rfl) dX7_refuse_4 ⟨Nat.le_of_ble_eq_true rfl, Nat.le_of_ble_eq_true rfl⟩ (fun r_1 hr_1 => ?_)
  rcases hr_1 with ⟨rfl, g_2⟩ | ⟨rfl, g_3, g_4⟩ | ⟨rfl, g_5, g_6⟩
  · exfalso; omega
  · exfalso; omega
  · refine lv_if_eq (tgt := 20) hx hb dX7_refuse_7 (by decide) (fun c_7 => ?_) (fun c_7 => ?_)
    · exact absurd c_7 (by decide)
    · refine lv_aload_n hx hb dX7_refuse_10 rfl (lv_at hl 0 rfl) ?_
      refine va_get (D := D) (ci := 7) (v := .ref xr) (C := RX7) (T := TX7) (N := 9) hx hb hts hi_X7_refuse_7 hown hK hP 0 rfl rfl 6 (by decide) (hts (.fieldLink RX7 46 "TheLiningsInIt" "refusals" "[I") (List.mem_of_getElem? (i := 1) rfl)) (fun _ h9 => h9) rfl dX7_refuse_11 ?_
      refine lv_iload_n hx hb dX7_refuse_14 rfl (lv_at hl 1 rfl) ?_
      refine lv_dup2_11 hx hb dX7_refuse_15 rfl rfl ?_
      refine va_iald hx hb hK hP 1 0 rfl rfl (zf_in (by decide) (by decide)) dX7_refuse_16 ?_
      refine lv_topi (fun x_8 ex_8 => ?_)
      refine lv_iconst (v := 1) hx hb dX7_refuse_17 (by decide) ?_
      refine lv_iadd hx hb dX7_refuse_18 ?_
      refine lv_topi (fun x_9 ex_9 => ?_)
      refine va_iast hx hb hK hP hD hS 1 0 rfl rfl (zf_in (by decide) (by decide)) dX7_refuse_19 (fun H locs hP hD hS => ?_)
      obtain ⟨g_10, hg_10⟩ : ∃ g : Nat → Int32, g = upd fr (5 : Int32).toNatClampNeg x_9 := ⟨_, rfl⟩
      rw [← hg_10] at hP hD
      clear hg_10
      have h9R := zRe (ws' := [(x0, .inr (7, [.ref xs, .ref j0, .ref k0, .ref w0, .ref rd, .ref mv, .ref xr, .int im, .int lf])), (xr, .inl (cI, 8, .inl g_10))]) hP hD rfl
      clear hP hD
      obtain ⟨hP, hD⟩ := h9R
      refine lv_iload_n hx hb dX7_refuse_20 rfl (lv_at hl 1 rfl) ?_
      refine lv_ineg hx hb dX7_refuse_21 ?_
      refine lv_topi (fun y_11 ey_11 => ?_)
      obtain rfl : y_11 = (-5) := ey_11.trans (by decide)
      exact W.iret (v := (-5)) hx hb hr (fun t ht hW => ⟨⟨(-5), g_10, rfl, rfl, zRet ht hP hD [0, 1] (by decide) rfl⟩, hS.F ht⟩) hS.2.2 dX7_refuse_22
set_option maxHeartbeats 4000000 in
set_option maxRecDepth 100000 in
theorem c_X_refuse_6 (l : Launch) (D : va_G) (cI cJ cZ cP cS : ClassId) (po : zPool) (x0 xs j0 k0 w0 rd mv xr : Nat) (im lf : Int32) (fr : Nat → Int32) (hy0 : 0 ≤ im.toInt) (hy1 : im.toInt ≤ 1) (hy2 : (-1) ≤ lf.toInt) (hy3 : lf.toInt ≤ 160) (hpz : Nat) : Met l yX7_refuse wsX7_refuse ({ frames := 1, cells := 0, slots := 0, locals := 22 }) (va_Pc [.ref x0, .int 6] (zW D (zKT cI cJ cZ cP cS) po [(x0, .inr (7, [.ref xs, .ref j0, .ref k0, .ref w0, .ref rd, .ref mv, .ref xr, .int im, .int lf])), (xr, .inl (cI, 8, .inl fr))] hpz)) (va_Qi (fun (r : Int32) (fr2 : (Nat → Int32)) => r = (-6)) (zB D [(x0, .inr (7, [.ref xs, .ref j0, .ref k0, .ref w0, .ref rd, .ref mv, .ref xr, .int im, .int lf])), (xr, .inl (cI, 8, .inl fr))] hpz (fun (fr2 : Nat → Int32) => [(x0, .inr (7, [.ref xs, .ref j0, .ref k0, .ref w0, .ref rd, .ref mv, .ref xr, .int im, .int lf])), (xr, .inl (cI, 8, .inl fr2))])) (va_A [(x0, .inr (7, [.ref xs, .ref j0, .ref k0, .ref w0, .ref rd, .ref mv, .ref xr, .int im, .int lf])), (xr, .inl (cI, 8, .inl fr))] hpz)) 0 0 (va_A [(x0, .inr (7, [.ref xs, .ref j0, .ref k0, .ref w0, .ref rd, .ref mv, .ref xr, .int im, .int lf])), (xr, .inl (cI, 8, .inl fr))] hpz) := by
  refine Met.ofW (cc := cX7_refuse) (maxL := 2) (ret := (some .int)) (by decide) rfl ?_
  intro p e s m args below meth c s₁ B hml hv
  obtain ⟨rfl, hsz, hP, hK, hD0, hN, hZ⟩ := hv
  have hx := B.exec
  have hb := B.bytes
  have hr := B.returns
  have hts := atoms_spec (ws := wsX7_refuse) B.pre
  have hown : s.vm.findClass RX7 = some m.cls := findClass_of_methodNamed B.named
  have hlocks := B.notSynchronized
  subst hsz
  have hD := hD0.self (sz := s.heap.size)
  have hA := zA_of hD
  have hl := lv_entry ([.ref x0, .int 6]) (n := 2) (Nat.le_of_ble_eq_true rfl)
  rw [lg_entry_eq]
  generalize (lg_sl ([.ref x0, .int 6]) ++ List.replicate (2 - (lg_sl ([.ref x0, .int 6])).length) Slot.unset).toArray = ls at hl ⊢
  replace hl : lv_has ls 2 [(0, .ref x0), (1, .int 6)] := hl
  refine zw_begin hP hD (fun H locs hP1 hS => ?_)
  clear hP
  have hP := hP1
  clear hP1
  refine lv_iload_n hx hb dX7_refuse_0 rfl (lv_at hl 1 rfl) ?_
  refine lv_iconst (v := 1) hx hb dX7_refuse_1 (by decide) ?_
  refine lv_bipush (v := 7) hx hb dX7_refuse_2 (by decide) ?_
  have kc6 : (6 : Int32).toInt = 6 := by decide
  have kc1 : (1 : Int32).toInt = 1 := by decide
  have kc7 : (7 : Int32).toInt = 7 := by decide
  refine zc_S (As := [.int 6, .int 1, .int 7]) (rest := []) ⟨hx, hb, hml, hown, hts⟩ (c_within l D cI cJ cZ cP cS po (6) (1) (7) ) (va_cwS 3 hts gX7_refuse_X7_within rfl rfl rfl dh_X7_within ⟨Nat.le_of_ble_eq_true rfl, Nat.le_of_ble_eq_true rfl⟩) hK hN (hZ.kept hS) rfl hl.1 rfl (Nat.le_of_ble_eq_true rfl) dX7_refuse_4 ⟨Nat.le_of_ble_eq_true rfl, Nat.le_of_ble_eq_true rfl⟩ (fun r_1 hr_1 => ?_)
  rcases hr_1 with ⟨rfl, g_2⟩ | ⟨rfl, g_3, g_4⟩ | ⟨rfl, g_5, g_6⟩
  · exfalso; omega
  · exfalso; omega
  · refine lv_if_eq (tgt := 20) hx hb dX7_refuse_7 (by decide) (fun c_7 => ?_) (fun c_7 => ?_)
    · exact absurd c_7 (by decide)
    · refine lv_aload_n hx hb dX7_refuse_10 rfl (lv_at hl 0 rfl) ?_
      refine va_get (D := D) (ci := 7) (v := .ref xr) (C := RX7) (T := TX7) (N := 9) hx hb hts hi_X7_refuse_7 hown hK hP 0 rfl rfl 6 (by decide) (hts (.fieldLink RX7 46 "TheLiningsInIt" "refusals" "[I") (List.mem_of_getElem? (i := 1) rfl)) (fun _ h9 => h9) rfl dX7_refuse_11 ?_
      refine lv_iload_n hx hb dX7_refuse_14 rfl (lv_at hl 1 rfl) ?_
      refine lv_dup2_11 hx hb dX7_refuse_15 rfl rfl ?_
      refine va_iald hx hb hK hP 1 0 rfl rfl (zf_in (by decide) (by decide)) dX7_refuse_16 ?_
      refine lv_topi (fun x_8 ex_8 => ?_)
      refine lv_iconst (v := 1) hx hb dX7_refuse_17 (by decide) ?_
      refine lv_iadd hx hb dX7_refuse_18 ?_
      refine lv_topi (fun x_9 ex_9 => ?_)
      refine va_iast hx hb hK hP hD hS 1 0 rfl rfl (zf_in (by decide) (by decide)) dX7_refuse_19 (fun H locs hP hD hS => ?_)
      obtain ⟨g_10, hg_10⟩ : ∃ g : Nat → Int32, g = upd fr (6 : Int32).toNatClampNeg x_9 := ⟨_, rfl⟩
      rw [← hg_10] at hP hD
      clear hg_10
      have h9R := zRe (ws' := [(x0, .inr (7, [.ref xs, .ref j0, .ref k0, .ref w0, .ref rd, .ref mv, .ref xr, .int im, .int lf])), (xr, .inl (cI, 8, .inl g_10))]) hP hD rfl
      clear hP hD
      obtain ⟨hP, hD⟩ := h9R
      refine lv_iload_n hx hb dX7_refuse_20 rfl (lv_at hl 1 rfl) ?_
      refine lv_ineg hx hb dX7_refuse_21 ?_
      refine lv_topi (fun y_11 ey_11 => ?_)
      obtain rfl : y_11 = (-6) := ey_11.trans (by decide)
      exact W.iret (v := (-6)) hx hb hr (fun t ht hW => ⟨⟨(-6), g_10, rfl, rfl, zRet ht hP hD [0, 1] (by decide) rfl⟩, hS.F ht⟩) hS.2.2 dX7_refuse_22
set_option maxHeartbeats 4000000 in
set_option maxRecDepth 100000 in
theorem c_X_refuse_7 (l : Launch) (D : va_G) (cI cJ cZ cP cS : ClassId) (po : zPool) (x0 xs j0 k0 w0 rd mv xr : Nat) (im lf : Int32) (fr : Nat → Int32) (hy0 : 0 ≤ im.toInt) (hy1 : im.toInt ≤ 1) (hy2 : (-1) ≤ lf.toInt) (hy3 : lf.toInt ≤ 160) (hpz : Nat) : Met l yX7_refuse wsX7_refuse ({ frames := 1, cells := 0, slots := 0, locals := 22 }) (va_Pc [.ref x0, .int 7] (zW D (zKT cI cJ cZ cP cS) po [(x0, .inr (7, [.ref xs, .ref j0, .ref k0, .ref w0, .ref rd, .ref mv, .ref xr, .int im, .int lf])), (xr, .inl (cI, 8, .inl fr))] hpz)) (va_Qi (fun (r : Int32) (fr2 : (Nat → Int32)) => r = (-7)) (zB D [(x0, .inr (7, [.ref xs, .ref j0, .ref k0, .ref w0, .ref rd, .ref mv, .ref xr, .int im, .int lf])), (xr, .inl (cI, 8, .inl fr))] hpz (fun (fr2 : Nat → Int32) => [(x0, .inr (7, [.ref xs, .ref j0, .ref k0, .ref w0, .ref rd, .ref mv, .ref xr, .int im, .int lf])), (xr, .inl (cI, 8, .inl fr2))])) (va_A [(x0, .inr (7, [.ref xs, .ref j0, .ref k0, .ref w0, .ref rd, .ref mv, .ref xr, .int im, .int lf])), (xr, .inl (cI, 8, .inl fr))] hpz)) 0 0 (va_A [(x0, .inr (7, [.ref xs, .ref j0, .ref k0, .ref w0, .ref rd, .ref mv, .ref xr, .int im, .int lf])), (xr, .inl (cI, 8, .inl fr))] hpz) := by
  refine Met.ofW (cc := cX7_refuse) (maxL := 2) (ret := (some .int)) (by decide) rfl ?_
  intro p e s m args below meth c s₁ B hml hv
  obtain ⟨rfl, hsz, hP, hK, hD0, hN, hZ⟩ := hv
  have hx := B.exec
  have hb := B.bytes
  have hr := B.returns
  have hts := atoms_spec (ws := wsX7_refuse) B.pre
  have hown : s.vm.findClass RX7 = some m.cls := findClass_of_methodNamed B.named
  have hlocks := B.notSynchronized
  subst hsz
  have hD := hD0.self (sz := s.heap.size)
  have hA := zA_of hD
  have hl := lv_entry ([.ref x0, .int 7]) (n := 2) (Nat.le_of_ble_eq_true rfl)
  rw [lg_entry_eq]
  generalize (lg_sl ([.ref x0, .int 7]) ++ List.replicate (2 - (lg_sl ([.ref x0, .int 7])).length) Slot.unset).toArray = ls at hl ⊢
  replace hl : lv_has ls 2 [(0, .ref x0), (1, .int 7)] := hl
  refine zw_begin hP hD (fun H locs hP1 hS => ?_)
  clear hP
  have hP := hP1
  clear hP1
  refine lv_iload_n hx hb dX7_refuse_0 rfl (lv_at hl 1 rfl) ?_
  refine lv_iconst (v := 1) hx hb dX7_refuse_1 (by decide) ?_
  refine lv_bipush (v := 7) hx hb dX7_refuse_2 (by decide) ?_
  have kc7 : (7 : Int32).toInt = 7 := by decide
  have kc1 : (1 : Int32).toInt = 1 := by decide
  refine zc_S (As := [.int 7, .int 1, .int 7]) (rest := []) ⟨hx, hb, hml, hown, hts⟩ (c_within l D cI cJ cZ cP cS po (7) (1) (7) ) (va_cwS 3 hts gX7_refuse_X7_within rfl rfl rfl dh_X7_within ⟨Nat.le_of_ble_eq_true rfl, Nat.le_of_ble_eq_true rfl⟩) hK hN (hZ.kept hS) rfl hl.1 rfl (Nat.le_of_ble_eq_true rfl) dX7_refuse_4 ⟨Nat.le_of_ble_eq_true rfl, Nat.le_of_ble_eq_true rfl⟩ (fun r_1 hr_1 => ?_)
  rcases hr_1 with ⟨rfl, g_2⟩ | ⟨rfl, g_3, g_4⟩ | ⟨rfl, g_5, g_6⟩
  · exfalso; omega
  · exfalso; omega
  · refine lv_if_eq (tgt := 20) hx hb dX7_refuse_7 (by decide) (fun c_7 => ?_) (fun c_7 => ?_)
    · exact absurd c_7 (by decide)
    · refine lv_aload_n hx hb dX7_refuse_10 rfl (lv_at hl 0 rfl) ?_
      refine va_get (D := D) (ci := 7) (v := .ref xr) (C := RX7) (T := TX7) (N := 9) hx hb hts hi_X7_refuse_7 hown hK hP 0 rfl rfl 6 (by decide) (hts (.fieldLink RX7 46 "TheLiningsInIt" "refusals" "[I") (List.mem_of_getElem? (i := 1) rfl)) (fun _ h9 => h9) rfl dX7_refuse_11 ?_
      refine lv_iload_n hx hb dX7_refuse_14 rfl (lv_at hl 1 rfl) ?_
      refine lv_dup2_11 hx hb dX7_refuse_15 rfl rfl ?_
      refine va_iald hx hb hK hP 1 0 rfl rfl (zf_in (by decide) (by decide)) dX7_refuse_16 ?_
      refine lv_topi (fun x_8 ex_8 => ?_)
      refine lv_iconst (v := 1) hx hb dX7_refuse_17 (by decide) ?_
      refine lv_iadd hx hb dX7_refuse_18 ?_
      refine lv_topi (fun x_9 ex_9 => ?_)
      refine va_iast hx hb hK hP hD hS 1 0 rfl rfl (zf_in (by decide) (by decide)) dX7_refuse_19 (fun H locs hP hD hS => ?_)
      obtain ⟨g_10, hg_10⟩ : ∃ g : Nat → Int32, g = upd fr (7 : Int32).toNatClampNeg x_9 := ⟨_, rfl⟩
      rw [← hg_10] at hP hD
      clear hg_10
      have h9R := zRe (ws' := [(x0, .inr (7, [.ref xs, .ref j0, .ref k0, .ref w0, .ref rd, .ref mv, .ref xr, .int im, .int lf])), (xr, .inl (cI, 8, .inl g_10))]) hP hD rfl
      clear hP hD
      obtain ⟨hP, hD⟩ := h9R
      refine lv_iload_n hx hb dX7_refuse_20 rfl (lv_at hl 1 rfl) ?_
      refine lv_ineg hx hb dX7_refuse_21 ?_
      refine lv_topi (fun y_11 ey_11 => ?_)
      obtain rfl : y_11 = (-7) := ey_11.trans (by decide)
      exact W.iret (v := (-7)) hx hb hr (fun t ht hW => ⟨⟨(-7), g_10, rfl, rfl, zRet ht hP hD [0, 1] (by decide) rfl⟩, hS.F ht⟩) hS.2.2 dX7_refuse_22
set_option maxHeartbeats 4000000 in
set_option maxRecDepth 100000 in
theorem c_X_refuse (l : Launch) (D : va_G) (cI cJ cZ cP cS : ClassId) (po : zPool) (x0 xs j0 k0 w0 rd mv xr : Nat) (im lf : Int32) (fr : Nat → Int32) (n : Int32) (hy0 : 0 ≤ im.toInt) (hy1 : im.toInt ≤ 1) (hy2 : (-1) ≤ lf.toInt) (hy3 : lf.toInt ≤ 160) (hy4 : 1 ≤ n.toInt) (hy5 : n.toInt ≤ 7) (hpz : Nat) : Met l yX7_refuse wsX7_refuse ({ frames := 1, cells := 0, slots := 0, locals := 22 }) (va_Pc [.ref x0, .int n] (zW D (zKT cI cJ cZ cP cS) po [(x0, .inr (7, [.ref xs, .ref j0, .ref k0, .ref w0, .ref rd, .ref mv, .ref xr, .int im, .int lf])), (xr, .inl (cI, 8, .inl fr))] hpz)) (va_Qi (fun (r : Int32) (fr2 : (Nat → Int32)) => (r.toInt = -n.toInt) ∧ (-7 ≤ r.toInt ∧ r.toInt ≤ -1)) (zB D [(x0, .inr (7, [.ref xs, .ref j0, .ref k0, .ref w0, .ref rd, .ref mv, .ref xr, .int im, .int lf])), (xr, .inl (cI, 8, .inl fr))] hpz (fun (fr2 : Nat → Int32) => [(x0, .inr (7, [.ref xs, .ref j0, .ref k0, .ref w0, .ref rd, .ref mv, .ref xr, .int im, .int lf])), (xr, .inl (cI, 8, .inl fr2))])) (va_A [(x0, .inr (7, [.ref xs, .ref j0, .ref k0, .ref w0, .ref rd, .ref mv, .ref xr, .int im, .int lf])), (xr, .inl (cI, 8, .inl fr))] hpz)) 0 0 (va_A [(x0, .inr (7, [.ref xs, .ref j0, .ref k0, .ref w0, .ref rd, .ref mv, .ref xr, .int im, .int lf])), (xr, .inl (cI, 8, .inl fr))] hpz) := by
  refine Met.ofW (cc := cX7_refuse) (maxL := 2) (ret := (some .int)) (by decide) rfl ?_
  intro p e s m args below meth c s₁ B hml hv
  obtain ⟨rfl, hsz, hP, hK, hD0, hN, hZ⟩ := hv
  have hx := B.exec
  have hb := B.bytes
  have hr := B.returns
  have hts := atoms_spec (ws := wsX7_refuse) B.pre
  have hown : s.vm.findClass RX7 = some m.cls := findClass_of_methodNamed B.named
  have hlocks := B.notSynchronized
  subst hsz
  have hD := hD0.self (sz := s.heap.size)
  have hA := zA_of hD
  have hl := lv_entry ([.ref x0, .int n]) (n := 2) (Nat.le_of_ble_eq_true rfl)
  rw [lg_entry_eq]
  generalize (lg_sl ([.ref x0, .int n]) ++ List.replicate (2 - (lg_sl ([.ref x0, .int n])).length) Slot.unset).toArray = ls at hl ⊢
  replace hl : lv_has ls 2 [(0, .ref x0), (1, .int n)] := hl
  refine zw_begin hP hD (fun H locs hP1 hS => ?_)
  clear hP
  have hP := hP1
  clear hP1
  refine lv_iload_n hx hb dX7_refuse_0 rfl (lv_at hl 1 rfl) ?_
  refine lv_iconst (v := 1) hx hb dX7_refuse_1 (by decide) ?_
  refine lv_bipush (v := 7) hx hb dX7_refuse_2 (by decide) ?_
  have kc1 : (1 : Int32).toInt = 1 := by decide
  have kc7 : (7 : Int32).toInt = 7 := by decide
  refine zc_S (As := [.int n, .int 1, .int 7]) (rest := []) ⟨hx, hb, hml, hown, hts⟩ (c_within l D cI cJ cZ cP cS po (n) (1) (7) ) (va_cwS 3 hts gX7_refuse_X7_within rfl rfl rfl dh_X7_within ⟨Nat.le_of_ble_eq_true rfl, Nat.le_of_ble_eq_true rfl⟩) hK hN (hZ.kept hS) rfl hl.1 rfl (Nat.le_of_ble_eq_true rfl) dX7_refuse_4 ⟨Nat.le_of_ble_eq_true rfl, Nat.le_of_ble_eq_true rfl⟩ (fun r_1 hr_1 => ?_)
  rcases hr_1 with ⟨rfl, g_2⟩ | ⟨rfl, g_3, g_4⟩ | ⟨rfl, g_5, g_6⟩
  · exfalso; omega
  · exfalso; omega
  · refine lv_if_eq (tgt := 20) hx hb dX7_refuse_7 (by decide) (fun c_7 => ?_) (fun c_7 => ?_)
    · exact absurd c_7 (by decide)
    · refine lv_aload_n hx hb dX7_refuse_10 rfl (lv_at hl 0 rfl) ?_
      refine va_get (D := D) (ci := 7) (v := .ref xr) (C := RX7) (T := TX7) (N := 9) hx hb hts hi_X7_refuse_7 hown hK hP 0 rfl rfl 6 (by decide) (hts (.fieldLink RX7 46 "TheLiningsInIt" "refusals" "[I") (List.mem_of_getElem? (i := 1) rfl)) (fun _ h9 => h9) rfl dX7_refuse_11 ?_
      refine lv_iload_n hx hb dX7_refuse_14 rfl (lv_at hl 1 rfl) ?_
      refine lv_dup2_11 hx hb dX7_refuse_15 rfl rfl ?_
      refine va_iald hx hb hK hP 1 0 rfl rfl (zf_in (by omega) (by omega)) dX7_refuse_16 ?_
      refine lv_topi (fun x_8 ex_8 => ?_)
      refine lv_iconst (v := 1) hx hb dX7_refuse_17 (by decide) ?_
      refine lv_iadd hx hb dX7_refuse_18 ?_
      refine lv_topi (fun x_9 ex_9 => ?_)
      refine va_iast hx hb hK hP hD hS 1 0 rfl rfl (zf_in (by omega) (by omega)) dX7_refuse_19 (fun H locs hP hD hS => ?_)
      obtain ⟨g_10, hg_10⟩ : ∃ g : Nat → Int32, g = upd fr n.toNatClampNeg x_9 := ⟨_, rfl⟩
      rw [← hg_10] at hP hD
      clear hg_10
      have h9R := zRe (ws' := [(x0, .inr (7, [.ref xs, .ref j0, .ref k0, .ref w0, .ref rd, .ref mv, .ref xr, .int im, .int lf])), (xr, .inl (cI, 8, .inl g_10))]) hP hD rfl
      clear hP hD
      obtain ⟨hP, hD⟩ := h9R
      refine lv_iload_n hx hb dX7_refuse_20 rfl (lv_at hl 1 rfl) ?_
      refine lv_ineg hx hb dX7_refuse_21 ?_
      refine lv_topi (fun x_11 ex_11 => ?_)
      have qx_11 : x_11.toInt = -n.toInt := by rw [ex_11]; exact zf_neg rfl (by omega) (by omega)
      exact W.iret (v := x_11) hx hb hr (fun t ht hW => ⟨⟨x_11, g_10, rfl, ⟨(show (x_11 : Int32).toInt = -n.toInt from by omega), ⟨by omega, by omega⟩⟩, zRet ht hP hD [0, 1] (by decide) rfl⟩, hS.F ht⟩) hS.2.2 dX7_refuse_22
set_option maxHeartbeats 4000000 in
set_option maxRecDepth 100000 in
theorem c_X_refuseLower_1 (l : Launch) (D : va_G) (cI cJ cZ cP cS : ClassId) (po : zPool) (x0 xs j0 k0 w0 rd mv xr : Nat) (im lf : Int32) (fr : Nat → Int32) (hy0 : 0 ≤ im.toInt) (hy1 : im.toInt ≤ 1) (hy2 : (-1) ≤ lf.toInt) (hy3 : lf.toInt ≤ 160) (hpz : Nat) : Met l yX7_refuseLower wsX7_refuseLower ({ frames := 2, cells := 0, slots := 0, locals := 43 }) (va_Pc [.ref x0, .int 1] (zW D (zKT cI cJ cZ cP cS) po [(x0, .inr (7, [.ref xs, .ref j0, .ref k0, .ref w0, .ref rd, .ref mv, .ref xr, .int im, .int lf])), (xr, .inl (cI, 8, .inl fr))] hpz)) (va_Qi (fun (r : Int32) (fr2 : (Nat → Int32)) => r = (-11)) (zB D [(x0, .inr (7, [.ref xs, .ref j0, .ref k0, .ref w0, .ref rd, .ref mv, .ref xr, .int im, .int lf])), (xr, .inl (cI, 8, .inl fr))] hpz (fun (fr2 : Nat → Int32) => [(x0, .inr (7, [.ref xs, .ref j0, .ref k0, .ref w0, .ref rd, .ref mv, .ref xr, .int im, .int lf])), (xr, .inl (cI, 8, .inl fr2))])) (va_A [(x0, .inr (7, [.ref xs, .ref j0, .ref k0, .ref w0, .ref rd, .ref mv, .ref xr, .int im, .int lf])), (xr, .inl (cI, 8, .inl fr))] hpz)) 0 0 (va_A [(x0, .inr (7, [.ref xs, .ref j0, .ref k0, .ref w0, .ref rd, .ref mv, .ref xr, .int im, .int lf])), (xr, .inl (cI, 8, .inl fr))] hpz) := by
  refine Met.ofW (cc := cX7_refuseLower) (maxL := 2) (ret := (some .int)) (by decide) rfl ?_
  intro p e s m args below meth c s₁ B hml hv
  obtain ⟨rfl, hsz, hP, hK, hD0, hN, hZ⟩ := hv
  have hx := B.exec
  have hb := B.bytes
  have hr := B.returns
  have hts := atoms_spec (ws := wsX7_refuseLower) B.pre
  have hown : s.vm.findClass RX7 = some m.cls := findClass_of_methodNamed B.named
  have hlocks := B.notSynchronized
  subst hsz
  have hD := hD0.self (sz := s.heap.size)
  have hA := zA_of hD
  have hl := lv_entry ([.ref x0, .int 1]) (n := 2) (Nat.le_of_ble_eq_true rfl)
  rw [lg_entry_eq]
  generalize (lg_sl ([.ref x0, .int 1]) ++ List.replicate (2 - (lg_sl ([.ref x0, .int 1])).length) Slot.unset).toArray = ls at hl ⊢
  replace hl : lv_has ls 2 [(0, .ref x0), (1, .int 1)] := hl
  refine zw_begin hP hD (fun H locs hP1 hS => ?_)
  clear hP
  have hP := hP1
  clear hP1
  refine lv_aload_n hx hb dX7_refuseLower_0 rfl (lv_at hl 0 rfl) ?_
  refine lv_iload_n hx hb dX7_refuseLower_1 rfl (lv_at hl 1 rfl) ?_
  skip
  refine zw_V (As := [.int 1]) (rest := []) (wr := []) ⟨hx, hb, hml, hown, hts⟩ (c_X_refuse_1 l D cI cJ cZ cP cS po x0 xs j0 k0 w0 rd mv xr (im) (lf) fr hy0 hy1 hy2 hy3 H.size) (cwV 1 hts gX7_refuseLower_X7_refuse rfl rfl rfl ⟨rfl, dh_X7_refuse⟩ ⟨Nat.le_of_ble_eq_true rfl, Nat.le_of_ble_eq_true rfl⟩) hK hN (hZ.kept hS) hP hD hS hA [0, 1] [] rfl rfl (by decide) (by decide) (by decide) (va_recv (q := (RX7, TX7, 9)) hK hP (ci := 7) (q0 := 0) rfl rfl) rfl hl.1 rfl (Nat.le_of_ble_eq_true rfl) dX7_refuseLower_2 ⟨Nat.le_of_ble_eq_true rfl, Nat.le_of_ble_eq_true rfl⟩ (fun r_1 u_2 H locs hr_1 hP hD hS => ?_)
  obtain ⟨q_3, rfl⟩ : ∃ z, z = u_2 := ⟨_, rfl⟩
  have h9R := zRe (ws' := [(x0, .inr (7, [.ref xs, .ref j0, .ref k0, .ref w0, .ref rd, .ref mv, .ref xr, .int im, .int lf])), (xr, .inl (cI, 8, .inl q_3))]) hP hD rfl
  clear hP hD
  obtain ⟨hP, hD⟩ := h9R
  obtain rfl := hr_1
  refine lv_bipush (v := 10) hx hb dX7_refuseLower_5 (by decide) ?_
  refine lv_isub hx hb dX7_refuseLower_7 ?_
  refine lv_topi (fun y_4 ey_4 => ?_)
  obtain rfl : y_4 = (-11) := ey_4.trans (by decide)
  exact W.iret (v := (-11)) hx hb hr (fun t ht hW => ⟨⟨(-11), q_3, rfl, rfl, zRet ht hP hD [0, 1] (by decide) rfl⟩, hS.F ht⟩) hS.2.2 dX7_refuseLower_8
set_option maxHeartbeats 4000000 in
set_option maxRecDepth 100000 in
theorem c_X_refuseLower_2 (l : Launch) (D : va_G) (cI cJ cZ cP cS : ClassId) (po : zPool) (x0 xs j0 k0 w0 rd mv xr : Nat) (im lf : Int32) (fr : Nat → Int32) (hy0 : 0 ≤ im.toInt) (hy1 : im.toInt ≤ 1) (hy2 : (-1) ≤ lf.toInt) (hy3 : lf.toInt ≤ 160) (hpz : Nat) : Met l yX7_refuseLower wsX7_refuseLower ({ frames := 2, cells := 0, slots := 0, locals := 43 }) (va_Pc [.ref x0, .int 2] (zW D (zKT cI cJ cZ cP cS) po [(x0, .inr (7, [.ref xs, .ref j0, .ref k0, .ref w0, .ref rd, .ref mv, .ref xr, .int im, .int lf])), (xr, .inl (cI, 8, .inl fr))] hpz)) (va_Qi (fun (r : Int32) (fr2 : (Nat → Int32)) => r = (-12)) (zB D [(x0, .inr (7, [.ref xs, .ref j0, .ref k0, .ref w0, .ref rd, .ref mv, .ref xr, .int im, .int lf])), (xr, .inl (cI, 8, .inl fr))] hpz (fun (fr2 : Nat → Int32) => [(x0, .inr (7, [.ref xs, .ref j0, .ref k0, .ref w0, .ref rd, .ref mv, .ref xr, .int im, .int lf])), (xr, .inl (cI, 8, .inl fr2))])) (va_A [(x0, .inr (7, [.ref xs, .ref j0, .ref k0, .ref w0, .ref rd, .ref mv, .ref xr, .int im, .int lf])), (xr, .inl (cI, 8, .inl fr))] hpz)) 0 0 (va_A [(x0, .inr (7, [.ref xs, .ref j0, .ref k0, .ref w0, .ref rd, .ref mv, .ref xr, .int im, .int lf])), (xr, .inl (cI, 8, .inl fr))] hpz) := by
  refine Met.ofW (cc := cX7_refuseLower) (maxL := 2) (ret := (some .int)) (by decide) rfl ?_
  intro p e s m args below meth c s₁ B hml hv
  obtain ⟨rfl, hsz, hP, hK, hD0, hN, hZ⟩ := hv
  have hx := B.exec
  have hb := B.bytes
  have hr := B.returns
  have hts := atoms_spec (ws := wsX7_refuseLower) B.pre
  have hown : s.vm.findClass RX7 = some m.cls := findClass_of_methodNamed B.named
  have hlocks := B.notSynchronized
  subst hsz
  have hD := hD0.self (sz := s.heap.size)
  have hA := zA_of hD
  have hl := lv_entry ([.ref x0, .int 2]) (n := 2) (Nat.le_of_ble_eq_true rfl)
  rw [lg_entry_eq]
  generalize (lg_sl ([.ref x0, .int 2]) ++ List.replicate (2 - (lg_sl ([.ref x0, .int 2])).length) Slot.unset).toArray = ls at hl ⊢
  replace hl : lv_has ls 2 [(0, .ref x0), (1, .int 2)] := hl
  refine zw_begin hP hD (fun H locs hP1 hS => ?_)
  clear hP
  have hP := hP1
  clear hP1
  refine lv_aload_n hx hb dX7_refuseLower_0 rfl (lv_at hl 0 rfl) ?_
  refine lv_iload_n hx hb dX7_refuseLower_1 rfl (lv_at hl 1 rfl) ?_
  skip
  refine zw_V (As := [.int 2]) (rest := []) (wr := []) ⟨hx, hb, hml, hown, hts⟩ (c_X_refuse_2 l D cI cJ cZ cP cS po x0 xs j0 k0 w0 rd mv xr (im) (lf) fr hy0 hy1 hy2 hy3 H.size) (cwV 1 hts gX7_refuseLower_X7_refuse rfl rfl rfl ⟨rfl, dh_X7_refuse⟩ ⟨Nat.le_of_ble_eq_true rfl, Nat.le_of_ble_eq_true rfl⟩) hK hN (hZ.kept hS) hP hD hS hA [0, 1] [] rfl rfl (by decide) (by decide) (by decide) (va_recv (q := (RX7, TX7, 9)) hK hP (ci := 7) (q0 := 0) rfl rfl) rfl hl.1 rfl (Nat.le_of_ble_eq_true rfl) dX7_refuseLower_2 ⟨Nat.le_of_ble_eq_true rfl, Nat.le_of_ble_eq_true rfl⟩ (fun r_1 u_2 H locs hr_1 hP hD hS => ?_)
  obtain ⟨q_3, rfl⟩ : ∃ z, z = u_2 := ⟨_, rfl⟩
  have h9R := zRe (ws' := [(x0, .inr (7, [.ref xs, .ref j0, .ref k0, .ref w0, .ref rd, .ref mv, .ref xr, .int im, .int lf])), (xr, .inl (cI, 8, .inl q_3))]) hP hD rfl
  clear hP hD
  obtain ⟨hP, hD⟩ := h9R
  obtain rfl := hr_1
  refine lv_bipush (v := 10) hx hb dX7_refuseLower_5 (by decide) ?_
  refine lv_isub hx hb dX7_refuseLower_7 ?_
  refine lv_topi (fun y_4 ey_4 => ?_)
  obtain rfl : y_4 = (-12) := ey_4.trans (by decide)
  exact W.iret (v := (-12)) hx hb hr (fun t ht hW => ⟨⟨(-12), q_3, rfl, rfl, zRet ht hP hD [0, 1] (by decide) rfl⟩, hS.F ht⟩) hS.2.2 dX7_refuseLower_8
set_option maxHeartbeats 4000000 in
set_option maxRecDepth 100000 in
theorem c_X_refuseLower_3 (l : Launch) (D : va_G) (cI cJ cZ cP cS : ClassId) (po : zPool) (x0 xs j0 k0 w0 rd mv xr : Nat) (im lf : Int32) (fr : Nat → Int32) (hy0 : 0 ≤ im.toInt) (hy1 : im.toInt ≤ 1) (hy2 : (-1) ≤ lf.toInt) (hy3 : lf.toInt ≤ 160) (hpz : Nat) : Met l yX7_refuseLower wsX7_refuseLower ({ frames := 2, cells := 0, slots := 0, locals := 43 }) (va_Pc [.ref x0, .int 3] (zW D (zKT cI cJ cZ cP cS) po [(x0, .inr (7, [.ref xs, .ref j0, .ref k0, .ref w0, .ref rd, .ref mv, .ref xr, .int im, .int lf])), (xr, .inl (cI, 8, .inl fr))] hpz)) (va_Qi (fun (r : Int32) (fr2 : (Nat → Int32)) => r = (-13)) (zB D [(x0, .inr (7, [.ref xs, .ref j0, .ref k0, .ref w0, .ref rd, .ref mv, .ref xr, .int im, .int lf])), (xr, .inl (cI, 8, .inl fr))] hpz (fun (fr2 : Nat → Int32) => [(x0, .inr (7, [.ref xs, .ref j0, .ref k0, .ref w0, .ref rd, .ref mv, .ref xr, .int im, .int lf])), (xr, .inl (cI, 8, .inl fr2))])) (va_A [(x0, .inr (7, [.ref xs, .ref j0, .ref k0, .ref w0, .ref rd, .ref mv, .ref xr, .int im, .int lf])), (xr, .inl (cI, 8, .inl fr))] hpz)) 0 0 (va_A [(x0, .inr (7, [.ref xs, .ref j0, .ref k0, .ref w0, .ref rd, .ref mv, .ref xr, .int im, .int lf])), (xr, .inl (cI, 8, .inl fr))] hpz) := by
  refine Met.ofW (cc := cX7_refuseLower) (maxL := 2) (ret := (some .int)) (by decide) rfl ?_
  intro p e s m args below meth c s₁ B hml hv
  obtain ⟨rfl, hsz, hP, hK, hD0, hN, hZ⟩ := hv
  have hx := B.exec
  have hb := B.bytes
  have hr := B.returns
  have hts := atoms_spec (ws := wsX7_refuseLower) B.pre
  have hown : s.vm.findClass RX7 = some m.cls := findClass_of_methodNamed B.named
  have hlocks := B.notSynchronized
  subst hsz
  have hD := hD0.self (sz := s.heap.size)
  have hA := zA_of hD
  have hl := lv_entry ([.ref x0, .int 3]) (n := 2) (Nat.le_of_ble_eq_true rfl)
  rw [lg_entry_eq]
  generalize (lg_sl ([.ref x0, .int 3]) ++ List.replicate (2 - (lg_sl ([.ref x0, .int 3])).length) Slot.unset).toArray = ls at hl ⊢
  replace hl : lv_has ls 2 [(0, .ref x0), (1, .int 3)] := hl
  refine zw_begin hP hD (fun H locs hP1 hS => ?_)
  clear hP
  have hP := hP1
  clear hP1
  refine lv_aload_n hx hb dX7_refuseLower_0 rfl (lv_at hl 0 rfl) ?_
  refine lv_iload_n hx hb dX7_refuseLower_1 rfl (lv_at hl 1 rfl) ?_
  skip
  refine zw_V (As := [.int 3]) (rest := []) (wr := []) ⟨hx, hb, hml, hown, hts⟩ (c_X_refuse_3 l D cI cJ cZ cP cS po x0 xs j0 k0 w0 rd mv xr (im) (lf) fr hy0 hy1 hy2 hy3 H.size) (cwV 1 hts gX7_refuseLower_X7_refuse rfl rfl rfl ⟨rfl, dh_X7_refuse⟩ ⟨Nat.le_of_ble_eq_true rfl, Nat.le_of_ble_eq_true rfl⟩) hK hN (hZ.kept hS) hP hD hS hA [0, 1] [] rfl rfl (by decide) (by decide) (by decide) (va_recv (q := (RX7, TX7, 9)) hK hP (ci := 7) (q0 := 0) rfl rfl) rfl hl.1 rfl (Nat.le_of_ble_eq_true rfl) dX7_refuseLower_2 ⟨Nat.le_of_ble_eq_true rfl, Nat.le_of_ble_eq_true rfl⟩ (fun r_1 u_2 H locs hr_1 hP hD hS => ?_)
  obtain ⟨q_3, rfl⟩ : ∃ z, z = u_2 := ⟨_, rfl⟩
  have h9R := zRe (ws' := [(x0, .inr (7, [.ref xs, .ref j0, .ref k0, .ref w0, .ref rd, .ref mv, .ref xr, .int im, .int lf])), (xr, .inl (cI, 8, .inl q_3))]) hP hD rfl
  clear hP hD
  obtain ⟨hP, hD⟩ := h9R
  obtain rfl := hr_1
  refine lv_bipush (v := 10) hx hb dX7_refuseLower_5 (by decide) ?_
  refine lv_isub hx hb dX7_refuseLower_7 ?_
  refine lv_topi (fun y_4 ey_4 => ?_)
  obtain rfl : y_4 = (-13) := ey_4.trans (by decide)
  exact W.iret (v := (-13)) hx hb hr (fun t ht hW => ⟨⟨(-13), q_3, rfl, rfl, zRet ht hP hD [0, 1] (by decide) rfl⟩, hS.F ht⟩) hS.2.2 dX7_refuseLower_8
set_option maxHeartbeats 4000000 in
set_option maxRecDepth 100000 in
theorem c_X_refuseLower_4 (l : Launch) (D : va_G) (cI cJ cZ cP cS : ClassId) (po : zPool) (x0 xs j0 k0 w0 rd mv xr : Nat) (im lf : Int32) (fr : Nat → Int32) (hy0 : 0 ≤ im.toInt) (hy1 : im.toInt ≤ 1) (hy2 : (-1) ≤ lf.toInt) (hy3 : lf.toInt ≤ 160) (hpz : Nat) : Met l yX7_refuseLower wsX7_refuseLower ({ frames := 2, cells := 0, slots := 0, locals := 43 }) (va_Pc [.ref x0, .int 4] (zW D (zKT cI cJ cZ cP cS) po [(x0, .inr (7, [.ref xs, .ref j0, .ref k0, .ref w0, .ref rd, .ref mv, .ref xr, .int im, .int lf])), (xr, .inl (cI, 8, .inl fr))] hpz)) (va_Qi (fun (r : Int32) (fr2 : (Nat → Int32)) => r = (-14)) (zB D [(x0, .inr (7, [.ref xs, .ref j0, .ref k0, .ref w0, .ref rd, .ref mv, .ref xr, .int im, .int lf])), (xr, .inl (cI, 8, .inl fr))] hpz (fun (fr2 : Nat → Int32) => [(x0, .inr (7, [.ref xs, .ref j0, .ref k0, .ref w0, .ref rd, .ref mv, .ref xr, .int im, .int lf])), (xr, .inl (cI, 8, .inl fr2))])) (va_A [(x0, .inr (7, [.ref xs, .ref j0, .ref k0, .ref w0, .ref rd, .ref mv, .ref xr, .int im, .int lf])), (xr, .inl (cI, 8, .inl fr))] hpz)) 0 0 (va_A [(x0, .inr (7, [.ref xs, .ref j0, .ref k0, .ref w0, .ref rd, .ref mv, .ref xr, .int im, .int lf])), (xr, .inl (cI, 8, .inl fr))] hpz) := by
  refine Met.ofW (cc := cX7_refuseLower) (maxL := 2) (ret := (some .int)) (by decide) rfl ?_
  intro p e s m args below meth c s₁ B hml hv
  obtain ⟨rfl, hsz, hP, hK, hD0, hN, hZ⟩ := hv
  have hx := B.exec
  have hb := B.bytes
  have hr := B.returns
  have hts := atoms_spec (ws := wsX7_refuseLower) B.pre
  have hown : s.vm.findClass RX7 = some m.cls := findClass_of_methodNamed B.named
  have hlocks := B.notSynchronized
  subst hsz
  have hD := hD0.self (sz := s.heap.size)
  have hA := zA_of hD
  have hl := lv_entry ([.ref x0, .int 4]) (n := 2) (Nat.le_of_ble_eq_true rfl)
  rw [lg_entry_eq]
  generalize (lg_sl ([.ref x0, .int 4]) ++ List.replicate (2 - (lg_sl ([.ref x0, .int 4])).length) Slot.unset).toArray = ls at hl ⊢
  replace hl : lv_has ls 2 [(0, .ref x0), (1, .int 4)] := hl
  refine zw_begin hP hD (fun H locs hP1 hS => ?_)
  clear hP
  have hP := hP1
  clear hP1
  refine lv_aload_n hx hb dX7_refuseLower_0 rfl (lv_at hl 0 rfl) ?_
  refine lv_iload_n hx hb dX7_refuseLower_1 rfl (lv_at hl 1 rfl) ?_
  skip
  refine zw_V (As := [.int 4]) (rest := []) (wr := []) ⟨hx, hb, hml, hown, hts⟩ (c_X_refuse_4 l D cI cJ cZ cP cS po x0 xs j0 k0 w0 rd mv xr (im) (lf) fr hy0 hy1 hy2 hy3 H.size) (cwV 1 hts gX7_refuseLower_X7_refuse rfl rfl rfl ⟨rfl, dh_X7_refuse⟩ ⟨Nat.le_of_ble_eq_true rfl, Nat.le_of_ble_eq_true rfl⟩) hK hN (hZ.kept hS) hP hD hS hA [0, 1] [] rfl rfl (by decide) (by decide) (by decide) (va_recv (q := (RX7, TX7, 9)) hK hP (ci := 7) (q0 := 0) rfl rfl) rfl hl.1 rfl (Nat.le_of_ble_eq_true rfl) dX7_refuseLower_2 ⟨Nat.le_of_ble_eq_true rfl, Nat.le_of_ble_eq_true rfl⟩ (fun r_1 u_2 H locs hr_1 hP hD hS => ?_)
  obtain ⟨q_3, rfl⟩ : ∃ z, z = u_2 := ⟨_, rfl⟩
  have h9R := zRe (ws' := [(x0, .inr (7, [.ref xs, .ref j0, .ref k0, .ref w0, .ref rd, .ref mv, .ref xr, .int im, .int lf])), (xr, .inl (cI, 8, .inl q_3))]) hP hD rfl
  clear hP hD
  obtain ⟨hP, hD⟩ := h9R
  obtain rfl := hr_1
  refine lv_bipush (v := 10) hx hb dX7_refuseLower_5 (by decide) ?_
  refine lv_isub hx hb dX7_refuseLower_7 ?_
  refine lv_topi (fun y_4 ey_4 => ?_)
  obtain rfl : y_4 = (-14) := ey_4.trans (by decide)
  exact W.iret (v := (-14)) hx hb hr (fun t ht hW => ⟨⟨(-14), q_3, rfl, rfl, zRet ht hP hD [0, 1] (by decide) rfl⟩, hS.F ht⟩) hS.2.2 dX7_refuseLower_8
set_option maxHeartbeats 4000000 in
set_option maxRecDepth 100000 in
theorem c_X_refuseLower_5 (l : Launch) (D : va_G) (cI cJ cZ cP cS : ClassId) (po : zPool) (x0 xs j0 k0 w0 rd mv xr : Nat) (im lf : Int32) (fr : Nat → Int32) (hy0 : 0 ≤ im.toInt) (hy1 : im.toInt ≤ 1) (hy2 : (-1) ≤ lf.toInt) (hy3 : lf.toInt ≤ 160) (hpz : Nat) : Met l yX7_refuseLower wsX7_refuseLower ({ frames := 2, cells := 0, slots := 0, locals := 43 }) (va_Pc [.ref x0, .int 5] (zW D (zKT cI cJ cZ cP cS) po [(x0, .inr (7, [.ref xs, .ref j0, .ref k0, .ref w0, .ref rd, .ref mv, .ref xr, .int im, .int lf])), (xr, .inl (cI, 8, .inl fr))] hpz)) (va_Qi (fun (r : Int32) (fr2 : (Nat → Int32)) => r = (-15)) (zB D [(x0, .inr (7, [.ref xs, .ref j0, .ref k0, .ref w0, .ref rd, .ref mv, .ref xr, .int im, .int lf])), (xr, .inl (cI, 8, .inl fr))] hpz (fun (fr2 : Nat → Int32) => [(x0, .inr (7, [.ref xs, .ref j0, .ref k0, .ref w0, .ref rd, .ref mv, .ref xr, .int im, .int lf])), (xr, .inl (cI, 8, .inl fr2))])) (va_A [(x0, .inr (7, [.ref xs, .ref j0, .ref k0, .ref w0, .ref rd, .ref mv, .ref xr, .int im, .int lf])), (xr, .inl (cI, 8, .inl fr))] hpz)) 0 0 (va_A [(x0, .inr (7, [.ref xs, .ref j0, .ref k0, .ref w0, .ref rd, .ref mv, .ref xr, .int im, .int lf])), (xr, .inl (cI, 8, .inl fr))] hpz) := by
  refine Met.ofW (cc := cX7_refuseLower) (maxL := 2) (ret := (some .int)) (by decide) rfl ?_
  intro p e s m args below meth c s₁ B hml hv
  obtain ⟨rfl, hsz, hP, hK, hD0, hN, hZ⟩ := hv
  have hx := B.exec
  have hb := B.bytes
  have hr := B.returns
  have hts := atoms_spec (ws := wsX7_refuseLower) B.pre
  have hown : s.vm.findClass RX7 = some m.cls := findClass_of_methodNamed B.named
  have hlocks := B.notSynchronized
  subst hsz
  have hD := hD0.self (sz := s.heap.size)
  have hA := zA_of hD
  have hl := lv_entry ([.ref x0, .int 5]) (n := 2) (Nat.le_of_ble_eq_true rfl)
  rw [lg_entry_eq]
  generalize (lg_sl ([.ref x0, .int 5]) ++ List.replicate (2 - (lg_sl ([.ref x0, .int 5])).length) Slot.unset).toArray = ls at hl ⊢
  replace hl : lv_has ls 2 [(0, .ref x0), (1, .int 5)] := hl
  refine zw_begin hP hD (fun H locs hP1 hS => ?_)
  clear hP
  have hP := hP1
  clear hP1
  refine lv_aload_n hx hb dX7_refuseLower_0 rfl (lv_at hl 0 rfl) ?_
  refine lv_iload_n hx hb dX7_refuseLower_1 rfl (lv_at hl 1 rfl) ?_
  skip
  refine zw_V (As := [.int 5]) (rest := []) (wr := []) ⟨hx, hb, hml, hown, hts⟩ (c_X_refuse_5 l D cI cJ cZ cP cS po x0 xs j0 k0 w0 rd mv xr (im) (lf) fr hy0 hy1 hy2 hy3 H.size) (cwV 1 hts gX7_refuseLower_X7_refuse rfl rfl rfl ⟨rfl, dh_X7_refuse⟩ ⟨Nat.le_of_ble_eq_true rfl, Nat.le_of_ble_eq_true rfl⟩) hK hN (hZ.kept hS) hP hD hS hA [0, 1] [] rfl rfl (by decide) (by decide) (by decide) (va_recv (q := (RX7, TX7, 9)) hK hP (ci := 7) (q0 := 0) rfl rfl) rfl hl.1 rfl (Nat.le_of_ble_eq_true rfl) dX7_refuseLower_2 ⟨Nat.le_of_ble_eq_true rfl, Nat.le_of_ble_eq_true rfl⟩ (fun r_1 u_2 H locs hr_1 hP hD hS => ?_)
  obtain ⟨q_3, rfl⟩ : ∃ z, z = u_2 := ⟨_, rfl⟩
  have h9R := zRe (ws' := [(x0, .inr (7, [.ref xs, .ref j0, .ref k0, .ref w0, .ref rd, .ref mv, .ref xr, .int im, .int lf])), (xr, .inl (cI, 8, .inl q_3))]) hP hD rfl
  clear hP hD
  obtain ⟨hP, hD⟩ := h9R
  obtain rfl := hr_1
  refine lv_bipush (v := 10) hx hb dX7_refuseLower_5 (by decide) ?_
  refine lv_isub hx hb dX7_refuseLower_7 ?_
  refine lv_topi (fun y_4 ey_4 => ?_)
  obtain rfl : y_4 = (-15) := ey_4.trans (by decide)
  exact W.iret (v := (-15)) hx hb hr (fun t ht hW => ⟨⟨(-15), q_3, rfl, rfl, zRet ht hP hD [0, 1] (by decide) rfl⟩, hS.F ht⟩) hS.2.2 dX7_refuseLower_8
set_option maxHeartbeats 4000000 in
set_option maxRecDepth 100000 in
theorem c_X_refuseLower_6 (l : Launch) (D : va_G) (cI cJ cZ cP cS : ClassId) (po : zPool) (x0 xs j0 k0 w0 rd mv xr : Nat) (im lf : Int32) (fr : Nat → Int32) (hy0 : 0 ≤ im.toInt) (hy1 : im.toInt ≤ 1) (hy2 : (-1) ≤ lf.toInt) (hy3 : lf.toInt ≤ 160) (hpz : Nat) : Met l yX7_refuseLower wsX7_refuseLower ({ frames := 2, cells := 0, slots := 0, locals := 43 }) (va_Pc [.ref x0, .int 6] (zW D (zKT cI cJ cZ cP cS) po [(x0, .inr (7, [.ref xs, .ref j0, .ref k0, .ref w0, .ref rd, .ref mv, .ref xr, .int im, .int lf])), (xr, .inl (cI, 8, .inl fr))] hpz)) (va_Qi (fun (r : Int32) (fr2 : (Nat → Int32)) => r = (-16)) (zB D [(x0, .inr (7, [.ref xs, .ref j0, .ref k0, .ref w0, .ref rd, .ref mv, .ref xr, .int im, .int lf])), (xr, .inl (cI, 8, .inl fr))] hpz (fun (fr2 : Nat → Int32) => [(x0, .inr (7, [.ref xs, .ref j0, .ref k0, .ref w0, .ref rd, .ref mv, .ref xr, .int im, .int lf])), (xr, .inl (cI, 8, .inl fr2))])) (va_A [(x0, .inr (7, [.ref xs, .ref j0, .ref k0, .ref w0, .ref rd, .ref mv, .ref xr, .int im, .int lf])), (xr, .inl (cI, 8, .inl fr))] hpz)) 0 0 (va_A [(x0, .inr (7, [.ref xs, .ref j0, .ref k0, .ref w0, .ref rd, .ref mv, .ref xr, .int im, .int lf])), (xr, .inl (cI, 8, .inl fr))] hpz) := by
  refine Met.ofW (cc := cX7_refuseLower) (maxL := 2) (ret := (some .int)) (by decide) rfl ?_
  intro p e s m args below meth c s₁ B hml hv
  obtain ⟨rfl, hsz, hP, hK, hD0, hN, hZ⟩ := hv
  have hx := B.exec
  have hb := B.bytes
  have hr := B.returns
  have hts := atoms_spec (ws := wsX7_refuseLower) B.pre
  have hown : s.vm.findClass RX7 = some m.cls := findClass_of_methodNamed B.named
  have hlocks := B.notSynchronized
  subst hsz
  have hD := hD0.self (sz := s.heap.size)
  have hA := zA_of hD
  have hl := lv_entry ([.ref x0, .int 6]) (n := 2) (Nat.le_of_ble_eq_true rfl)
  rw [lg_entry_eq]
  generalize (lg_sl ([.ref x0, .int 6]) ++ List.replicate (2 - (lg_sl ([.ref x0, .int 6])).length) Slot.unset).toArray = ls at hl ⊢
  replace hl : lv_has ls 2 [(0, .ref x0), (1, .int 6)] := hl
  refine zw_begin hP hD (fun H locs hP1 hS => ?_)
  clear hP
  have hP := hP1
  clear hP1
  refine lv_aload_n hx hb dX7_refuseLower_0 rfl (lv_at hl 0 rfl) ?_
  refine lv_iload_n hx hb dX7_refuseLower_1 rfl (lv_at hl 1 rfl) ?_
  skip
  refine zw_V (As := [.int 6]) (rest := []) (wr := []) ⟨hx, hb, hml, hown, hts⟩ (c_X_refuse_6 l D cI cJ cZ cP cS po x0 xs j0 k0 w0 rd mv xr (im) (lf) fr hy0 hy1 hy2 hy3 H.size) (cwV 1 hts gX7_refuseLower_X7_refuse rfl rfl rfl ⟨rfl, dh_X7_refuse⟩ ⟨Nat.le_of_ble_eq_true rfl, Nat.le_of_ble_eq_true rfl⟩) hK hN (hZ.kept hS) hP hD hS hA [0, 1] [] rfl rfl (by decide) (by decide) (by decide) (va_recv (q := (RX7, TX7, 9)) hK hP (ci := 7) (q0 := 0) rfl rfl) rfl hl.1 rfl (Nat.le_of_ble_eq_true rfl) dX7_refuseLower_2 ⟨Nat.le_of_ble_eq_true rfl, Nat.le_of_ble_eq_true rfl⟩ (fun r_1 u_2 H locs hr_1 hP hD hS => ?_)
  obtain ⟨q_3, rfl⟩ : ∃ z, z = u_2 := ⟨_, rfl⟩
  have h9R := zRe (ws' := [(x0, .inr (7, [.ref xs, .ref j0, .ref k0, .ref w0, .ref rd, .ref mv, .ref xr, .int im, .int lf])), (xr, .inl (cI, 8, .inl q_3))]) hP hD rfl
  clear hP hD
  obtain ⟨hP, hD⟩ := h9R
  obtain rfl := hr_1
  refine lv_bipush (v := 10) hx hb dX7_refuseLower_5 (by decide) ?_
  refine lv_isub hx hb dX7_refuseLower_7 ?_
  refine lv_topi (fun y_4 ey_4 => ?_)
  obtain rfl : y_4 = (-16) := ey_4.trans (by decide)
  exact W.iret (v := (-16)) hx hb hr (fun t ht hW => ⟨⟨(-16), q_3, rfl, rfl, zRet ht hP hD [0, 1] (by decide) rfl⟩, hS.F ht⟩) hS.2.2 dX7_refuseLower_8
set_option maxHeartbeats 4000000 in
set_option maxRecDepth 100000 in
theorem c_X_refuseLower (l : Launch) (D : va_G) (cI cJ cZ cP cS : ClassId) (po : zPool) (x0 xs j0 k0 w0 rd mv xr : Nat) (im lf : Int32) (fr : Nat → Int32) (n : Int32) (hy0 : 0 ≤ im.toInt) (hy1 : im.toInt ≤ 1) (hy2 : (-1) ≤ lf.toInt) (hy3 : lf.toInt ≤ 160) (hy4 : 1 ≤ n.toInt) (hy5 : n.toInt ≤ 7) (hpz : Nat) : Met l yX7_refuseLower wsX7_refuseLower ({ frames := 2, cells := 0, slots := 0, locals := 43 }) (va_Pc [.ref x0, .int n] (zW D (zKT cI cJ cZ cP cS) po [(x0, .inr (7, [.ref xs, .ref j0, .ref k0, .ref w0, .ref rd, .ref mv, .ref xr, .int im, .int lf])), (xr, .inl (cI, 8, .inl fr))] hpz)) (va_Qi (fun (r : Int32) (fr2 : (Nat → Int32)) => (r.toInt = -n.toInt - 10) ∧ (-17 ≤ r.toInt ∧ r.toInt ≤ -11)) (zB D [(x0, .inr (7, [.ref xs, .ref j0, .ref k0, .ref w0, .ref rd, .ref mv, .ref xr, .int im, .int lf])), (xr, .inl (cI, 8, .inl fr))] hpz (fun (fr2 : Nat → Int32) => [(x0, .inr (7, [.ref xs, .ref j0, .ref k0, .ref w0, .ref rd, .ref mv, .ref xr, .int im, .int lf])), (xr, .inl (cI, 8, .inl fr2))])) (va_A [(x0, .inr (7, [.ref xs, .ref j0, .ref k0, .ref w0, .ref rd, .ref mv, .ref xr, .int im, .int lf])), (xr, .inl (cI, 8, .inl fr))] hpz)) 0 0 (va_A [(x0, .inr (7, [.ref xs, .ref j0, .ref k0, .ref w0, .ref rd, .ref mv, .ref xr, .int im, .int lf])), (xr, .inl (cI, 8, .inl fr))] hpz) := by
  refine Met.ofW (cc := cX7_refuseLower) (maxL := 2) (ret := (some .int)) (by decide) rfl ?_
  intro p e s m args below meth c s₁ B hml hv
  obtain ⟨rfl, hsz, hP, hK, hD0, hN, hZ⟩ := hv
  have hx := B.exec
  have hb := B.bytes
  have hr := B.returns
  have hts := atoms_spec (ws := wsX7_refuseLower) B.pre
  have hown : s.vm.findClass RX7 = some m.cls := findClass_of_methodNamed B.named
  have hlocks := B.notSynchronized
  subst hsz
  have hD := hD0.self (sz := s.heap.size)
  have hA := zA_of hD
  have hl := lv_entry ([.ref x0, .int n]) (n := 2) (Nat.le_of_ble_eq_true rfl)
  rw [lg_entry_eq]
  generalize (lg_sl ([.ref x0, .int n]) ++ List.replicate (2 - (lg_sl ([.ref x0, .int n])).length) Slot.unset).toArray = ls at hl ⊢
  replace hl : lv_has ls 2 [(0, .ref x0), (1, .int n)] := hl
  refine zw_begin hP hD (fun H locs hP1 hS => ?_)
  clear hP
  have hP := hP1
  clear hP1
  refine lv_aload_n hx hb dX7_refuseLower_0 rfl (lv_at hl 0 rfl) ?_
  refine lv_iload_n hx hb dX7_refuseLower_1 rfl (lv_at hl 1 rfl) ?_
  skip
  refine zw_V (As := [.int n]) (rest := []) (wr := []) ⟨hx, hb, hml, hown, hts⟩ (c_X_refuse l D cI cJ cZ cP cS po x0 xs j0 k0 w0 rd mv xr (im) (lf) fr (n) hy0 hy1 hy2 hy3 hy4 hy5 H.size) (cwV 1 hts gX7_refuseLower_X7_refuse rfl rfl rfl ⟨rfl, dh_X7_refuse⟩ ⟨Nat.le_of_ble_eq_true rfl, Nat.le_of_ble_eq_true rfl⟩) hK hN (hZ.kept hS) hP hD hS hA [0, 1] [] rfl rfl (by decide) (by decide) (by decide) (va_recv (q := (RX7, TX7, 9)) hK hP (ci := 7) (q0 := 0) rfl rfl) rfl hl.1 rfl (Nat.le_of_ble_eq_true rfl) dX7_refuseLower_2 ⟨Nat.le_of_ble_eq_true rfl, Nat.le_of_ble_eq_true rfl⟩ (fun r_1 u_2 H locs hr_1 hP hD hS => ?_)
  obtain ⟨q_3, rfl⟩ : ∃ z, z = u_2 := ⟨_, rfl⟩
  obtain ⟨hsr_1_0, hr_1⟩ := hr_1
  have h9R := zRe (ws' := [(x0, .inr (7, [.ref xs, .ref j0, .ref k0, .ref w0, .ref rd, .ref mv, .ref xr, .int im, .int lf])), (xr, .inl (cI, 8, .inl q_3))]) hP hD rfl
  clear hP hD
  obtain ⟨hP, hD⟩ := h9R
  obtain ⟨g_4, g_5⟩ := hr_1
  refine lv_bipush (v := 10) hx hb dX7_refuseLower_5 (by decide) ?_
  refine lv_isub hx hb dX7_refuseLower_7 ?_
  refine lv_topi (fun x_6 ex_6 => ?_)
  have qx_6 : x_6.toInt = r_1.toInt - 10 := by rw [ex_6]; exact zf_sub rfl (by decide) (by omega) (by omega)
  exact W.iret (v := x_6) hx hb hr (fun t ht hW => ⟨⟨x_6, q_3, rfl, ⟨(show (x_6 : Int32).toInt = -n.toInt - 10 from by omega), ⟨by omega, by omega⟩⟩, zRet ht hP hD [0, 1] (by decide) rfl⟩, hS.F ht⟩) hS.2.2 dX7_refuseLower_8
theorem gl_X7_shelfAt_X70 : GoodIn wsX7_shelfAt wsX70 := (dg_t (dg_t (dg_t (dg_t (dg_t (dg_t gw_wsX70))))))
theorem hi_X7_shelfAt_7 : ∀ w ∈ u_ws RX7 TX7 9, w ∈ wsX7_shelfAt := fun w h => (gl_X7_shelfAt_X70 w h).1
set_option maxHeartbeats 4000000 in
set_option maxRecDepth 100000 in
theorem c_X_shelfAt (l : Launch) (D : va_G) (cI cJ cZ cP cS : ClassId) (po : zPool) (x0 xs j0 k0 w0 rd mv xr : Nat) (im lf : Int32) (fr : Nat → Int32) (fh : Nat → Option Nat) (s_ : Int32) (hy0 : 0 ≤ im.toInt) (hy1 : im.toInt ≤ 1) (hy2 : (-1) ≤ lf.toInt) (hy3 : lf.toInt ≤ 160) : Met l yX7_shelfAt wsX7_shelfAt ({ frames := 1, cells := 0, slots := 0, locals := 22 }) (va_Pc [.ref x0, .int s_] (zR D (zKT cI cJ cZ cP cS) po [(x0, .inr (7, [.ref xs, .ref j0, .ref k0, .ref w0, .ref rd, .ref mv, .ref xr, .int im, .int lf])), (xs, .inl (cS, 8, .inr (.inr (.inr (.inr fh)))))])) (va_Sq (fun r => (r = none ∧ s_.toInt < 0) ∨ (r = none ∧ 0 ≤ s_.toInt ∧ 7 < s_.toInt) ∨ (r = (fh s_.toNatClampNeg) ∧ 0 ≤ s_.toInt ∧ s_.toInt ≤ 7))) 0 0 (fun _ => False) := by
  refine Met.ofW (cc := cX7_shelfAt) (maxL := 2) (ret := (some (.object "TheLiningsInIt$Shelf"))) (by decide) rfl ?_
  intro p e s m args below meth c s₁ B hml hv
  obtain ⟨rfl, hP, hK, hN, hZ⟩ := hv
  have hx := B.exec
  have hb := B.bytes
  have hr := B.returns
  have hts := atoms_spec (ws := wsX7_shelfAt) B.pre
  have hown : s.vm.findClass RX7 = some m.cls := findClass_of_methodNamed B.named
  have hlocks := B.notSynchronized
  have hl := lv_entry ([.ref x0, .int s_]) (n := 2) (Nat.le_of_ble_eq_true rfl)
  rw [lg_entry_eq]
  generalize (lg_sl ([.ref x0, .int s_]) ++ List.replicate (2 - (lg_sl ([.ref x0, .int s_])).length) Slot.unset).toArray = ls at hl ⊢
  replace hl : lv_has ls 2 [(0, .ref x0), (1, .int s_)] := hl
  refine lv_iload_n hx hb dX7_shelfAt_0 rfl (lv_at hl 1 rfl) ?_
  refine lv_iconst (v := 0) hx hb dX7_shelfAt_1 (by decide) ?_
  refine lv_bipush (v := 7) hx hb dX7_shelfAt_2 (by decide) ?_
  have kc0 : (0 : Int32).toInt = 0 := by decide
  have kc7 : (7 : Int32).toInt = 7 := by decide
  refine zc_S (As := [.int s_, .int 0, .int 7]) (rest := []) ⟨hx, hb, hml, hown, hts⟩ (c_within l D cI cJ cZ cP cS po (s_) (0) (7) ) (va_cwS 3 hts gX7_shelfAt_X7_within rfl rfl rfl dh_X7_within ⟨Nat.le_of_ble_eq_true rfl, Nat.le_of_ble_eq_true rfl⟩) hK hN hZ rfl hl.1 rfl (Nat.le_of_ble_eq_true rfl) dX7_shelfAt_4 ⟨Nat.le_of_ble_eq_true rfl, Nat.le_of_ble_eq_true rfl⟩ (fun r_1 hr_1 => ?_)
  rcases hr_1 with ⟨rfl, g_2⟩ | ⟨rfl, g_3, g_4⟩ | ⟨rfl, g_5, g_6⟩
  · refine lv_if_eq (tgt := 19) hx hb dX7_shelfAt_7 (by decide) (fun c_7 => ?_) (fun c_7 => ?_)
    · refine lv_null hx hb dX7_shelfAt_19 ?_
      exact W.aret (v := .null) hx hb hr (Or.inl ⟨_, rfl⟩) (Or.inl rfl) (fun t ht hW => ⟨none, rfl, Or.inl (⟨rfl, (by first | omega | decide)⟩), ht⟩) (fun q hq => by cases hq) dX7_shelfAt_20
    · exact absurd c_7 (by decide)
  · refine lv_if_eq (tgt := 19) hx hb dX7_shelfAt_7 (by decide) (fun c_8 => ?_) (fun c_8 => ?_)
    · refine lv_null hx hb dX7_shelfAt_19 ?_
      exact W.aret (v := .null) hx hb hr (Or.inl ⟨_, rfl⟩) (Or.inl rfl) (fun t ht hW => ⟨none, rfl, Or.inr (Or.inl (⟨rfl, (by first | omega | decide), (by first | omega | decide)⟩)), ht⟩) (fun q hq => by cases hq) dX7_shelfAt_20
    · exact absurd c_8 (by decide)
  · refine lv_if_eq (tgt := 19) hx hb dX7_shelfAt_7 (by decide) (fun c_9 => ?_) (fun c_9 => ?_)
    · exact absurd c_9 (by decide)
    · refine lv_aload_n hx hb dX7_shelfAt_10 rfl (lv_at hl 0 rfl) ?_
      refine va_get (D := D) (ci := 7) (v := .ref xs) (C := RX7) (T := TX7) (N := 9) hx hb hts hi_X7_shelfAt_7 hown hK hP 0 rfl rfl 0 (by decide) (hts (.fieldLink RX7 11 "TheLiningsInIt" "shelves" "[LTheLiningsInIt$Shelf;") (List.mem_of_getElem? (i := 1) rfl)) (fun _ h9 => h9) rfl dX7_shelfAt_11 ?_
      refine lv_iload_n hx hb dX7_shelfAt_14 rfl (lv_at hl 1 rfl) ?_
      refine va_aldq hx hb hK hP 1 4 rfl rfl (zf_in (by omega) (by omega)) dX7_shelfAt_15 ?_
      refine lv_goto (tgt := 20) hx hb dX7_shelfAt_16 (by decide) ?_
      exact W.aret (v := va_rf (fh s_.toNatClampNeg)) hx hb hr (Or.inl ⟨_, rfl⟩) (va_rf_or _) (fun t ht hW => ⟨(fh s_.toNatClampNeg), rfl, Or.inr (Or.inr (⟨rfl, (by first | omega | decide), (by first | omega | decide)⟩)), ht⟩) (fun q hq => by cases hq) dX7_shelfAt_20
theorem hi_X7_copy_4 : ∀ w ∈ u_ws RX4 TX4 3, w ∈ wsX7_copy := fun w h => (gl_X7_copy_X40 w h).1
theorem hi_X7_element_4 : ∀ w ∈ u_ws RX4 TX4 3, w ∈ wsX7_element := fun w h => (gl_X7_element_X40 w h).1
theorem gl_X7_show_X40 : GoodIn wsX7_show wsX40 := (dg_t (dg_t (dg_t (dg_t (dg_t (dg_t (dg_t (dg_t (dg_t (dg_t (dg_t (dg_t (dg_t (dg_t (dg_t (dg_t (dg_t (dg_t (dg_t (dg_t (dg_t (dg_t (dg_t (dg_t (dg_l (dg_r gw_wsX40))))))))))))))))))))))))))
theorem hi_X7_show_4 : ∀ w ∈ u_ws RX4 TX4 3, w ∈ wsX7_show := fun w h => (gl_X7_show_X40 w h).1
theorem hi_X7_show_7 : ∀ w ∈ u_ws RX7 TX7 9, w ∈ wsX7_show := fun w h => (gl_X7_show_X70 w h).1
theorem gl_X7_holds_X40 : GoodIn wsX7_holds wsX40 := (dg_t (dg_t (dg_t (dg_t (dg_t (dg_t (dg_t (dg_t (dg_t (dg_t (dg_t (dg_l gw_wsX40))))))))))))
theorem hi_X7_holds_4 : ∀ w ∈ u_ws RX4 TX4 3, w ∈ wsX7_holds := fun w h => (gl_X7_holds_X40 w h).1
theorem gl_X7_says_X40 : GoodIn wsX7_says wsX40 := (dg_t (dg_l (dg_l (dg_l (dg_r gw_wsX40)))))
theorem hi_X7_says_4 : ∀ w ∈ u_ws RX4 TX4 3, w ∈ wsX7_says := fun w h => (gl_X7_says_X40 w h).1
theorem hi_X7_says_7 : ∀ w ∈ u_ws RX7 TX7 9, w ∈ wsX7_says := fun w h => (gl_X7_says_X70 w h).1
theorem hi_X7_says_2 : ∀ w ∈ u_ws RX2 TX2 3, w ∈ wsX7_says := fun w h => (gl_X7_says_X20 w h).1
theorem hi_X7_says_0 : ∀ w ∈ u_ws RX0 TX0 9, w ∈ wsX7_says := fun w h => (gl_X7_says_X00 w h).1
end
section
theorem hi_X7_pull_7 : ∀ w ∈ u_ws RX7 TX7 9, w ∈ wsX7_pull := fun w h => (gl_X7_pull_X70 w h).1
theorem hi_X7_pull_0 : ∀ w ∈ u_ws RX0 TX0 9, w ∈ wsX7_pull := fun w h => (gl_X7_pull_X00 w h).1
theorem hi_X7_pullOf_7 : ∀ w ∈ u_ws RX7 TX7 9, w ∈ wsX7_pullOf := fun w h => (gl_X7_pullOf_X70 w h).1
theorem hi_X7_pullOf_2 : ∀ w ∈ u_ws RX2 TX2 3, w ∈ wsX7_pullOf := fun w h => (gl_X7_pullOf_X20 w h).1
set_option maxHeartbeats 4000000 in
set_option maxRecDepth 100000 in
theorem c_X_pullOf (l : Launch) (D : va_G) (cI cJ cZ cP cS : ClassId) (po : zPool) (x0 xs j0 k0 w0 rd mv xr : Nat) (im lf : Int32) (fr : Nat → Int32) (j0 jp jc z0 zl zs : Nat) (cn de tr se hu sd : Int32) (fp : Nat → Option Nat) (kf af tf : Nat → Int32) (p_ w : Int32) (hy0 : 0 ≤ im.toInt) (hy1 : im.toInt ≤ 1) (hy2 : (-1) ≤ lf.toInt) (hy3 : lf.toInt ≤ 160) (hy4 : 0 ≤ cn.toInt) (hy5 : cn.toInt ≤ 8) (hy6 : 0 ≤ de.toInt) (hy7 : de.toInt ≤ 24) (hy8 : 0 ≤ hu.toInt) (hy9 : hu.toInt ≤ 9) (hjp : zJP po fp cn kf af tf) (hpz : Nat) : Met l yX7_pullOf wsX7_pullOf ({ frames := 2, cells := 0, slots := 0, locals := 43 }) (va_Pc [.ref x0, .int p_, .int w] (zW D (zKT cI cJ cZ cP cS) po [(x0, .inr (7, [.ref xs, .ref j0, .ref k0, .ref w0, .ref rd, .ref mv, .ref xr, .int im, .int lf])), (xr, .inl (cI, 8, .inl fr)), (j0, .inr (0, [.ref z0, .ref jp, .ref jc, .int cn, .int de, .int tr, .int se, .int hu, .int sd])), (jp, .inl (cP, 8, .inr (.inr (.inr (.inr fp)))))] hpz)) (va_Qi (fun (r : Int32) (fr2 : (Nat → Int32)) => True) (zB D [(x0, .inr (7, [.ref xs, .ref j0, .ref k0, .ref w0, .ref rd, .ref mv, .ref xr, .int im, .int lf])), (xr, .inl (cI, 8, .inl fr)), (j0, .inr (0, [.ref z0, .ref jp, .ref jc, .int cn, .int de, .int tr, .int se, .int hu, .int sd])), (jp, .inl (cP, 8, .inr (.inr (.inr (.inr fp)))))] hpz (fun (fr2 : Nat → Int32) => [(x0, .inr (7, [.ref xs, .ref j0, .ref k0, .ref w0, .ref rd, .ref mv, .ref xr, .int im, .int lf])), (xr, .inl (cI, 8, .inl fr2)), (j0, .inr (0, [.ref z0, .ref jp, .ref jc, .int cn, .int de, .int tr, .int se, .int hu, .int sd])), (jp, .inl (cP, 8, .inr (.inr (.inr (.inr fp)))))])) (va_A [(x0, .inr (7, [.ref xs, .ref j0, .ref k0, .ref w0, .ref rd, .ref mv, .ref xr, .int im, .int lf])), (xr, .inl (cI, 8, .inl fr)), (j0, .inr (0, [.ref z0, .ref jp, .ref jc, .int cn, .int de, .int tr, .int se, .int hu, .int sd])), (jp, .inl (cP, 8, .inr (.inr (.inr (.inr fp)))))] hpz)) 0 0 (va_A [(x0, .inr (7, [.ref xs, .ref j0, .ref k0, .ref w0, .ref rd, .ref mv, .ref xr, .int im, .int lf])), (xr, .inl (cI, 8, .inl fr)), (j0, .inr (0, [.ref z0, .ref jp, .ref jc, .int cn, .int de, .int tr, .int se, .int hu, .int sd])), (jp, .inl (cP, 8, .inr (.inr (.inr (.inr fp)))))] hpz) := by
  refine Met.ofW (cc := cX7_pullOf) (maxL := 4) (ret := (some .int)) (by decide) rfl ?_
  intro p e s m args below meth c s₁ B hml hv
  obtain ⟨rfl, hsz, hP, hK, hD0, hN, hZ⟩ := hv
  have hx := B.exec
  have hb := B.bytes
  have hr := B.returns
  have hts := atoms_spec (ws := wsX7_pullOf) B.pre
  have hown : s.vm.findClass RX7 = some m.cls := findClass_of_methodNamed B.named
  have hlocks := B.notSynchronized
  subst hsz
  have hD := hD0.self (sz := s.heap.size)
  have hA := zA_of hD
  have hl := lv_entry ([.ref x0, .int p_, .int w]) (n := 4) (Nat.le_of_ble_eq_true rfl)
  rw [lg_entry_eq]
  generalize (lg_sl ([.ref x0, .int p_, .int w]) ++ List.replicate (4 - (lg_sl ([.ref x0, .int p_, .int w])).length) Slot.unset).toArray = ls at hl ⊢
  replace hl : lv_has ls 4 [(0, .ref x0), (1, .int p_), (2, .int w)] := hl
  refine zw_begin hP hD (fun H locs hP1 hS => ?_)
  clear hP
  have hP := hP1
  clear hP1
  refine lv_aload_n hx hb dX7_pullOf_0 rfl (lv_at hl 0 rfl) ?_
  refine va_get (D := D) (ci := 7) (v := .ref j0) (C := RX7) (T := TX7) (N := 9) hx hb hts hi_X7_pullOf_7 hown hK hP 0 rfl rfl 1 (by decide) (hts (.fieldLink RX7 18 "TheLiningsInIt" "now" "LTheLiningsInIt$Jacket;") (List.mem_of_getElem? (i := 1) rfl)) (fun _ h9 => h9) rfl dX7_pullOf_1 ?_
  refine lv_iload_n hx hb dX7_pullOf_4 rfl (lv_at hl 1 rfl) ?_
  refine zc_Vq (As := [.int p_]) (rest := []) ⟨hx, hb, hml, hown, hts⟩ (c_J_pullAt l D cI cJ cZ cP cS po j0 jp jc z0 0 0 (cn) (de) (tr) (se) (hu) (sd) fp kf af tf (p_) hy4 hy5 hy6 hy7 hy8 hy9 hjp) (cwV 1 hts gX7_pullOf_X0_pullAt rfl rfl rfl ⟨rfl, dh_X0_pullAt⟩ ⟨Nat.le_of_ble_eq_true rfl, Nat.le_of_ble_eq_true rfl⟩) hK hN (hZ.kept hS) hP (hP.sub [2, 3] rfl) (va_recv (q := (RX0, TX0, 9)) hK hP (ci := 0) (q0 := 2) rfl rfl) rfl hl.1 rfl (Nat.le_of_ble_eq_true rfl) dX7_pullOf_5 ⟨Nat.le_of_ble_eq_true rfl, Nat.le_of_ble_eq_true rfl⟩ (fun r_1 hr_1 => ?_)
  rcases hr_1 with ⟨rfl, g_2⟩ | ⟨rfl, g_3⟩ | ⟨⟨u_5, kiu_5, au_5, tu_5, rfl, huu_5, hkku_5⟩, g_4⟩
  · refine lv_astore_nN (lv' := [(3, .null), (0, .ref x0), (1, .int p_), (2, .int w)]) hx hb dX7_pullOf_8 rfl hl (by decide) rfl (fun ls hl => ?_)
    refine lv_aload_nN hx hb dX7_pullOf_9 rfl (lv_at hl 0 rfl) ?_
    refine lv_ifnonnullN hx hb dX7_pullOf_10 ?_
    refine lv_aload_n hx hb dX7_pullOf_13 rfl (lv_at hl 1 rfl) ?_
    refine lv_iconst (v := 5) hx hb dX7_pullOf_14 (by decide) ?_
    skip
    refine zw_V (As := [.int 5]) (rest := []) (wr := [(j0, .inr (0, [.ref z0, .ref jp, .ref jc, .int cn, .int de, .int tr, .int se, .int hu, .int sd])), (jp, .inl (cP, 8, .inr (.inr (.inr (.inr fp)))))]) ⟨hx, hb, hml, hown, hts⟩ (c_X_refuse_5 l D cI cJ cZ cP cS po x0 xs j0 k0 w0 rd mv xr (im) (lf) fr hy0 hy1 hy2 hy3 H.size) (cwV 1 hts gX7_pullOf_X7_refuse rfl rfl rfl ⟨rfl, dh_X7_refuse⟩ ⟨Nat.le_of_ble_eq_true rfl, Nat.le_of_ble_eq_true rfl⟩) hK hN (hZ.kept hS) hP hD hS hA [0, 1] [2, 3] rfl rfl (by decide) (by decide) (by decide) (va_recv (q := (RX7, TX7, 9)) hK hP (ci := 7) (q0 := 0) rfl rfl) rfl hl.1 rfl (Nat.le_of_ble_eq_true rfl) dX7_pullOf_15 ⟨Nat.le_of_ble_eq_true rfl, Nat.le_of_ble_eq_true rfl⟩ (fun r_6 u_7 H locs hr_6 hP hD hS => ?_)
    obtain ⟨q_8, rfl⟩ : ∃ z, z = u_7 := ⟨_, rfl⟩
    have h9R := zRe (ws' := [(j0, .inr (0, [.ref z0, .ref jp, .ref jc, .int cn, .int de, .int tr, .int se, .int hu, .int sd])), (jp, .inl (cP, 8, .inr (.inr (.inr (.inr fp))))), (x0, .inr (7, [.ref xs, .ref j0, .ref k0, .ref w0, .ref rd, .ref mv, .ref xr, .int im, .int lf])), (xr, .inl (cI, 8, .inl q_8))]) hP hD rfl
    clear hP hD
    obtain ⟨hP, hD⟩ := h9R
    obtain rfl := hr_6
    exact W.iret (v := (-5)) hx hb hr (fun t ht hW => ⟨⟨(-5), q_8, rfl, trivial, zRet ht hP hD [2, 3, 0, 1] (by decide) rfl⟩, hS.F ht⟩) hS.2.2 dX7_pullOf_18
  · refine lv_astore_nN (lv' := [(3, .null), (0, .ref x0), (1, .int p_), (2, .int w)]) hx hb dX7_pullOf_8 rfl hl (by decide) rfl (fun ls hl => ?_)
    refine lv_aload_nN hx hb dX7_pullOf_9 rfl (lv_at hl 0 rfl) ?_
    refine lv_ifnonnullN hx hb dX7_pullOf_10 ?_
    refine lv_aload_n hx hb dX7_pullOf_13 rfl (lv_at hl 1 rfl) ?_
    refine lv_iconst (v := 5) hx hb dX7_pullOf_14 (by decide) ?_
    skip
    refine zw_V (As := [.int 5]) (rest := []) (wr := [(j0, .inr (0, [.ref z0, .ref jp, .ref jc, .int cn, .int de, .int tr, .int se, .int hu, .int sd])), (jp, .inl (cP, 8, .inr (.inr (.inr (.inr fp)))))]) ⟨hx, hb, hml, hown, hts⟩ (c_X_refuse_5 l D cI cJ cZ cP cS po x0 xs j0 k0 w0 rd mv xr (im) (lf) fr hy0 hy1 hy2 hy3 H.size) (cwV 1 hts gX7_pullOf_X7_refuse rfl rfl rfl ⟨rfl, dh_X7_refuse⟩ ⟨Nat.le_of_ble_eq_true rfl, Nat.le_of_ble_eq_true rfl⟩) hK hN (hZ.kept hS) hP hD hS hA [0, 1] [2, 3] rfl rfl (by decide) (by decide) (by decide) (va_recv (q := (RX7, TX7, 9)) hK hP (ci := 7) (q0 := 0) rfl rfl) rfl hl.1 rfl (Nat.le_of_ble_eq_true rfl) dX7_pullOf_15 ⟨Nat.le_of_ble_eq_true rfl, Nat.le_of_ble_eq_true rfl⟩ (fun r_9 u_10 H locs hr_9 hP hD hS => ?_)
    obtain ⟨q_11, rfl⟩ : ∃ z, z = u_10 := ⟨_, rfl⟩
    have h9R := zRe (ws' := [(j0, .inr (0, [.ref z0, .ref jp, .ref jc, .int cn, .int de, .int tr, .int se, .int hu, .int sd])), (jp, .inl (cP, 8, .inr (.inr (.inr (.inr fp))))), (x0, .inr (7, [.ref xs, .ref j0, .ref k0, .ref w0, .ref rd, .ref mv, .ref xr, .int im, .int lf])), (xr, .inl (cI, 8, .inl q_11))]) hP hD rfl
    clear hP hD
    obtain ⟨hP, hD⟩ := h9R
    obtain rfl := hr_9
    exact W.iret (v := (-5)) hx hb hr (fun t ht hW => ⟨⟨(-5), q_11, rfl, trivial, zRet ht hP hD [2, 3, 0, 1] (by decide) rfl⟩, hS.F ht⟩) hS.2.2 dX7_pullOf_18
  · refine W.eq (g2 := F0 m 8 ls (.ref u_5 :: [])) rfl ?_
    obtain ⟨hku_5, hau_5, htu_5⟩ := zPu_pr (hZ.kept hS) huu_5
    refine lv_astore_n (lv' := [(3, .ref u_5), (0, .ref x0), (1, .int p_), (2, .int w)]) hx hb dX7_pullOf_8 rfl hl (by decide) rfl (fun ls hl => ?_)
    refine lv_aload_n hx hb dX7_pullOf_9 rfl (lv_at hl 0 rfl) ?_
    refine lv_ifnonnull (tgt := 19) hx hb dX7_pullOf_10 (by decide) ?_
    refine lv_iload_n hx hb dX7_pullOf_19 rfl (lv_at hl 3 rfl) ?_
    by_cases hsp : w.toInt < 0 ∨ 4 < w.toInt
    · refine lv_tableOut (tgt := 93) hx hb dX7_pullOf_20 hsp (by decide) ?_
      refine lv_aload_n hx hb dX7_pullOf_93 rfl (lv_at hl 1 rfl) ?_
      refine lv_iconst (v := 5) hx hb dX7_pullOf_94 (by decide) ?_
      skip
      refine zw_V (As := [.int 5]) (rest := []) (wr := [(j0, .inr (0, [.ref z0, .ref jp, .ref jc, .int cn, .int de, .int tr, .int se, .int hu, .int sd])), (jp, .inl (cP, 8, .inr (.inr (.inr (.inr fp)))))]) ⟨hx, hb, hml, hown, hts⟩ (c_X_refuse_5 l D cI cJ cZ cP cS po x0 xs j0 k0 w0 rd mv xr (im) (lf) fr hy0 hy1 hy2 hy3 H.size) (cwV 1 hts gX7_pullOf_X7_refuse rfl rfl rfl ⟨rfl, dh_X7_refuse⟩ ⟨Nat.le_of_ble_eq_true rfl, Nat.le_of_ble_eq_true rfl⟩) hK hN (hZ.kept hS) hP hD hS hA [0, 1] [2, 3] rfl rfl (by decide) (by decide) (by decide) (va_recv (q := (RX7, TX7, 9)) hK hP (ci := 7) (q0 := 0) rfl rfl) rfl hl.1 rfl (Nat.le_of_ble_eq_true rfl) dX7_pullOf_95 ⟨Nat.le_of_ble_eq_true rfl, Nat.le_of_ble_eq_true rfl⟩ (fun r_12 u_13 H locs hr_12 hP hD hS => ?_)
      obtain ⟨q_14, rfl⟩ : ∃ z, z = u_13 := ⟨_, rfl⟩
      have h9R := zRe (ws' := [(j0, .inr (0, [.ref z0, .ref jp, .ref jc, .int cn, .int de, .int tr, .int se, .int hu, .int sd])), (jp, .inl (cP, 8, .inr (.inr (.inr (.inr fp))))), (x0, .inr (7, [.ref xs, .ref j0, .ref k0, .ref w0, .ref rd, .ref mv, .ref xr, .int im, .int lf])), (xr, .inl (cI, 8, .inl q_14))]) hP hD rfl
      clear hP hD
      obtain ⟨hP, hD⟩ := h9R
      obtain rfl := hr_12
      exact W.iret (v := (-5)) hx hb hr (fun t ht hW => ⟨⟨(-5), q_14, rfl, trivial, zRet ht hP hD [2, 3, 0, 1] (by decide) rfl⟩, hS.F ht⟩) hS.2.2 dX7_pullOf_98
    · have hsp : w = 0 ∨ w = 1 ∨ w = 2 ∨ w = 3 ∨ w = 4 := by
        rcases (show w.toInt = 0 ∨ w.toInt = 1 ∨ w.toInt = 2 ∨ w.toInt = 3 ∨ w.toInt = 4 by omega) with h9 | h9 | h9 | h9 | h9
        · refine Or.inl ?_; exact zf_val h9 (by decide)
        · refine Or.inr (Or.inl ?_); exact zf_val h9 (by decide)
        · refine Or.inr (Or.inr (Or.inl ?_)); exact zf_val h9 (by decide)
        · refine Or.inr (Or.inr (Or.inr (Or.inl ?_))); exact zf_val h9 (by decide)
        · refine Or.inr (Or.inr (Or.inr (Or.inr (?_)))); exact zf_val h9 (by decide)
      rcases hsp with rfl | rfl | rfl | rfl | rfl
      · have kc0 : (0 : Int32).toInt = 0 := by decide
        refine lv_tableIn (tgt := 56) hx hb dX7_pullOf_20 (by decide) (by decide) rfl (by decide) ?_
        refine lv_aload_n hx hb dX7_pullOf_56 rfl (lv_at hl 0 rfl) ?_
        refine va_get (D := D) (ci := 2) (v := .int kiu_5) (C := RX2) (T := TX2) (N := 3) hx hb hts hi_X7_pullOf_2 hown hK (zPu_P (hZ.kept hS) huu_5) 0 rfl rfl 0 (by decide) (hts (.fieldLink RX7 130 "TheLiningsInIt$Pull" "kind" "I") (List.mem_of_getElem? (i := 2) rfl)) (fun _ h9 => h9) rfl dX7_pullOf_57 ?_
        exact W.iret (v := kiu_5) hx hb hr (fun t ht hW => ⟨⟨kiu_5, fr, rfl, trivial, zRet ht hP hD [0, 1, 2, 3] (by decide) rfl⟩, hS.F ht⟩) hS.2.2 dX7_pullOf_60
      · have kc1 : (1 : Int32).toInt = 1 := by decide
        refine lv_tableIn (tgt := 61) hx hb dX7_pullOf_20 (by decide) (by decide) rfl (by decide) ?_
        refine lv_aload_n hx hb dX7_pullOf_61 rfl (lv_at hl 0 rfl) ?_
        refine va_get (D := D) (ci := 2) (v := .int au_5) (C := RX2) (T := TX2) (N := 3) hx hb hts hi_X7_pullOf_2 hown hK (zPu_P (hZ.kept hS) huu_5) 0 rfl rfl 1 (by decide) (hts (.fieldLink RX7 133 "TheLiningsInIt$Pull" "a" "I") (List.mem_of_getElem? (i := 3) rfl)) (fun _ h9 => h9) rfl dX7_pullOf_62 ?_
        exact W.iret (v := au_5) hx hb hr (fun t ht hW => ⟨⟨au_5, fr, rfl, trivial, zRet ht hP hD [0, 1, 2, 3] (by decide) rfl⟩, hS.F ht⟩) hS.2.2 dX7_pullOf_65
      · have kc2 : (2 : Int32).toInt = 2 := by decide
        refine lv_tableIn (tgt := 66) hx hb dX7_pullOf_20 (by decide) (by decide) rfl (by decide) ?_
        refine lv_aload_n hx hb dX7_pullOf_66 rfl (lv_at hl 0 rfl) ?_
        refine va_get (D := D) (ci := 2) (v := .int tu_5) (C := RX2) (T := TX2) (N := 3) hx hb hts hi_X7_pullOf_2 hown hK (zPu_P (hZ.kept hS) huu_5) 0 rfl rfl 2 (by decide) (hts (.fieldLink RX7 110 "TheLiningsInIt$Pull" "takes" "I") (List.mem_of_getElem? (i := 4) rfl)) (fun _ h9 => h9) rfl dX7_pullOf_67 ?_
        exact W.iret (v := tu_5) hx hb hr (fun t ht hW => ⟨⟨tu_5, fr, rfl, trivial, zRet ht hP hD [0, 1, 2, 3] (by decide) rfl⟩, hS.F ht⟩) hS.2.2 dX7_pullOf_70
      · have kc3 : (3 : Int32).toInt = 3 := by decide
        refine lv_tableIn (tgt := 71) hx hb dX7_pullOf_20 (by decide) (by decide) rfl (by decide) ?_
        refine lv_aload_n hx hb dX7_pullOf_71 rfl (lv_at hl 0 rfl) ?_
        refine zc_V (As := []) (rest := []) ⟨hx, hb, hml, hown, hts⟩ (c_Pull_step l D cI cJ cZ cP cS po u_5 (kiu_5) (au_5) (tu_5) huu_5 ⟨by omega, by omega, by omega, by omega⟩) (cwV 0 hts gX7_pullOf_X2_step rfl rfl rfl ⟨rfl, dh_X2_step⟩ ⟨Nat.le_of_ble_eq_true rfl, Nat.le_of_ble_eq_true rfl⟩) hK hN (hZ.kept hS) hP zP_nil (va_recv (q := (RX2, TX2, 3)) hK (zPu_P (hZ.kept hS) huu_5) (ci := 2) (q0 := 0) rfl rfl) rfl hl.1 rfl (Nat.le_of_ble_eq_true rfl) dX7_pullOf_72 ⟨Nat.le_of_ble_eq_true rfl, Nat.le_of_ble_eq_true rfl⟩ (fun r_15 hr_15 => ?_)
        obtain ⟨g_16, g_17⟩ := hr_15
        exact W.iret (v := r_15) hx hb hr (fun t ht hW => ⟨⟨r_15, fr, rfl, trivial, zRet ht hP hD [0, 1, 2, 3] (by decide) rfl⟩, hS.F ht⟩) hS.2.2 dX7_pullOf_75
      · have kc4 : (4 : Int32).toInt = 4 := by decide
        refine lv_tableIn (tgt := 76) hx hb dX7_pullOf_20 (by decide) (by decide) rfl (by decide) ?_
        refine lv_aload_n hx hb dX7_pullOf_76 rfl (lv_at hl 1 rfl) ?_
        refine va_get (D := D) (ci := 7) (v := .ref j0) (C := RX7) (T := TX7) (N := 9) hx hb hts hi_X7_pullOf_7 hown hK hP 0 rfl rfl 1 (by decide) (hts (.fieldLink RX7 18 "TheLiningsInIt" "now" "LTheLiningsInIt$Jacket;") (List.mem_of_getElem? (i := 1) rfl)) (fun _ h9 => h9) rfl dX7_pullOf_77 ?_
        refine lv_aload_n hx hb dX7_pullOf_80 rfl (lv_at hl 0 rfl) ?_
        refine zc_V (As := [.ref u_5]) (rest := []) ⟨hx, hb, hml, hown, hts⟩ (c_J_mayBe l D cI cJ cZ cP cS po j0 jp jc z0 0 0 (cn) (de) (tr) (se) (hu) (sd) u_5 (kiu_5) (au_5) (tu_5) huu_5 ⟨by omega, by omega, by omega, by omega⟩ hy4 hy5 hy6 hy7 hy8 hy9) (cwV 1 hts gX7_pullOf_X0_mayBe rfl rfl rfl ⟨rfl, dh_X0_mayBe⟩ ⟨Nat.le_of_ble_eq_true rfl, Nat.le_of_ble_eq_true rfl⟩) hK hN (hZ.kept hS) hP (hP.sub [2] rfl) (va_recv (q := (RX0, TX0, 9)) hK hP (ci := 0) (q0 := 2) rfl rfl) rfl hl.1 rfl (Nat.le_of_ble_eq_true rfl) dX7_pullOf_81 ⟨Nat.le_of_ble_eq_true rfl, Nat.le_of_ble_eq_true rfl⟩ (fun r_18 hr_18 => ?_)
        rcases hr_18 with ⟨rfl, g_19⟩ | ⟨rfl, g_20, g_21⟩ | ⟨rfl, g_22, g_23⟩
        · refine lv_if_eq (tgt := 91) hx hb dX7_pullOf_84 (by decide) (fun c_24 => ?_) (fun c_24 => ?_)
          · refine lv_iconst (v := 0) hx hb dX7_pullOf_91 (by decide) ?_
            exact W.iret (v := 0) hx hb hr (fun t ht hW => ⟨⟨0, fr, rfl, trivial, zRet ht hP hD [0, 1, 2, 3] (by decide) rfl⟩, hS.F ht⟩) hS.2.2 dX7_pullOf_92
          · exact absurd c_24 (by decide)
        · refine lv_if_eq (tgt := 91) hx hb dX7_pullOf_84 (by decide) (fun c_25 => ?_) (fun c_25 => ?_)
          · refine lv_iconst (v := 0) hx hb dX7_pullOf_91 (by decide) ?_
            exact W.iret (v := 0) hx hb hr (fun t ht hW => ⟨⟨0, fr, rfl, trivial, zRet ht hP hD [0, 1, 2, 3] (by decide) rfl⟩, hS.F ht⟩) hS.2.2 dX7_pullOf_92
          · exact absurd c_25 (by decide)
        · refine lv_if_eq (tgt := 91) hx hb dX7_pullOf_84 (by decide) (fun c_26 => ?_) (fun c_26 => ?_)
          · exact absurd c_26 (by decide)
          · refine lv_iconst (v := 1) hx hb dX7_pullOf_87 (by decide) ?_
            refine lv_goto (tgt := 92) hx hb dX7_pullOf_88 (by decide) ?_
            exact W.iret (v := 1) hx hb hr (fun t ht hW => ⟨⟨1, fr, rfl, trivial, zRet ht hP hD [0, 1, 2, 3] (by decide) rfl⟩, hS.F ht⟩) hS.2.2 dX7_pullOf_92
theorem hi_X7_teeth_7 : ∀ w ∈ u_ws RX7 TX7 9, w ∈ wsX7_teeth := fun w h => (gl_X7_teeth_X70 w h).1
theorem gl_X7_teeth_X00 : GoodIn wsX7_teeth wsX00 := (dg_t (dg_t (dg_t (dg_t (dg_t (dg_t (dg_t (dg_t (dg_t (dg_t (dg_t (dg_t (dg_t (dg_t (dg_t (dg_t (dg_t (dg_t (dg_t (dg_t (dg_t (dg_t (dg_l (dg_r gw_wsX00))))))))))))))))))))))))
theorem hi_X7_teeth_0 : ∀ w ∈ u_ws RX0 TX0 9, w ∈ wsX7_teeth := fun w h => (gl_X7_teeth_X00 w h).1
theorem hi_X7_teeth_6 : ∀ w ∈ u_ws RX6 TX6 5, w ∈ wsX7_teeth := fun w h => (gl_X7_teeth_X60 w h).1
theorem hi_X7_lack_7 : ∀ w ∈ u_ws RX7 TX7 9, w ∈ wsX7_lack := fun w h => (gl_X7_lack_X70 w h).1
theorem gl_X7_lack_X00 : GoodIn wsX7_lack wsX00 := (dg_t (dg_t (dg_t (dg_t (dg_t (dg_t (dg_t (dg_t (dg_t (dg_t (dg_t (dg_t (dg_t (dg_t (dg_t (dg_t (dg_t (dg_t (dg_t (dg_l (dg_r gw_wsX00)))))))))))))))))))))
theorem hi_X7_lack_0 : ∀ w ∈ u_ws RX0 TX0 9, w ∈ wsX7_lack := fun w h => (gl_X7_lack_X00 w h).1
theorem hi_X7_lack_6 : ∀ w ∈ u_ws RX6 TX6 5, w ∈ wsX7_lack := fun w h => (gl_X7_lack_X60 w h).1
theorem hi_X7_slack_7 : ∀ w ∈ u_ws RX7 TX7 9, w ∈ wsX7_slack := fun w h => (gl_X7_slack_X70 w h).1
theorem gl_X7_slack_X00 : GoodIn wsX7_slack wsX00 := (dg_t (dg_t (dg_t (dg_t (dg_t (dg_t (dg_t (dg_t (dg_t (dg_t (dg_t (dg_t (dg_t (dg_t (dg_t (dg_t (dg_t (dg_t (dg_t (dg_l (dg_r gw_wsX00)))))))))))))))))))))
theorem hi_X7_slack_0 : ∀ w ∈ u_ws RX0 TX0 9, w ∈ wsX7_slack := fun w h => (gl_X7_slack_X00 w h).1
theorem hi_X7_slack_6 : ∀ w ∈ u_ws RX6 TX6 5, w ∈ wsX7_slack := fun w h => (gl_X7_slack_X60 w h).1
theorem hi_X7_ask_7 : ∀ w ∈ u_ws RX7 TX7 9, w ∈ wsX7_ask := fun w h => (gl_X7_ask_X70 w h).1
theorem hi_X7_jacket_7 : ∀ w ∈ u_ws RX7 TX7 9, w ∈ wsX7_jacket := fun w h => (gl_X7_jacket_X70 w h).1
theorem hi_X7_jacket_0 : ∀ w ∈ u_ws RX0 TX0 9, w ∈ wsX7_jacket := fun w h => (gl_X7_jacket_X00 w h).1
theorem hi_X7_jacket_6 : ∀ w ∈ u_ws RX6 TX6 5, w ∈ wsX7_jacket := fun w h => (gl_X7_jacket_X60 w h).1
theorem hi_X7_jacket_3 : ∀ w ∈ u_ws RX3 TX3 8, w ∈ wsX7_jacket := fun w h => (gl_X7_jacket_X30 w h).1
theorem gl_X7_fault_X70 : GoodIn wsX7_fault wsX70 := (dg_t (dg_t gw_wsX70))
theorem hi_X7_fault_7 : ∀ w ∈ u_ws RX7 TX7 9, w ∈ wsX7_fault := fun w h => (gl_X7_fault_X70 w h).1
theorem hi_X7_frees_7 : ∀ w ∈ u_ws RX7 TX7 9, w ∈ wsX7_frees := fun w h => (gl_X7_frees_X70 w h).1
theorem hi_X7_frees_0 : ∀ w ∈ u_ws RX0 TX0 9, w ∈ wsX7_frees := fun w h => (gl_X7_frees_X00 w h).1
end
