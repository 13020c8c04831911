section
def wsX8_no : List Cond := (.code yX8_no cX8_no 2 (some .int)) :: (.fieldLink RX8 25 "TheLiningsInItModel" "refused" "[I") :: wsX80
def wsX8_noTen : List Cond := (.code yX8_noTen cX8_noTen 2 (some .int)) :: (.fieldLink RX8 25 "TheLiningsInItModel" "refused" "[I") :: wsX80
def wsX8_isShelf : List Cond := (.code yX8_isShelf cX8_isShelf 2 (some .boolean)) :: []
def wsX8_isPull : List Cond := (.code yX8_isPull cX8_isPull 2 (some .boolean)) :: (.fieldLink RX8 90 "TheLiningsInItModel" "pulls" "I") :: wsX80
def wsX8_isTooth : List Cond := (.code yX8_isTooth cX8_isTooth 2 (some .boolean)) :: (.fieldLink RX8 7 "TheLiningsInItModel" "teeth" "I") :: wsX80
def wsX8_row : List Cond := (.code yX8_row cX8_row 5 (some .int)) :: (.fieldLink RX8 47 "TheLiningsInItModel" "held" "[I") :: (.fieldLink RX8 50 "TheLiningsInItModel" "sort" "[I") :: (.fieldLink RX8 53 "TheLiningsInItModel" "size" "[I") :: (.fieldLink RX8 59 "TheLiningsInItModel" "cells" "[J") :: (.methodLink RX8 93 yX8_isShelf) :: (.instanceMethod yX8_isShelf) :: (.selects RX8 yX8_isShelf yX8_isShelf) :: (.initialized RX8) :: (.code yX8_isShelf cX8_isShelf 2 (some .boolean)) :: (.methodLink RX8 97 yX8_no) :: (.instanceMethod yX8_no) :: (.selects RX8 yX8_no yX8_no) :: (.code yX8_no cX8_no 2 (some .int)) :: (.fieldLink RX8 25 "TheLiningsInItModel" "refused" "[I") :: wsX80
def wsX8_set : List Cond := (.code yX8_set cX8_set 5 (some .int)) :: (.fieldLink RX8 47 "TheLiningsInItModel" "held" "[I") :: (.fieldLink RX8 53 "TheLiningsInItModel" "size" "[I") :: (.fieldLink RX8 59 "TheLiningsInItModel" "cells" "[J") :: (.fieldLink RX8 50 "TheLiningsInItModel" "sort" "[I") :: (.methodLink RX8 93 yX8_isShelf) :: (.instanceMethod yX8_isShelf) :: (.selects RX8 yX8_isShelf yX8_isShelf) :: (.initialized RX8) :: (.code yX8_isShelf cX8_isShelf 2 (some .boolean)) :: (.methodLink RX8 97 yX8_no) :: (.instanceMethod yX8_no) :: (.selects RX8 yX8_no yX8_no) :: (.code yX8_no cX8_no 2 (some .int)) :: (.fieldLink RX8 25 "TheLiningsInItModel" "refused" "[I") :: wsX80
def wsX8_copy : List Cond := (.code yX8_copy cX8_copy 7 (some .int)) :: (.fieldLink RX8 47 "TheLiningsInItModel" "held" "[I") :: (.fieldLink RX8 50 "TheLiningsInItModel" "sort" "[I") :: (.fieldLink RX8 53 "TheLiningsInItModel" "size" "[I") :: (.fieldLink RX8 63 "TheLiningsInItModel" "carried" "[J") :: (.fieldLink RX8 59 "TheLiningsInItModel" "cells" "[J") :: (.methodLink RX8 93 yX8_isShelf) :: (.instanceMethod yX8_isShelf) :: (.selects RX8 yX8_isShelf yX8_isShelf) :: (.initialized RX8) :: (.code yX8_isShelf cX8_isShelf 2 (some .boolean)) :: (.methodLink RX8 97 yX8_no) :: (.instanceMethod yX8_no) :: (.selects RX8 yX8_no yX8_no) :: (.code yX8_no cX8_no 2 (some .int)) :: (.fieldLink RX8 25 "TheLiningsInItModel" "refused" "[I") :: wsX80
def wsX8_element : List Cond := (.code yX8_element cX8_element 3 (some .long)) :: (.fieldLink RX8 47 "TheLiningsInItModel" "held" "[I") :: (.fieldLink RX8 53 "TheLiningsInItModel" "size" "[I") :: (.fieldLink RX8 59 "TheLiningsInItModel" "cells" "[J") :: (.methodLink RX8 93 yX8_isShelf) :: (.instanceMethod yX8_isShelf) :: (.selects RX8 yX8_isShelf yX8_isShelf) :: (.initialized RX8) :: (.code yX8_isShelf cX8_isShelf 2 (some .boolean)) :: wsX80
def wsX8_show : List Cond := (.code yX8_show cX8_show 3 (some .int)) :: (.fieldLink RX8 47 "TheLiningsInItModel" "held" "[I") :: (.fieldLink RX8 56 "TheLiningsInItModel" "shown" "[I") :: (.methodLink RX8 93 yX8_isShelf) :: (.instanceMethod yX8_isShelf) :: (.selects RX8 yX8_isShelf yX8_isShelf) :: (.initialized RX8) :: (.code yX8_isShelf cX8_isShelf 2 (some .boolean)) :: (.methodLink RX8 101 yX8_isPull) :: (.instanceMethod yX8_isPull) :: (.selects RX8 yX8_isPull yX8_isPull) :: (.code yX8_isPull cX8_isPull 2 (some .boolean)) :: (.fieldLink RX8 90 "TheLiningsInItModel" "pulls" "I") :: (.methodLink RX8 97 yX8_no) :: (.instanceMethod yX8_no) :: (.selects RX8 yX8_no yX8_no) :: (.code yX8_no cX8_no 2 (some .int)) :: (.fieldLink RX8 25 "TheLiningsInItModel" "refused" "[I") :: wsX80
def wsX8_holds : List Cond := (.code yX8_holds cX8_holds 2 (some .int)) :: (.fieldLink RX8 47 "TheLiningsInItModel" "held" "[I") :: (.fieldLink RX8 50 "TheLiningsInItModel" "sort" "[I") :: (.fieldLink RX8 56 "TheLiningsInItModel" "shown" "[I") :: (.methodLink RX8 93 yX8_isShelf) :: (.instanceMethod yX8_isShelf) :: (.selects RX8 yX8_isShelf yX8_isShelf) :: (.initialized RX8) :: (.code yX8_isShelf cX8_isShelf 2 (some .boolean)) :: wsX80
def wsX8_step : List Cond := (.code yX8_step cX8_step 2 (some .int)) :: (.fieldLink RX8 29 "TheLiningsInItModel" "kind" "[I") :: (.fieldLink RX8 32 "TheLiningsInItModel" "part" "[I") :: wsX80
def wsX8_ways : List Cond := (.code yX8_ways cX8_ways 4 (some .int)) :: (.fieldLink RX8 29 "TheLiningsInItModel" "kind" "[I") :: (.fieldLink RX8 32 "TheLiningsInItModel" "part" "[I") :: (.fieldLink RX8 135 "TheLiningsInItModel" "hurry" "I") :: wsX80
def wsX8_says : List Cond := (.code yX8_says cX8_says 6 (some .int)) :: (.fieldLink RX8 47 "TheLiningsInItModel" "held" "[I") :: (.fieldLink RX8 56 "TheLiningsInItModel" "shown" "[I") :: (.fieldLink RX8 29 "TheLiningsInItModel" "kind" "[I") :: (.fieldLink RX8 35 "TheLiningsInItModel" "takes" "[I") :: (.methodLink RX8 93 yX8_isShelf) :: (.instanceMethod yX8_isShelf) :: (.selects RX8 yX8_isShelf yX8_isShelf) :: (.initialized RX8) :: (.code yX8_isShelf cX8_isShelf 2 (some .boolean)) :: (.methodLink RX8 97 yX8_no) :: (.instanceMethod yX8_no) :: (.selects RX8 yX8_no yX8_no) :: (.code yX8_no cX8_no 2 (some .int)) :: (.fieldLink RX8 25 "TheLiningsInItModel" "refused" "[I") :: (.methodLink RX8 104 yX8_step) :: (.instanceMethod yX8_step) :: (.selects RX8 yX8_step yX8_step) :: (.code yX8_step cX8_step 2 (some .int)) :: (.fieldLink RX8 32 "TheLiningsInItModel" "part" "[I") :: (.methodLink RX8 107 yX8_ways) :: (.instanceMethod yX8_ways) :: (.selects RX8 yX8_ways yX8_ways) :: (.code yX8_ways cX8_ways 4 (some .int)) :: (.fieldLink RX8 135 "TheLiningsInItModel" "hurry" "I") :: wsX80
def wsX8_wanted : List Cond := (.code yX8_wanted cX8_wanted 2 (some .int)) :: (.fieldLink RX8 47 "TheLiningsInItModel" "held" "[I") :: (.methodLink RX8 93 yX8_isShelf) :: (.instanceMethod yX8_isShelf) :: (.selects RX8 yX8_isShelf yX8_isShelf) :: (.initialized RX8) :: (.code yX8_isShelf cX8_isShelf 2 (some .boolean)) :: wsX80
def wsX8_intAt : List Cond := (.code yX8_intAt cX8_intAt 3 (some .int)) :: (.fieldLink RX8 59 "TheLiningsInItModel" "cells" "[J") :: wsX80
def wsX8_addsPull : List Cond := (.code yX8_addsPull cX8_addsPull 4 (some .int)) :: (.fieldLink RX8 29 "TheLiningsInItModel" "kind" "[I") :: (.fieldLink RX8 90 "TheLiningsInItModel" "pulls" "I") :: (.fieldLink RX8 32 "TheLiningsInItModel" "part" "[I") :: (.fieldLink RX8 35 "TheLiningsInItModel" "takes" "[I") :: wsX80
def wsX8_pull : List Cond := (.code yX8_pull cX8_pull 4 (some .int)) :: (.fieldLink RX8 90 "TheLiningsInItModel" "pulls" "I") :: (.methodLink RX8 97 yX8_no) :: (.instanceMethod yX8_no) :: (.selects RX8 yX8_no yX8_no) :: (.initialized RX8) :: (.code yX8_no cX8_no 2 (some .int)) :: (.fieldLink RX8 25 "TheLiningsInItModel" "refused" "[I") :: (.methodLink RX8 111 yX8_addsPull) :: (.instanceMethod yX8_addsPull) :: (.selects RX8 yX8_addsPull yX8_addsPull) :: (.code yX8_addsPull cX8_addsPull 4 (some .int)) :: (.fieldLink RX8 29 "TheLiningsInItModel" "kind" "[I") :: (.fieldLink RX8 32 "TheLiningsInItModel" "part" "[I") :: (.fieldLink RX8 35 "TheLiningsInItModel" "takes" "[I") :: wsX80
def wsX8_mayBe : List Cond := (.code yX8_mayBe cX8_mayBe 4 (some .boolean)) :: (.fieldLink RX8 35 "TheLiningsInItModel" "takes" "[I") :: wsX80
def wsX8_pullOf : List Cond := (.code yX8_pullOf cX8_pullOf 3 (some .int)) :: (.fieldLink RX8 29 "TheLiningsInItModel" "kind" "[I") :: (.fieldLink RX8 32 "TheLiningsInItModel" "part" "[I") :: (.fieldLink RX8 35 "TheLiningsInItModel" "takes" "[I") :: (.fieldLink RX8 115 "TheLiningsInItModel" "depth" "I") :: (.fieldLink RX8 13 "TheLiningsInItModel" "seconds" "I") :: (.methodLink RX8 101 yX8_isPull) :: (.instanceMethod yX8_isPull) :: (.selects RX8 yX8_isPull yX8_isPull) :: (.initialized RX8) :: (.code yX8_isPull cX8_isPull 2 (some .boolean)) :: (.fieldLink RX8 90 "TheLiningsInItModel" "pulls" "I") :: (.methodLink RX8 97 yX8_no) :: (.instanceMethod yX8_no) :: (.selects RX8 yX8_no yX8_no) :: (.code yX8_no cX8_no 2 (some .int)) :: (.fieldLink RX8 25 "TheLiningsInItModel" "refused" "[I") :: (.methodLink RX8 104 yX8_step) :: (.instanceMethod yX8_step) :: (.selects RX8 yX8_step yX8_step) :: (.code yX8_step cX8_step 2 (some .int)) :: (.methodLink RX8 118 yX8_mayBe) :: (.instanceMethod yX8_mayBe) :: (.selects RX8 yX8_mayBe yX8_mayBe) :: (.code yX8_mayBe cX8_mayBe 4 (some .boolean)) :: wsX80
def wsX8_sews : List Cond := (.code yX8_sews cX8_sews 3 none) :: (.fieldLink RX8 7 "TheLiningsInItModel" "teeth" "I") :: (.fieldLink RX8 122 "TheLiningsInItModel" "at" "I") :: (.fieldLink RX8 38 "TheLiningsInItModel" "lacks" "[I") :: (.fieldLink RX8 41 "TheLiningsInItModel" "slack" "[I") :: wsX80
def wsX8_teeth : List Cond := (.code yX8_teeth cX8_teeth 3 (some .int)) :: (.fieldLink RX8 7 "TheLiningsInItModel" "teeth" "I") :: (.methodLink RX8 97 yX8_no) :: (.instanceMethod yX8_no) :: (.selects RX8 yX8_no yX8_no) :: (.initialized RX8) :: (.code yX8_no cX8_no 2 (some .int)) :: (.fieldLink RX8 25 "TheLiningsInItModel" "refused" "[I") :: (.methodLink RX8 125 yX8_sews) :: (.instanceMethod yX8_sews) :: (.selects RX8 yX8_sews yX8_sews) :: (.code yX8_sews cX8_sews 3 none) :: (.fieldLink RX8 122 "TheLiningsInItModel" "at" "I") :: (.fieldLink RX8 38 "TheLiningsInItModel" "lacks" "[I") :: (.fieldLink RX8 41 "TheLiningsInItModel" "slack" "[I") :: wsX80
def wsX8_lack : List Cond := (.code yX8_lack cX8_lack 4 (some .int)) :: (.fieldLink RX8 38 "TheLiningsInItModel" "lacks" "[I") :: (.methodLink RX8 129 yX8_isTooth) :: (.instanceMethod yX8_isTooth) :: (.selects RX8 yX8_isTooth yX8_isTooth) :: (.initialized RX8) :: (.code yX8_isTooth cX8_isTooth 2 (some .boolean)) :: (.fieldLink RX8 7 "TheLiningsInItModel" "teeth" "I") :: (.methodLink RX8 97 yX8_no) :: (.instanceMethod yX8_no) :: (.selects RX8 yX8_no yX8_no) :: (.code yX8_no cX8_no 2 (some .int)) :: (.fieldLink RX8 25 "TheLiningsInItModel" "refused" "[I") :: wsX80
def wsX8_slack : List Cond := (.code yX8_slack cX8_slack 4 (some .int)) :: (.fieldLink RX8 41 "TheLiningsInItModel" "slack" "[I") :: (.methodLink RX8 129 yX8_isTooth) :: (.instanceMethod yX8_isTooth) :: (.selects RX8 yX8_isTooth yX8_isTooth) :: (.initialized RX8) :: (.code yX8_isTooth cX8_isTooth 2 (some .boolean)) :: (.fieldLink RX8 7 "TheLiningsInItModel" "teeth" "I") :: (.methodLink RX8 97 yX8_no) :: (.instanceMethod yX8_no) :: (.selects RX8 yX8_no yX8_no) :: (.code yX8_no cX8_no 2 (some .int)) :: (.fieldLink RX8 25 "TheLiningsInItModel" "refused" "[I") :: wsX80
def wsX8_most : List Cond := (.code yX8_most cX8_most 2 (some .int)) :: (.fieldLink RX8 7 "TheLiningsInItModel" "teeth" "I") :: wsX80
def wsX8_isAsked : List Cond := (.code yX8_isAsked cX8_isAsked 3 (some .boolean)) :: (.methodLink RX8 132 yX8_most) :: (.instanceMethod yX8_most) :: (.selects RX8 yX8_most yX8_most) :: (.initialized RX8) :: (.code yX8_most cX8_most 2 (some .int)) :: (.fieldLink RX8 7 "TheLiningsInItModel" "teeth" "I") :: wsX80
def wsX8_told : List Cond := (.code yX8_told cX8_told 2 (some .int)) :: (.fieldLink RX8 115 "TheLiningsInItModel" "depth" "I") :: (.fieldLink RX8 13 "TheLiningsInItModel" "seconds" "I") :: (.fieldLink RX8 135 "TheLiningsInItModel" "hurry" "I") :: (.fieldLink RX8 16 "TheLiningsInItModel" "gap" "I") :: (.fieldLink RX8 122 "TheLiningsInItModel" "at" "I") :: (.fieldLink RX8 44 "TheLiningsInItModel" "cost" "[I") :: wsX80
def wsX8_tells : List Cond := (.code yX8_tells cX8_tells 3 none) :: (.fieldLink RX8 115 "TheLiningsInItModel" "depth" "I") :: (.fieldLink RX8 13 "TheLiningsInItModel" "seconds" "I") :: (.fieldLink RX8 135 "TheLiningsInItModel" "hurry" "I") :: (.fieldLink RX8 16 "TheLiningsInItModel" "gap" "I") :: (.fieldLink RX8 122 "TheLiningsInItModel" "at" "I") :: (.fieldLink RX8 44 "TheLiningsInItModel" "cost" "[I") :: wsX80
def wsX8_ask_r1 : List Cond := (Cond.methodLink RX8 138 yX8_isAsked) :: (Cond.instanceMethod yX8_isAsked) :: (Cond.selects RX8 yX8_isAsked yX8_isAsked) :: (Cond.initialized RX8) :: (Cond.code yX8_isAsked cX8_isAsked 3 (some .boolean)) :: (Cond.methodLink RX8 132 yX8_most) :: (Cond.instanceMethod yX8_most) :: (Cond.selects RX8 yX8_most yX8_most) :: (Cond.code yX8_most cX8_most 2 (some .int)) :: (Cond.fieldLink RX8 7 "TheLiningsInItModel" "teeth" "I") :: (Cond.methodLink RX8 97 yX8_no) :: (Cond.instanceMethod yX8_no) :: (Cond.selects RX8 yX8_no yX8_no) :: (Cond.code yX8_no cX8_no 2 (some .int)) :: (Cond.fieldLink RX8 25 "TheLiningsInItModel" "refused" "[I") :: (Cond.methodLink RX8 142 yX8_told) :: (Cond.instanceMethod yX8_told) :: (Cond.selects RX8 yX8_told yX8_told) :: (Cond.code yX8_told cX8_told 2 (some .int)) :: (Cond.fieldLink RX8 115 "TheLiningsInItModel" "depth" "I") :: (Cond.fieldLink RX8 13 "TheLiningsInItModel" "seconds" "I") :: (Cond.fieldLink RX8 135 "TheLiningsInItModel" "hurry" "I") :: (Cond.fieldLink RX8 16 "TheLiningsInItModel" "gap" "I") :: (Cond.fieldLink RX8 122 "TheLiningsInItModel" "at" "I") :: []
def wsX8_ask_r2 : List Cond := (Cond.fieldLink RX8 44 "TheLiningsInItModel" "cost" "[I") :: (Cond.methodLink RX8 145 yX8_tells) :: (Cond.instanceMethod yX8_tells) :: (Cond.selects RX8 yX8_tells yX8_tells) :: (Cond.code yX8_tells cX8_tells 3 none) :: []
def wsX8_ask : List Cond := (.code yX8_ask cX8_ask 4 (some .int)) :: ((wsX8_ask_r1 ++ wsX8_ask_r2) ++ wsX80)
def wsX8_wrong : List Cond := (.code yX8_wrong cX8_wrong 2 (some .boolean)) :: (.fieldLink RX8 149 "TheLiningsInItModel" "wrongAt" "I") :: wsX80
def wsX8_stands : List Cond := (.code yX8_stands cX8_stands 4 (some .boolean)) :: (.fieldLink RX8 66 "TheLiningsInItModel" "words" "[I") :: (.fieldLink RX8 152 "TheLiningsInItModel" "place" "I") :: (.fieldLink RX8 155 "TheLiningsInItModel" "end" "I") :: (.fieldLink RX8 59 "TheLiningsInItModel" "cells" "[J") :: (.fieldLink RX8 158 "TheLiningsInItModel" "base" "I") :: wsX80
def wsX8_isDigit : List Cond := (.code yX8_isDigit cX8_isDigit 1 (some .boolean)) :: (.fieldLink RX8 152 "TheLiningsInItModel" "place" "I") :: (.fieldLink RX8 155 "TheLiningsInItModel" "end" "I") :: (.fieldLink RX8 59 "TheLiningsInItModel" "cells" "[J") :: (.fieldLink RX8 158 "TheLiningsInItModel" "base" "I") :: wsX80
def wsX8_reads : List Cond := (.code yX8_reads cX8_reads 2 (some .boolean)) :: (.fieldLink RX8 161 "TheLiningsInItModel" "number" "I") :: (.fieldLink RX8 152 "TheLiningsInItModel" "place" "I") :: (.fieldLink RX8 59 "TheLiningsInItModel" "cells" "[J") :: (.fieldLink RX8 158 "TheLiningsInItModel" "base" "I") :: (.methodLink RX8 164 yX8_isDigit) :: (.instanceMethod yX8_isDigit) :: (.selects RX8 yX8_isDigit yX8_isDigit) :: (.initialized RX8) :: (.code yX8_isDigit cX8_isDigit 1 (some .boolean)) :: (.fieldLink RX8 155 "TheLiningsInItModel" "end" "I") :: (.methodLink RX8 168 yX8_wrong) :: (.instanceMethod yX8_wrong) :: (.selects RX8 yX8_wrong yX8_wrong) :: (.code yX8_wrong cX8_wrong 2 (some .boolean)) :: (.fieldLink RX8 149 "TheLiningsInItModel" "wrongAt" "I") :: wsX80
def wsX8_isSo : List Cond := (.code yX8_isSo cX8_isSo 3 (some .boolean)) :: (.fieldLink RX8 161 "TheLiningsInItModel" "number" "I") :: (.fieldLink RX8 7 "TheLiningsInItModel" "teeth" "I") :: (.methodLink RX8 138 yX8_isAsked) :: (.instanceMethod yX8_isAsked) :: (.selects RX8 yX8_isAsked yX8_isAsked) :: (.initialized RX8) :: (.code yX8_isAsked cX8_isAsked 3 (some .boolean)) :: (.methodLink RX8 132 yX8_most) :: (.instanceMethod yX8_most) :: (.selects RX8 yX8_most yX8_most) :: (.code yX8_most cX8_most 2 (some .int)) :: wsX80
def wsX8_fault : List Cond := (.code yX8_fault cX8_fault 1 (some .int)) :: (.fieldLink RX8 22 "TheLiningsInItModel" "fault" "I") :: wsX80
def wsX8_deep : List Cond := (.code yX8_deep cX8_deep 5 (some .int)) :: (.fieldLink RX8 29 "TheLiningsInItModel" "kind" "[I") :: (.fieldLink RX8 32 "TheLiningsInItModel" "part" "[I") :: (.fieldLink RX8 135 "TheLiningsInItModel" "hurry" "I") :: (.methodLink RX8 104 yX8_step) :: (.instanceMethod yX8_step) :: (.selects RX8 yX8_step yX8_step) :: (.initialized RX8) :: (.code yX8_step cX8_step 2 (some .int)) :: wsX80
def wsX8_frees_r1 : List Cond := (Cond.methodLink RX8 101 yX8_isPull) :: (Cond.instanceMethod yX8_isPull) :: (Cond.selects RX8 yX8_isPull yX8_isPull) :: (Cond.initialized RX8) :: (Cond.code yX8_isPull cX8_isPull 2 (some .boolean)) :: (Cond.fieldLink RX8 90 "TheLiningsInItModel" "pulls" "I") :: (Cond.methodLink RX8 97 yX8_no) :: (Cond.instanceMethod yX8_no) :: (Cond.selects RX8 yX8_no yX8_no) :: (Cond.code yX8_no cX8_no 2 (some .int)) :: (Cond.fieldLink RX8 25 "TheLiningsInItModel" "refused" "[I") :: (Cond.methodLink RX8 107 yX8_ways) :: (Cond.instanceMethod yX8_ways) :: (Cond.selects RX8 yX8_ways yX8_ways) :: (Cond.code yX8_ways cX8_ways 4 (some .int)) :: (Cond.fieldLink RX8 29 "TheLiningsInItModel" "kind" "[I") :: (Cond.fieldLink RX8 32 "TheLiningsInItModel" "part" "[I") :: (Cond.fieldLink RX8 135 "TheLiningsInItModel" "hurry" "I") :: (Cond.methodLink RX8 201 yX8_deep) :: (Cond.instanceMethod yX8_deep) :: (Cond.selects RX8 yX8_deep yX8_deep) :: (Cond.code yX8_deep cX8_deep 5 (some .int)) :: (Cond.methodLink RX8 104 yX8_step) :: (Cond.instanceMethod yX8_step) :: []
def wsX8_frees_r2 : List Cond := (Cond.selects RX8 yX8_step yX8_step) :: (Cond.code yX8_step cX8_step 2 (some .int)) :: []
def wsX8_frees : List Cond := (.code yX8_frees cX8_frees 4 (some .int)) :: ((wsX8_frees_r1 ++ wsX8_frees_r2) ++ wsX80)
def wsX8_power : List Cond := (.code yX8_power cX8_power 2 (some .int)) :: (.methodLink RX8 205 yX8_power) :: (.instanceMethod yX8_power) :: (.selects RX8 yX8_power yX8_power) :: (.initialized RX8) :: []
def wsX8_casesBy_r1 : List Cond := (Cond.fieldLink RX8 35 "TheLiningsInItModel" "takes" "[I") :: (Cond.methodLink RX8 107 yX8_ways) :: (Cond.instanceMethod yX8_ways) :: (Cond.selects RX8 yX8_ways yX8_ways) :: (Cond.initialized RX8) :: (Cond.code yX8_ways cX8_ways 4 (some .int)) :: (Cond.fieldLink RX8 29 "TheLiningsInItModel" "kind" "[I") :: (Cond.fieldLink RX8 32 "TheLiningsInItModel" "part" "[I") :: (Cond.fieldLink RX8 135 "TheLiningsInItModel" "hurry" "I") :: (Cond.methodLink RX8 201 yX8_deep) :: (Cond.instanceMethod yX8_deep) :: (Cond.selects RX8 yX8_deep yX8_deep) :: (Cond.code yX8_deep cX8_deep 5 (some .int)) :: (Cond.methodLink RX8 104 yX8_step) :: (Cond.instanceMethod yX8_step) :: (Cond.selects RX8 yX8_step yX8_step) :: (Cond.code yX8_step cX8_step 2 (some .int)) :: (Cond.methodLink RX8 208 yX8_mostCases) :: (Cond.instanceMethod yX8_mostCases) :: (Cond.selects RX8 yX8_mostCases yX8_mostCases) :: (Cond.code yX8_mostCases cX8_mostCases 8 (some .int)) :: (Cond.fieldLink RX8 90 "TheLiningsInItModel" "pulls" "I") :: (Cond.methodLink RX8 205 yX8_power) :: (Cond.instanceMethod yX8_power) :: []
def wsX8_casesBy_r2 : List Cond := (Cond.selects RX8 yX8_power yX8_power) :: (Cond.code yX8_power cX8_power 2 (some .int)) :: (Cond.methodLink RX8 118 yX8_mayBe) :: (Cond.instanceMethod yX8_mayBe) :: (Cond.selects RX8 yX8_mayBe yX8_mayBe) :: (Cond.code yX8_mayBe cX8_mayBe 4 (some .boolean)) :: (Cond.methodLink RX8 212 yX8_casesBy) :: (Cond.instanceMethod yX8_casesBy) :: (Cond.selects RX8 yX8_casesBy yX8_casesBy) :: []
def wsX8_casesBy : List Cond := (.code yX8_casesBy cX8_casesBy 8 (some .int)) :: ((wsX8_casesBy_r1 ++ wsX8_casesBy_r2) ++ wsX80)
def wsX8_mostCases_r1 : List Cond := (Cond.fieldLink RX8 90 "TheLiningsInItModel" "pulls" "I") :: (Cond.fieldLink RX8 29 "TheLiningsInItModel" "kind" "[I") :: (Cond.methodLink RX8 205 yX8_power) :: (Cond.instanceMethod yX8_power) :: (Cond.selects RX8 yX8_power yX8_power) :: (Cond.initialized RX8) :: (Cond.code yX8_power cX8_power 2 (some .int)) :: (Cond.methodLink RX8 208 yX8_mostCases) :: (Cond.instanceMethod yX8_mostCases) :: (Cond.selects RX8 yX8_mostCases yX8_mostCases) :: (Cond.methodLink RX8 118 yX8_mayBe) :: (Cond.instanceMethod yX8_mayBe) :: (Cond.selects RX8 yX8_mayBe yX8_mayBe) :: (Cond.code yX8_mayBe cX8_mayBe 4 (some .boolean)) :: (Cond.fieldLink RX8 35 "TheLiningsInItModel" "takes" "[I") :: (Cond.methodLink RX8 212 yX8_casesBy) :: (Cond.instanceMethod yX8_casesBy) :: (Cond.selects RX8 yX8_casesBy yX8_casesBy) :: (Cond.code yX8_casesBy cX8_casesBy 8 (some .int)) :: (Cond.methodLink RX8 107 yX8_ways) :: (Cond.instanceMethod yX8_ways) :: (Cond.selects RX8 yX8_ways yX8_ways) :: (Cond.code yX8_ways cX8_ways 4 (some .int)) :: (Cond.fieldLink RX8 32 "TheLiningsInItModel" "part" "[I") :: []
def wsX8_mostCases_r2 : List Cond := (Cond.fieldLink RX8 135 "TheLiningsInItModel" "hurry" "I") :: (Cond.methodLink RX8 201 yX8_deep) :: (Cond.instanceMethod yX8_deep) :: (Cond.selects RX8 yX8_deep yX8_deep) :: (Cond.code yX8_deep cX8_deep 5 (some .int)) :: (Cond.methodLink RX8 104 yX8_step) :: (Cond.instanceMethod yX8_step) :: (Cond.selects RX8 yX8_step yX8_step) :: (Cond.code yX8_step cX8_step 2 (some .int)) :: []
def wsX8_mostCases : List Cond := (.code yX8_mostCases cX8_mostCases 8 (some .int)) :: ((wsX8_mostCases_r1 ++ wsX8_mostCases_r2) ++ wsX80)
def wsX8_nextOf_r1 : List Cond := (Cond.fieldLink RX8 90 "TheLiningsInItModel" "pulls" "I") :: (Cond.fieldLink RX8 115 "TheLiningsInItModel" "depth" "I") :: (Cond.fieldLink RX8 13 "TheLiningsInItModel" "seconds" "I") :: (Cond.methodLink RX8 118 yX8_mayBe) :: (Cond.instanceMethod yX8_mayBe) :: (Cond.selects RX8 yX8_mayBe yX8_mayBe) :: (Cond.initialized RX8) :: (Cond.code yX8_mayBe cX8_mayBe 4 (some .boolean)) :: (Cond.fieldLink RX8 35 "TheLiningsInItModel" "takes" "[I") :: (Cond.methodLink RX8 212 yX8_casesBy) :: (Cond.instanceMethod yX8_casesBy) :: (Cond.selects RX8 yX8_casesBy yX8_casesBy) :: (Cond.code yX8_casesBy cX8_casesBy 8 (some .int)) :: (Cond.methodLink RX8 107 yX8_ways) :: (Cond.instanceMethod yX8_ways) :: (Cond.selects RX8 yX8_ways yX8_ways) :: (Cond.code yX8_ways cX8_ways 4 (some .int)) :: (Cond.fieldLink RX8 29 "TheLiningsInItModel" "kind" "[I") :: (Cond.fieldLink RX8 32 "TheLiningsInItModel" "part" "[I") :: (Cond.fieldLink RX8 135 "TheLiningsInItModel" "hurry" "I") :: (Cond.methodLink RX8 201 yX8_deep) :: (Cond.instanceMethod yX8_deep) :: (Cond.selects RX8 yX8_deep yX8_deep) :: (Cond.code yX8_deep cX8_deep 5 (some .int)) :: []
def wsX8_nextOf_r2 : List Cond := (Cond.methodLink RX8 104 yX8_step) :: (Cond.instanceMethod yX8_step) :: (Cond.selects RX8 yX8_step yX8_step) :: (Cond.code yX8_step cX8_step 2 (some .int)) :: (Cond.methodLink RX8 208 yX8_mostCases) :: (Cond.instanceMethod yX8_mostCases) :: (Cond.selects RX8 yX8_mostCases yX8_mostCases) :: (Cond.code yX8_mostCases cX8_mostCases 8 (some .int)) :: (Cond.methodLink RX8 205 yX8_power) :: (Cond.instanceMethod yX8_power) :: (Cond.selects RX8 yX8_power yX8_power) :: (Cond.code yX8_power cX8_power 2 (some .int)) :: []
def wsX8_nextOf : List Cond := (.code yX8_nextOf cX8_nextOf 6 (some .int)) :: ((wsX8_nextOf_r1 ++ wsX8_nextOf_r2) ++ wsX80)
def wsX8_isFew : List Cond := (.code yX8_isFew cX8_isFew 2 (some .boolean)) :: []
def wsX8_cases_r1 : List Cond := (Cond.fieldLink RX8 115 "TheLiningsInItModel" "depth" "I") :: (Cond.fieldLink RX8 13 "TheLiningsInItModel" "seconds" "I") :: (Cond.methodLink RX8 216 yX8_noTen) :: (Cond.instanceMethod yX8_noTen) :: (Cond.selects RX8 yX8_noTen yX8_noTen) :: (Cond.initialized RX8) :: (Cond.code yX8_noTen cX8_noTen 2 (some .int)) :: (Cond.fieldLink RX8 25 "TheLiningsInItModel" "refused" "[I") :: (Cond.methodLink RX8 219 yX8_isFew) :: (Cond.instanceMethod yX8_isFew) :: (Cond.selects RX8 yX8_isFew yX8_isFew) :: (Cond.code yX8_isFew cX8_isFew 2 (some .boolean)) :: (Cond.methodLink RX8 222 yX8_nextOf) :: (Cond.instanceMethod yX8_nextOf) :: (Cond.selects RX8 yX8_nextOf yX8_nextOf) :: (Cond.code yX8_nextOf cX8_nextOf 6 (some .int)) :: (Cond.fieldLink RX8 90 "TheLiningsInItModel" "pulls" "I") :: (Cond.methodLink RX8 118 yX8_mayBe) :: (Cond.instanceMethod yX8_mayBe) :: (Cond.selects RX8 yX8_mayBe yX8_mayBe) :: (Cond.code yX8_mayBe cX8_mayBe 4 (some .boolean)) :: (Cond.fieldLink RX8 35 "TheLiningsInItModel" "takes" "[I") :: (Cond.methodLink RX8 212 yX8_casesBy) :: (Cond.instanceMethod yX8_casesBy) :: []
def wsX8_cases_r2 : List Cond := (Cond.selects RX8 yX8_casesBy yX8_casesBy) :: (Cond.code yX8_casesBy cX8_casesBy 8 (some .int)) :: (Cond.methodLink RX8 107 yX8_ways) :: (Cond.instanceMethod yX8_ways) :: (Cond.selects RX8 yX8_ways yX8_ways) :: (Cond.code yX8_ways cX8_ways 4 (some .int)) :: (Cond.fieldLink RX8 29 "TheLiningsInItModel" "kind" "[I") :: (Cond.fieldLink RX8 32 "TheLiningsInItModel" "part" "[I") :: (Cond.fieldLink RX8 135 "TheLiningsInItModel" "hurry" "I") :: (Cond.methodLink RX8 201 yX8_deep) :: (Cond.instanceMethod yX8_deep) :: (Cond.selects RX8 yX8_deep yX8_deep) :: (Cond.code yX8_deep cX8_deep 5 (some .int)) :: (Cond.methodLink RX8 104 yX8_step) :: (Cond.instanceMethod yX8_step) :: (Cond.selects RX8 yX8_step yX8_step) :: (Cond.code yX8_step cX8_step 2 (some .int)) :: (Cond.methodLink RX8 208 yX8_mostCases) :: (Cond.instanceMethod yX8_mostCases) :: (Cond.selects RX8 yX8_mostCases yX8_mostCases) :: (Cond.code yX8_mostCases cX8_mostCases 8 (some .int)) :: (Cond.methodLink RX8 205 yX8_power) :: (Cond.instanceMethod yX8_power) :: (Cond.selects RX8 yX8_power yX8_power) :: []
def wsX8_cases_r3 : List Cond := (Cond.code yX8_power cX8_power 2 (some .int)) :: []
def wsX8_cases : List Cond := (.code yX8_cases cX8_cases 3 (some .int)) :: ((wsX8_cases_r1 ++ (wsX8_cases_r2 ++ wsX8_cases_r3)) ++ wsX80)
def wsX8_costBy_r1 : List Cond := (Cond.fieldLink RX8 29 "TheLiningsInItModel" "kind" "[I") :: (Cond.fieldLink RX8 44 "TheLiningsInItModel" "cost" "[I") :: (Cond.fieldLink RX8 35 "TheLiningsInItModel" "takes" "[I") :: (Cond.methodLink RX8 107 yX8_ways) :: (Cond.instanceMethod yX8_ways) :: (Cond.selects RX8 yX8_ways yX8_ways) :: (Cond.initialized RX8) :: (Cond.code yX8_ways cX8_ways 4 (some .int)) :: (Cond.fieldLink RX8 32 "TheLiningsInItModel" "part" "[I") :: (Cond.fieldLink RX8 135 "TheLiningsInItModel" "hurry" "I") :: (Cond.methodLink RX8 205 yX8_power) :: (Cond.instanceMethod yX8_power) :: (Cond.selects RX8 yX8_power yX8_power) :: (Cond.code yX8_power cX8_power 2 (some .int)) :: (Cond.methodLink RX8 201 yX8_deep) :: (Cond.instanceMethod yX8_deep) :: (Cond.selects RX8 yX8_deep yX8_deep) :: (Cond.code yX8_deep cX8_deep 5 (some .int)) :: (Cond.methodLink RX8 104 yX8_step) :: (Cond.instanceMethod yX8_step) :: (Cond.selects RX8 yX8_step yX8_step) :: (Cond.code yX8_step cX8_step 2 (some .int)) :: (Cond.methodLink RX8 229 yX8_leastCost) :: (Cond.instanceMethod yX8_leastCost) :: []
def wsX8_costBy_r2 : List Cond := (Cond.selects RX8 yX8_leastCost yX8_leastCost) :: (Cond.code yX8_leastCost cX8_leastCost 7 (some .int)) :: (Cond.fieldLink RX8 90 "TheLiningsInItModel" "pulls" "I") :: (Cond.methodLink RX8 118 yX8_mayBe) :: (Cond.instanceMethod yX8_mayBe) :: (Cond.selects RX8 yX8_mayBe yX8_mayBe) :: (Cond.code yX8_mayBe cX8_mayBe 4 (some .boolean)) :: (Cond.methodLink RX8 225 yX8_costBy) :: (Cond.instanceMethod yX8_costBy) :: (Cond.selects RX8 yX8_costBy yX8_costBy) :: []
def wsX8_costBy : List Cond := (.code yX8_costBy cX8_costBy 7 (some .int)) :: ((wsX8_costBy_r1 ++ wsX8_costBy_r2) ++ wsX80)
def wsX8_leastCost_r1 : List Cond := (Cond.fieldLink RX8 44 "TheLiningsInItModel" "cost" "[I") :: (Cond.fieldLink RX8 90 "TheLiningsInItModel" "pulls" "I") :: (Cond.methodLink RX8 205 yX8_power) :: (Cond.instanceMethod yX8_power) :: (Cond.selects RX8 yX8_power yX8_power) :: (Cond.initialized RX8) :: (Cond.code yX8_power cX8_power 2 (some .int)) :: (Cond.methodLink RX8 118 yX8_mayBe) :: (Cond.instanceMethod yX8_mayBe) :: (Cond.selects RX8 yX8_mayBe yX8_mayBe) :: (Cond.code yX8_mayBe cX8_mayBe 4 (some .boolean)) :: (Cond.fieldLink RX8 35 "TheLiningsInItModel" "takes" "[I") :: (Cond.methodLink RX8 225 yX8_costBy) :: (Cond.instanceMethod yX8_costBy) :: (Cond.selects RX8 yX8_costBy yX8_costBy) :: (Cond.code yX8_costBy cX8_costBy 7 (some .int)) :: (Cond.fieldLink RX8 29 "TheLiningsInItModel" "kind" "[I") :: (Cond.methodLink RX8 107 yX8_ways) :: (Cond.instanceMethod yX8_ways) :: (Cond.selects RX8 yX8_ways yX8_ways) :: (Cond.code yX8_ways cX8_ways 4 (some .int)) :: (Cond.fieldLink RX8 32 "TheLiningsInItModel" "part" "[I") :: (Cond.fieldLink RX8 135 "TheLiningsInItModel" "hurry" "I") :: (Cond.methodLink RX8 201 yX8_deep) :: []
def wsX8_leastCost_r2 : List Cond := (Cond.instanceMethod yX8_deep) :: (Cond.selects RX8 yX8_deep yX8_deep) :: (Cond.code yX8_deep cX8_deep 5 (some .int)) :: (Cond.methodLink RX8 104 yX8_step) :: (Cond.instanceMethod yX8_step) :: (Cond.selects RX8 yX8_step yX8_step) :: (Cond.code yX8_step cX8_step 2 (some .int)) :: (Cond.methodLink RX8 229 yX8_leastCost) :: (Cond.instanceMethod yX8_leastCost) :: (Cond.selects RX8 yX8_leastCost yX8_leastCost) :: []
def wsX8_leastCost : List Cond := (.code yX8_leastCost cX8_leastCost 7 (some .int)) :: ((wsX8_leastCost_r1 ++ wsX8_leastCost_r2) ++ wsX80)
def wsX8_firstOf_r1 : List Cond := (Cond.fieldLink RX8 115 "TheLiningsInItModel" "depth" "I") :: (Cond.fieldLink RX8 13 "TheLiningsInItModel" "seconds" "I") :: (Cond.fieldLink RX8 90 "TheLiningsInItModel" "pulls" "I") :: (Cond.fieldLink RX8 44 "TheLiningsInItModel" "cost" "[I") :: (Cond.methodLink RX8 229 yX8_leastCost) :: (Cond.instanceMethod yX8_leastCost) :: (Cond.selects RX8 yX8_leastCost yX8_leastCost) :: (Cond.initialized RX8) :: (Cond.code yX8_leastCost cX8_leastCost 7 (some .int)) :: (Cond.methodLink RX8 205 yX8_power) :: (Cond.instanceMethod yX8_power) :: (Cond.selects RX8 yX8_power yX8_power) :: (Cond.code yX8_power cX8_power 2 (some .int)) :: (Cond.methodLink RX8 118 yX8_mayBe) :: (Cond.instanceMethod yX8_mayBe) :: (Cond.selects RX8 yX8_mayBe yX8_mayBe) :: (Cond.code yX8_mayBe cX8_mayBe 4 (some .boolean)) :: (Cond.fieldLink RX8 35 "TheLiningsInItModel" "takes" "[I") :: (Cond.methodLink RX8 225 yX8_costBy) :: (Cond.instanceMethod yX8_costBy) :: (Cond.selects RX8 yX8_costBy yX8_costBy) :: (Cond.code yX8_costBy cX8_costBy 7 (some .int)) :: (Cond.fieldLink RX8 29 "TheLiningsInItModel" "kind" "[I") :: (Cond.methodLink RX8 107 yX8_ways) :: []
def wsX8_firstOf_r2 : List Cond := (Cond.instanceMethod yX8_ways) :: (Cond.selects RX8 yX8_ways yX8_ways) :: (Cond.code yX8_ways cX8_ways 4 (some .int)) :: (Cond.fieldLink RX8 32 "TheLiningsInItModel" "part" "[I") :: (Cond.fieldLink RX8 135 "TheLiningsInItModel" "hurry" "I") :: (Cond.methodLink RX8 201 yX8_deep) :: (Cond.instanceMethod yX8_deep) :: (Cond.selects RX8 yX8_deep yX8_deep) :: (Cond.code yX8_deep cX8_deep 5 (some .int)) :: (Cond.methodLink RX8 104 yX8_step) :: (Cond.instanceMethod yX8_step) :: (Cond.selects RX8 yX8_step yX8_step) :: (Cond.code yX8_step cX8_step 2 (some .int)) :: []
def wsX8_firstOf : List Cond := (.code yX8_firstOf cX8_firstOf 4 (some .int)) :: ((wsX8_firstOf_r1 ++ wsX8_firstOf_r2) ++ wsX80)
def wsX8_line_r1 : List Cond := (Cond.fieldLink RX8 115 "TheLiningsInItModel" "depth" "I") :: (Cond.fieldLink RX8 13 "TheLiningsInItModel" "seconds" "I") :: (Cond.methodLink RX8 216 yX8_noTen) :: (Cond.instanceMethod yX8_noTen) :: (Cond.selects RX8 yX8_noTen yX8_noTen) :: (Cond.initialized RX8) :: (Cond.code yX8_noTen cX8_noTen 2 (some .int)) :: (Cond.fieldLink RX8 25 "TheLiningsInItModel" "refused" "[I") :: (Cond.methodLink RX8 219 yX8_isFew) :: (Cond.instanceMethod yX8_isFew) :: (Cond.selects RX8 yX8_isFew yX8_isFew) :: (Cond.code yX8_isFew cX8_isFew 2 (some .boolean)) :: (Cond.methodLink RX8 229 yX8_leastCost) :: (Cond.instanceMethod yX8_leastCost) :: (Cond.selects RX8 yX8_leastCost yX8_leastCost) :: (Cond.code yX8_leastCost cX8_leastCost 7 (some .int)) :: (Cond.fieldLink RX8 44 "TheLiningsInItModel" "cost" "[I") :: (Cond.fieldLink RX8 90 "TheLiningsInItModel" "pulls" "I") :: (Cond.methodLink RX8 205 yX8_power) :: (Cond.instanceMethod yX8_power) :: (Cond.selects RX8 yX8_power yX8_power) :: (Cond.code yX8_power cX8_power 2 (some .int)) :: (Cond.methodLink RX8 118 yX8_mayBe) :: (Cond.instanceMethod yX8_mayBe) :: []
def wsX8_line_r2 : List Cond := (Cond.selects RX8 yX8_mayBe yX8_mayBe) :: (Cond.code yX8_mayBe cX8_mayBe 4 (some .boolean)) :: (Cond.fieldLink RX8 35 "TheLiningsInItModel" "takes" "[I") :: (Cond.methodLink RX8 225 yX8_costBy) :: (Cond.instanceMethod yX8_costBy) :: (Cond.selects RX8 yX8_costBy yX8_costBy) :: (Cond.code yX8_costBy cX8_costBy 7 (some .int)) :: (Cond.fieldLink RX8 29 "TheLiningsInItModel" "kind" "[I") :: (Cond.methodLink RX8 107 yX8_ways) :: (Cond.instanceMethod yX8_ways) :: (Cond.selects RX8 yX8_ways yX8_ways) :: (Cond.code yX8_ways cX8_ways 4 (some .int)) :: (Cond.fieldLink RX8 32 "TheLiningsInItModel" "part" "[I") :: (Cond.fieldLink RX8 135 "TheLiningsInItModel" "hurry" "I") :: (Cond.methodLink RX8 201 yX8_deep) :: (Cond.instanceMethod yX8_deep) :: (Cond.selects RX8 yX8_deep yX8_deep) :: (Cond.code yX8_deep cX8_deep 5 (some .int)) :: (Cond.methodLink RX8 104 yX8_step) :: (Cond.instanceMethod yX8_step) :: (Cond.selects RX8 yX8_step yX8_step) :: (Cond.code yX8_step cX8_step 2 (some .int)) :: (Cond.methodLink RX8 232 yX8_firstOf) :: (Cond.instanceMethod yX8_firstOf) :: []
def wsX8_line_r3 : List Cond := (Cond.selects RX8 yX8_firstOf yX8_firstOf) :: (Cond.code yX8_firstOf cX8_firstOf 4 (some .int)) :: []
def wsX8_line : List Cond := (.code yX8_line cX8_line 3 (some .int)) :: ((wsX8_line_r1 ++ (wsX8_line_r2 ++ wsX8_line_r3)) ++ wsX80)
def wsX8_casesIn_r1 : List Cond := (Cond.fieldLink RX8 135 "TheLiningsInItModel" "hurry" "I") :: (Cond.fieldLink RX8 115 "TheLiningsInItModel" "depth" "I") :: (Cond.fieldLink RX8 13 "TheLiningsInItModel" "seconds" "I") :: (Cond.methodLink RX8 208 yX8_mostCases) :: (Cond.instanceMethod yX8_mostCases) :: (Cond.selects RX8 yX8_mostCases yX8_mostCases) :: (Cond.initialized RX8) :: (Cond.code yX8_mostCases cX8_mostCases 8 (some .int)) :: (Cond.fieldLink RX8 90 "TheLiningsInItModel" "pulls" "I") :: (Cond.fieldLink RX8 29 "TheLiningsInItModel" "kind" "[I") :: (Cond.methodLink RX8 205 yX8_power) :: (Cond.instanceMethod yX8_power) :: (Cond.selects RX8 yX8_power yX8_power) :: (Cond.code yX8_power cX8_power 2 (some .int)) :: (Cond.methodLink RX8 118 yX8_mayBe) :: (Cond.instanceMethod yX8_mayBe) :: (Cond.selects RX8 yX8_mayBe yX8_mayBe) :: (Cond.code yX8_mayBe cX8_mayBe 4 (some .boolean)) :: (Cond.fieldLink RX8 35 "TheLiningsInItModel" "takes" "[I") :: (Cond.methodLink RX8 212 yX8_casesBy) :: (Cond.instanceMethod yX8_casesBy) :: (Cond.selects RX8 yX8_casesBy yX8_casesBy) :: (Cond.code yX8_casesBy cX8_casesBy 8 (some .int)) :: (Cond.methodLink RX8 107 yX8_ways) :: []
def wsX8_casesIn_r2 : List Cond := (Cond.instanceMethod yX8_ways) :: (Cond.selects RX8 yX8_ways yX8_ways) :: (Cond.code yX8_ways cX8_ways 4 (some .int)) :: (Cond.fieldLink RX8 32 "TheLiningsInItModel" "part" "[I") :: (Cond.methodLink RX8 201 yX8_deep) :: (Cond.instanceMethod yX8_deep) :: (Cond.selects RX8 yX8_deep yX8_deep) :: (Cond.code yX8_deep cX8_deep 5 (some .int)) :: (Cond.methodLink RX8 104 yX8_step) :: (Cond.instanceMethod yX8_step) :: (Cond.selects RX8 yX8_step yX8_step) :: (Cond.code yX8_step cX8_step 2 (some .int)) :: []
def wsX8_casesIn : List Cond := (.code yX8_casesIn cX8_casesIn 5 (some .int)) :: ((wsX8_casesIn_r1 ++ wsX8_casesIn_r2) ++ wsX80)
def wsX8_haste_r1 : List Cond := (Cond.methodLink RX8 97 yX8_no) :: (Cond.instanceMethod yX8_no) :: (Cond.selects RX8 yX8_no yX8_no) :: (Cond.initialized RX8) :: (Cond.code yX8_no cX8_no 2 (some .int)) :: (Cond.fieldLink RX8 25 "TheLiningsInItModel" "refused" "[I") :: (Cond.methodLink RX8 219 yX8_isFew) :: (Cond.instanceMethod yX8_isFew) :: (Cond.selects RX8 yX8_isFew yX8_isFew) :: (Cond.code yX8_isFew cX8_isFew 2 (some .boolean)) :: (Cond.methodLink RX8 235 yX8_casesIn) :: (Cond.instanceMethod yX8_casesIn) :: (Cond.selects RX8 yX8_casesIn yX8_casesIn) :: (Cond.code yX8_casesIn cX8_casesIn 5 (some .int)) :: (Cond.fieldLink RX8 135 "TheLiningsInItModel" "hurry" "I") :: (Cond.fieldLink RX8 115 "TheLiningsInItModel" "depth" "I") :: (Cond.fieldLink RX8 13 "TheLiningsInItModel" "seconds" "I") :: (Cond.methodLink RX8 208 yX8_mostCases) :: (Cond.instanceMethod yX8_mostCases) :: (Cond.selects RX8 yX8_mostCases yX8_mostCases) :: (Cond.code yX8_mostCases cX8_mostCases 8 (some .int)) :: (Cond.fieldLink RX8 90 "TheLiningsInItModel" "pulls" "I") :: (Cond.fieldLink RX8 29 "TheLiningsInItModel" "kind" "[I") :: (Cond.methodLink RX8 205 yX8_power) :: []
def wsX8_haste_r2 : List Cond := (Cond.instanceMethod yX8_power) :: (Cond.selects RX8 yX8_power yX8_power) :: (Cond.code yX8_power cX8_power 2 (some .int)) :: (Cond.methodLink RX8 118 yX8_mayBe) :: (Cond.instanceMethod yX8_mayBe) :: (Cond.selects RX8 yX8_mayBe yX8_mayBe) :: (Cond.code yX8_mayBe cX8_mayBe 4 (some .boolean)) :: (Cond.fieldLink RX8 35 "TheLiningsInItModel" "takes" "[I") :: (Cond.methodLink RX8 212 yX8_casesBy) :: (Cond.instanceMethod yX8_casesBy) :: (Cond.selects RX8 yX8_casesBy yX8_casesBy) :: (Cond.code yX8_casesBy cX8_casesBy 8 (some .int)) :: (Cond.methodLink RX8 107 yX8_ways) :: (Cond.instanceMethod yX8_ways) :: (Cond.selects RX8 yX8_ways yX8_ways) :: (Cond.code yX8_ways cX8_ways 4 (some .int)) :: (Cond.fieldLink RX8 32 "TheLiningsInItModel" "part" "[I") :: (Cond.methodLink RX8 201 yX8_deep) :: (Cond.instanceMethod yX8_deep) :: (Cond.selects RX8 yX8_deep yX8_deep) :: (Cond.code yX8_deep cX8_deep 5 (some .int)) :: (Cond.methodLink RX8 104 yX8_step) :: (Cond.instanceMethod yX8_step) :: (Cond.selects RX8 yX8_step yX8_step) :: []
def wsX8_haste_r3 : List Cond := (Cond.code yX8_step cX8_step 2 (some .int)) :: []
def wsX8_haste : List Cond := (.code yX8_haste cX8_haste 7 (some .int)) :: ((wsX8_haste_r1 ++ (wsX8_haste_r2 ++ wsX8_haste_r3)) ++ wsX80)
def wsX8_barsOf : List Cond := (.code yX8_barsOf cX8_barsOf 4 (some .int)) :: (.fieldLink RX8 53 "TheLiningsInItModel" "size" "[I") :: (.methodLink RX8 191 yX8_wanted) :: (.instanceMethod yX8_wanted) :: (.selects RX8 yX8_wanted yX8_wanted) :: (.initialized RX8) :: (.code yX8_wanted cX8_wanted 2 (some .int)) :: (.fieldLink RX8 47 "TheLiningsInItModel" "held" "[I") :: (.methodLink RX8 93 yX8_isShelf) :: (.instanceMethod yX8_isShelf) :: (.selects RX8 yX8_isShelf yX8_isShelf) :: (.code yX8_isShelf cX8_isShelf 2 (some .boolean)) :: (.methodLink RX8 238 yX8_intAt) :: (.instanceMethod yX8_intAt) :: (.selects RX8 yX8_intAt yX8_intAt) :: (.code yX8_intAt cX8_intAt 3 (some .int)) :: (.fieldLink RX8 59 "TheLiningsInItModel" "cells" "[J") :: wsX80
def wsX8_freedBy : List Cond := (.code yX8_freedBy cX8_freedBy 5 (some .int)) :: (.methodLink RX8 238 yX8_intAt) :: (.instanceMethod yX8_intAt) :: (.selects RX8 yX8_intAt yX8_intAt) :: (.initialized RX8) :: (.code yX8_intAt cX8_intAt 3 (some .int)) :: (.fieldLink RX8 59 "TheLiningsInItModel" "cells" "[J") :: (.methodLink RX8 107 yX8_ways) :: (.instanceMethod yX8_ways) :: (.selects RX8 yX8_ways yX8_ways) :: (.code yX8_ways cX8_ways 4 (some .int)) :: (.fieldLink RX8 29 "TheLiningsInItModel" "kind" "[I") :: (.fieldLink RX8 32 "TheLiningsInItModel" "part" "[I") :: (.fieldLink RX8 135 "TheLiningsInItModel" "hurry" "I") :: wsX80
def wsX8_freed_r1 : List Cond := (Cond.methodLink RX8 93 yX8_isShelf) :: (Cond.instanceMethod yX8_isShelf) :: (Cond.selects RX8 yX8_isShelf yX8_isShelf) :: (Cond.initialized RX8) :: (Cond.code yX8_isShelf cX8_isShelf 2 (some .boolean)) :: (Cond.methodLink RX8 101 yX8_isPull) :: (Cond.instanceMethod yX8_isPull) :: (Cond.selects RX8 yX8_isPull yX8_isPull) :: (Cond.code yX8_isPull cX8_isPull 2 (some .boolean)) :: (Cond.fieldLink RX8 90 "TheLiningsInItModel" "pulls" "I") :: (Cond.methodLink RX8 241 yX8_barsOf) :: (Cond.instanceMethod yX8_barsOf) :: (Cond.selects RX8 yX8_barsOf yX8_barsOf) :: (Cond.code yX8_barsOf cX8_barsOf 4 (some .int)) :: (Cond.fieldLink RX8 53 "TheLiningsInItModel" "size" "[I") :: (Cond.methodLink RX8 191 yX8_wanted) :: (Cond.instanceMethod yX8_wanted) :: (Cond.selects RX8 yX8_wanted yX8_wanted) :: (Cond.code yX8_wanted cX8_wanted 2 (some .int)) :: (Cond.fieldLink RX8 47 "TheLiningsInItModel" "held" "[I") :: (Cond.methodLink RX8 238 yX8_intAt) :: (Cond.instanceMethod yX8_intAt) :: (Cond.selects RX8 yX8_intAt yX8_intAt) :: (Cond.code yX8_intAt cX8_intAt 3 (some .int)) :: []
def wsX8_freed_r2 : List Cond := (Cond.fieldLink RX8 59 "TheLiningsInItModel" "cells" "[J") :: (Cond.methodLink RX8 97 yX8_no) :: (Cond.instanceMethod yX8_no) :: (Cond.selects RX8 yX8_no yX8_no) :: (Cond.code yX8_no cX8_no 2 (some .int)) :: (Cond.fieldLink RX8 25 "TheLiningsInItModel" "refused" "[I") :: (Cond.methodLink RX8 244 yX8_freedBy) :: (Cond.instanceMethod yX8_freedBy) :: (Cond.selects RX8 yX8_freedBy yX8_freedBy) :: (Cond.code yX8_freedBy cX8_freedBy 5 (some .int)) :: (Cond.methodLink RX8 107 yX8_ways) :: (Cond.instanceMethod yX8_ways) :: (Cond.selects RX8 yX8_ways yX8_ways) :: (Cond.code yX8_ways cX8_ways 4 (some .int)) :: (Cond.fieldLink RX8 29 "TheLiningsInItModel" "kind" "[I") :: (Cond.fieldLink RX8 32 "TheLiningsInItModel" "part" "[I") :: (Cond.fieldLink RX8 135 "TheLiningsInItModel" "hurry" "I") :: []
def wsX8_freed : List Cond := (.code yX8_freed cX8_freed 4 (some .int)) :: ((wsX8_freed_r1 ++ wsX8_freed_r2) ++ wsX80)
def wsX8_best_r1 : List Cond := (Cond.fieldLink RX8 90 "TheLiningsInItModel" "pulls" "I") :: (Cond.methodLink RX8 241 yX8_barsOf) :: (Cond.instanceMethod yX8_barsOf) :: (Cond.selects RX8 yX8_barsOf yX8_barsOf) :: (Cond.initialized RX8) :: (Cond.code yX8_barsOf cX8_barsOf 4 (some .int)) :: (Cond.fieldLink RX8 53 "TheLiningsInItModel" "size" "[I") :: (Cond.methodLink RX8 191 yX8_wanted) :: (Cond.instanceMethod yX8_wanted) :: (Cond.selects RX8 yX8_wanted yX8_wanted) :: (Cond.code yX8_wanted cX8_wanted 2 (some .int)) :: (Cond.fieldLink RX8 47 "TheLiningsInItModel" "held" "[I") :: (Cond.methodLink RX8 93 yX8_isShelf) :: (Cond.instanceMethod yX8_isShelf) :: (Cond.selects RX8 yX8_isShelf yX8_isShelf) :: (Cond.code yX8_isShelf cX8_isShelf 2 (some .boolean)) :: (Cond.methodLink RX8 238 yX8_intAt) :: (Cond.instanceMethod yX8_intAt) :: (Cond.selects RX8 yX8_intAt yX8_intAt) :: (Cond.code yX8_intAt cX8_intAt 3 (some .int)) :: (Cond.fieldLink RX8 59 "TheLiningsInItModel" "cells" "[J") :: (Cond.methodLink RX8 216 yX8_noTen) :: (Cond.instanceMethod yX8_noTen) :: (Cond.selects RX8 yX8_noTen yX8_noTen) :: []
def wsX8_best_r2 : List Cond := (Cond.code yX8_noTen cX8_noTen 2 (some .int)) :: (Cond.fieldLink RX8 25 "TheLiningsInItModel" "refused" "[I") :: (Cond.methodLink RX8 244 yX8_freedBy) :: (Cond.instanceMethod yX8_freedBy) :: (Cond.selects RX8 yX8_freedBy yX8_freedBy) :: (Cond.code yX8_freedBy cX8_freedBy 5 (some .int)) :: (Cond.methodLink RX8 107 yX8_ways) :: (Cond.instanceMethod yX8_ways) :: (Cond.selects RX8 yX8_ways yX8_ways) :: (Cond.code yX8_ways cX8_ways 4 (some .int)) :: (Cond.fieldLink RX8 29 "TheLiningsInItModel" "kind" "[I") :: (Cond.fieldLink RX8 32 "TheLiningsInItModel" "part" "[I") :: (Cond.fieldLink RX8 135 "TheLiningsInItModel" "hurry" "I") :: []
def wsX8_best : List Cond := (.code yX8_best cX8_best 5 (some .int)) :: ((wsX8_best_r1 ++ wsX8_best_r2) ++ wsX80)
def wsX8_behind_r1 : List Cond := (Cond.methodLink RX8 93 yX8_isShelf) :: (Cond.instanceMethod yX8_isShelf) :: (Cond.selects RX8 yX8_isShelf yX8_isShelf) :: (Cond.initialized RX8) :: (Cond.code yX8_isShelf cX8_isShelf 2 (some .boolean)) :: (Cond.methodLink RX8 101 yX8_isPull) :: (Cond.instanceMethod yX8_isPull) :: (Cond.selects RX8 yX8_isPull yX8_isPull) :: (Cond.code yX8_isPull cX8_isPull 2 (some .boolean)) :: (Cond.fieldLink RX8 90 "TheLiningsInItModel" "pulls" "I") :: (Cond.methodLink RX8 241 yX8_barsOf) :: (Cond.instanceMethod yX8_barsOf) :: (Cond.selects RX8 yX8_barsOf yX8_barsOf) :: (Cond.code yX8_barsOf cX8_barsOf 4 (some .int)) :: (Cond.fieldLink RX8 53 "TheLiningsInItModel" "size" "[I") :: (Cond.methodLink RX8 191 yX8_wanted) :: (Cond.instanceMethod yX8_wanted) :: (Cond.selects RX8 yX8_wanted yX8_wanted) :: (Cond.code yX8_wanted cX8_wanted 2 (some .int)) :: (Cond.fieldLink RX8 47 "TheLiningsInItModel" "held" "[I") :: (Cond.methodLink RX8 238 yX8_intAt) :: (Cond.instanceMethod yX8_intAt) :: (Cond.selects RX8 yX8_intAt yX8_intAt) :: (Cond.code yX8_intAt cX8_intAt 3 (some .int)) :: []
def wsX8_behind_r2 : List Cond := (Cond.fieldLink RX8 59 "TheLiningsInItModel" "cells" "[J") :: (Cond.methodLink RX8 97 yX8_no) :: (Cond.instanceMethod yX8_no) :: (Cond.selects RX8 yX8_no yX8_no) :: (Cond.code yX8_no cX8_no 2 (some .int)) :: (Cond.fieldLink RX8 25 "TheLiningsInItModel" "refused" "[I") :: (Cond.methodLink RX8 107 yX8_ways) :: (Cond.instanceMethod yX8_ways) :: (Cond.selects RX8 yX8_ways yX8_ways) :: (Cond.code yX8_ways cX8_ways 4 (some .int)) :: (Cond.fieldLink RX8 29 "TheLiningsInItModel" "kind" "[I") :: (Cond.fieldLink RX8 32 "TheLiningsInItModel" "part" "[I") :: (Cond.fieldLink RX8 135 "TheLiningsInItModel" "hurry" "I") :: (Cond.methodLink RX8 201 yX8_deep) :: (Cond.instanceMethod yX8_deep) :: (Cond.selects RX8 yX8_deep yX8_deep) :: (Cond.code yX8_deep cX8_deep 5 (some .int)) :: (Cond.methodLink RX8 104 yX8_step) :: (Cond.instanceMethod yX8_step) :: (Cond.selects RX8 yX8_step yX8_step) :: (Cond.code yX8_step cX8_step 2 (some .int)) :: []
def wsX8_behind : List Cond := (.code yX8_behind cX8_behind 8 (some .int)) :: ((wsX8_behind_r1 ++ wsX8_behind_r2) ++ wsX80)
def wsX8_isOpen : List Cond := (.code yX8_isOpen cX8_isOpen 2 (some .boolean)) :: (.fieldLink RX8 7 "TheLiningsInItModel" "teeth" "I") :: (.fieldLink RX8 38 "TheLiningsInItModel" "lacks" "[I") :: wsX80
def wsX8_doesHold : List Cond := (.code yX8_doesHold cX8_doesHold 2 (some .boolean)) :: (.fieldLink RX8 7 "TheLiningsInItModel" "teeth" "I") :: (.methodLink RX8 247 yX8_isOpen) :: (.instanceMethod yX8_isOpen) :: (.selects RX8 yX8_isOpen yX8_isOpen) :: (.initialized RX8) :: (.code yX8_isOpen cX8_isOpen 2 (some .boolean)) :: (.fieldLink RX8 38 "TheLiningsInItModel" "lacks" "[I") :: wsX80
def wsX8_frail : List Cond := (.code yX8_frail cX8_frail 3 (some .int)) :: (.fieldLink RX8 7 "TheLiningsInItModel" "teeth" "I") :: (.fieldLink RX8 38 "TheLiningsInItModel" "lacks" "[I") :: (.methodLink RX8 250 yX8_doesHold) :: (.instanceMethod yX8_doesHold) :: (.selects RX8 yX8_doesHold yX8_doesHold) :: (.initialized RX8) :: (.code yX8_doesHold cX8_doesHold 2 (some .boolean)) :: (.methodLink RX8 247 yX8_isOpen) :: (.instanceMethod yX8_isOpen) :: (.selects RX8 yX8_isOpen yX8_isOpen) :: (.code yX8_isOpen cX8_isOpen 2 (some .boolean)) :: wsX80
def wsX8_greatest : List Cond := (.code yX8_greatest cX8_greatest 2 (some .int)) :: (.fieldLink RX8 81 "TheLiningsInItModel" "may" "[I") :: wsX80
def wsX8_spare : List Cond := (.code yX8_spare cX8_spare 4 (some .int)) :: (.fieldLink RX8 81 "TheLiningsInItModel" "may" "[I") :: (.fieldLink RX8 7 "TheLiningsInItModel" "teeth" "I") :: (.fieldLink RX8 38 "TheLiningsInItModel" "lacks" "[I") :: (.fieldLink RX8 84 "TheLiningsInItModel" "then" "[I") :: (.methodLink RX8 250 yX8_doesHold) :: (.instanceMethod yX8_doesHold) :: (.selects RX8 yX8_doesHold yX8_doesHold) :: (.initialized RX8) :: (.code yX8_doesHold cX8_doesHold 2 (some .boolean)) :: (.methodLink RX8 247 yX8_isOpen) :: (.instanceMethod yX8_isOpen) :: (.selects RX8 yX8_isOpen yX8_isOpen) :: (.code yX8_isOpen cX8_isOpen 2 (some .boolean)) :: (.methodLink RX8 253 yX8_greatest) :: (.instanceMethod yX8_greatest) :: (.selects RX8 yX8_greatest yX8_greatest) :: (.code yX8_greatest cX8_greatest 2 (some .int)) :: wsX80
def wsX8_lacking : List Cond := (.code yX8_lacking cX8_lacking 3 (some .int)) :: (.fieldLink RX8 7 "TheLiningsInItModel" "teeth" "I") :: (.fieldLink RX8 38 "TheLiningsInItModel" "lacks" "[I") :: wsX80
def wsX8_strong_r1 : List Cond := (Cond.methodLink RX8 250 yX8_doesHold) :: (Cond.instanceMethod yX8_doesHold) :: (Cond.selects RX8 yX8_doesHold yX8_doesHold) :: (Cond.initialized RX8) :: (Cond.code yX8_doesHold cX8_doesHold 2 (some .boolean)) :: (Cond.fieldLink RX8 7 "TheLiningsInItModel" "teeth" "I") :: (Cond.methodLink RX8 247 yX8_isOpen) :: (Cond.instanceMethod yX8_isOpen) :: (Cond.selects RX8 yX8_isOpen yX8_isOpen) :: (Cond.code yX8_isOpen cX8_isOpen 2 (some .boolean)) :: (Cond.fieldLink RX8 38 "TheLiningsInItModel" "lacks" "[I") :: (Cond.methodLink RX8 256 yX8_frail) :: (Cond.instanceMethod yX8_frail) :: (Cond.selects RX8 yX8_frail yX8_frail) :: (Cond.code yX8_frail cX8_frail 3 (some .int)) :: (Cond.methodLink RX8 259 yX8_spare) :: (Cond.instanceMethod yX8_spare) :: (Cond.selects RX8 yX8_spare yX8_spare) :: (Cond.code yX8_spare cX8_spare 4 (some .int)) :: (Cond.fieldLink RX8 81 "TheLiningsInItModel" "may" "[I") :: (Cond.fieldLink RX8 84 "TheLiningsInItModel" "then" "[I") :: (Cond.methodLink RX8 253 yX8_greatest) :: (Cond.instanceMethod yX8_greatest) :: (Cond.selects RX8 yX8_greatest yX8_greatest) :: []
def wsX8_strong_r2 : List Cond := (Cond.code yX8_greatest cX8_greatest 2 (some .int)) :: (Cond.methodLink RX8 262 yX8_lacking) :: (Cond.instanceMethod yX8_lacking) :: (Cond.selects RX8 yX8_lacking yX8_lacking) :: (Cond.code yX8_lacking cX8_lacking 3 (some .int)) :: (Cond.methodLink RX8 97 yX8_no) :: (Cond.instanceMethod yX8_no) :: (Cond.selects RX8 yX8_no yX8_no) :: (Cond.code yX8_no cX8_no 2 (some .int)) :: (Cond.fieldLink RX8 25 "TheLiningsInItModel" "refused" "[I") :: []
def wsX8_strong : List Cond := (.code yX8_strong cX8_strong 2 (some .int)) :: ((wsX8_strong_r1 ++ wsX8_strong_r2) ++ wsX80)
def wsX8_doesCatch : List Cond := (.code yX8_doesCatch cX8_doesCatch 2 (some .boolean)) :: (.fieldLink RX8 38 "TheLiningsInItModel" "lacks" "[I") :: (.fieldLink RX8 41 "TheLiningsInItModel" "slack" "[I") :: (.fieldLink RX8 16 "TheLiningsInItModel" "gap" "I") :: wsX80
def wsX8_catches : List Cond := (.code yX8_catches cX8_catches 4 (some .int)) :: (.fieldLink RX8 7 "TheLiningsInItModel" "teeth" "I") :: (.methodLink RX8 97 yX8_no) :: (.instanceMethod yX8_no) :: (.selects RX8 yX8_no yX8_no) :: (.initialized RX8) :: (.code yX8_no cX8_no 2 (some .int)) :: (.fieldLink RX8 25 "TheLiningsInItModel" "refused" "[I") :: (.methodLink RX8 265 yX8_doesCatch) :: (.instanceMethod yX8_doesCatch) :: (.selects RX8 yX8_doesCatch yX8_doesCatch) :: (.code yX8_doesCatch cX8_doesCatch 2 (some .boolean)) :: (.fieldLink RX8 38 "TheLiningsInItModel" "lacks" "[I") :: (.fieldLink RX8 41 "TheLiningsInItModel" "slack" "[I") :: (.fieldLink RX8 16 "TheLiningsInItModel" "gap" "I") :: wsX80
def wsX8_stitches : List Cond := (.code yX8_stitches cX8_stitches 4 (some .int)) :: (.fieldLink RX8 7 "TheLiningsInItModel" "teeth" "I") :: (.methodLink RX8 97 yX8_no) :: (.instanceMethod yX8_no) :: (.selects RX8 yX8_no yX8_no) :: (.initialized RX8) :: (.code yX8_no cX8_no 2 (some .int)) :: (.fieldLink RX8 25 "TheLiningsInItModel" "refused" "[I") :: (.methodLink RX8 265 yX8_doesCatch) :: (.instanceMethod yX8_doesCatch) :: (.selects RX8 yX8_doesCatch yX8_doesCatch) :: (.code yX8_doesCatch cX8_doesCatch 2 (some .boolean)) :: (.fieldLink RX8 38 "TheLiningsInItModel" "lacks" "[I") :: (.fieldLink RX8 41 "TheLiningsInItModel" "slack" "[I") :: (.fieldLink RX8 16 "TheLiningsInItModel" "gap" "I") :: wsX80
def wsX8_judge_r1 : List Cond := (Cond.fieldLink RX8 53 "TheLiningsInItModel" "size" "[I") :: (Cond.fieldLink RX8 115 "TheLiningsInItModel" "depth" "I") :: (Cond.fieldLink RX8 13 "TheLiningsInItModel" "seconds" "I") :: (Cond.fieldLink RX8 35 "TheLiningsInItModel" "takes" "[I") :: (Cond.methodLink RX8 191 yX8_wanted) :: (Cond.instanceMethod yX8_wanted) :: (Cond.selects RX8 yX8_wanted yX8_wanted) :: (Cond.initialized RX8) :: (Cond.code yX8_wanted cX8_wanted 2 (some .int)) :: (Cond.fieldLink RX8 47 "TheLiningsInItModel" "held" "[I") :: (Cond.methodLink RX8 93 yX8_isShelf) :: (Cond.instanceMethod yX8_isShelf) :: (Cond.selects RX8 yX8_isShelf yX8_isShelf) :: (Cond.code yX8_isShelf cX8_isShelf 2 (some .boolean)) :: (Cond.methodLink RX8 216 yX8_noTen) :: (Cond.instanceMethod yX8_noTen) :: (Cond.selects RX8 yX8_noTen yX8_noTen) :: (Cond.code yX8_noTen cX8_noTen 2 (some .int)) :: (Cond.fieldLink RX8 25 "TheLiningsInItModel" "refused" "[I") :: (Cond.methodLink RX8 238 yX8_intAt) :: (Cond.instanceMethod yX8_intAt) :: (Cond.selects RX8 yX8_intAt yX8_intAt) :: (Cond.code yX8_intAt cX8_intAt 3 (some .int)) :: (Cond.fieldLink RX8 59 "TheLiningsInItModel" "cells" "[J") :: []
def wsX8_judge_r2 : List Cond := (Cond.methodLink RX8 101 yX8_isPull) :: (Cond.instanceMethod yX8_isPull) :: (Cond.selects RX8 yX8_isPull yX8_isPull) :: (Cond.code yX8_isPull cX8_isPull 2 (some .boolean)) :: (Cond.fieldLink RX8 90 "TheLiningsInItModel" "pulls" "I") :: (Cond.methodLink RX8 118 yX8_mayBe) :: (Cond.instanceMethod yX8_mayBe) :: (Cond.selects RX8 yX8_mayBe yX8_mayBe) :: (Cond.code yX8_mayBe cX8_mayBe 4 (some .boolean)) :: (Cond.methodLink RX8 107 yX8_ways) :: (Cond.instanceMethod yX8_ways) :: (Cond.selects RX8 yX8_ways yX8_ways) :: (Cond.code yX8_ways cX8_ways 4 (some .int)) :: (Cond.fieldLink RX8 29 "TheLiningsInItModel" "kind" "[I") :: (Cond.fieldLink RX8 32 "TheLiningsInItModel" "part" "[I") :: (Cond.fieldLink RX8 135 "TheLiningsInItModel" "hurry" "I") :: (Cond.methodLink RX8 201 yX8_deep) :: (Cond.instanceMethod yX8_deep) :: (Cond.selects RX8 yX8_deep yX8_deep) :: (Cond.code yX8_deep cX8_deep 5 (some .int)) :: (Cond.methodLink RX8 104 yX8_step) :: (Cond.instanceMethod yX8_step) :: (Cond.selects RX8 yX8_step yX8_step) :: (Cond.code yX8_step cX8_step 2 (some .int)) :: []
def wsX8_judge : List Cond := (.code yX8_judge cX8_judge 8 (some .int)) :: ((wsX8_judge_r1 ++ wsX8_judge_r2) ++ wsX80)
def wsX8_mayMake : List Cond := (.code yX8_mayMake cX8_mayMake 5 (some .boolean)) :: (.methodLink RX8 107 yX8_ways) :: (.instanceMethod yX8_ways) :: (.selects RX8 yX8_ways yX8_ways) :: (.initialized RX8) :: (.code yX8_ways cX8_ways 4 (some .int)) :: (.fieldLink RX8 29 "TheLiningsInItModel" "kind" "[I") :: (.fieldLink RX8 32 "TheLiningsInItModel" "part" "[I") :: (.fieldLink RX8 135 "TheLiningsInItModel" "hurry" "I") :: (.methodLink RX8 201 yX8_deep) :: (.instanceMethod yX8_deep) :: (.selects RX8 yX8_deep yX8_deep) :: (.code yX8_deep cX8_deep 5 (some .int)) :: (.methodLink RX8 104 yX8_step) :: (.instanceMethod yX8_step) :: (.selects RX8 yX8_step yX8_step) :: (.code yX8_step cX8_step 2 (some .int)) :: wsX80
def wsX8_meant_r1 : List Cond := (Cond.fieldLink RX8 53 "TheLiningsInItModel" "size" "[I") :: (Cond.fieldLink RX8 115 "TheLiningsInItModel" "depth" "I") :: (Cond.fieldLink RX8 90 "TheLiningsInItModel" "pulls" "I") :: (Cond.constant RX8 271 (1000000)) :: (Cond.methodLink RX8 191 yX8_wanted) :: (Cond.instanceMethod yX8_wanted) :: (Cond.selects RX8 yX8_wanted yX8_wanted) :: (Cond.initialized RX8) :: (Cond.code yX8_wanted cX8_wanted 2 (some .int)) :: (Cond.fieldLink RX8 47 "TheLiningsInItModel" "held" "[I") :: (Cond.methodLink RX8 93 yX8_isShelf) :: (Cond.instanceMethod yX8_isShelf) :: (Cond.selects RX8 yX8_isShelf yX8_isShelf) :: (Cond.code yX8_isShelf cX8_isShelf 2 (some .boolean)) :: (Cond.methodLink RX8 238 yX8_intAt) :: (Cond.instanceMethod yX8_intAt) :: (Cond.selects RX8 yX8_intAt yX8_intAt) :: (Cond.code yX8_intAt cX8_intAt 3 (some .int)) :: (Cond.fieldLink RX8 59 "TheLiningsInItModel" "cells" "[J") :: (Cond.methodLink RX8 97 yX8_no) :: (Cond.instanceMethod yX8_no) :: (Cond.selects RX8 yX8_no yX8_no) :: (Cond.code yX8_no cX8_no 2 (some .int)) :: (Cond.fieldLink RX8 25 "TheLiningsInItModel" "refused" "[I") :: []
def wsX8_meant_r2 : List Cond := (Cond.methodLink RX8 268 yX8_mayMake) :: (Cond.instanceMethod yX8_mayMake) :: (Cond.selects RX8 yX8_mayMake yX8_mayMake) :: (Cond.code yX8_mayMake cX8_mayMake 5 (some .boolean)) :: (Cond.methodLink RX8 107 yX8_ways) :: (Cond.instanceMethod yX8_ways) :: (Cond.selects RX8 yX8_ways yX8_ways) :: (Cond.code yX8_ways cX8_ways 4 (some .int)) :: (Cond.fieldLink RX8 29 "TheLiningsInItModel" "kind" "[I") :: (Cond.fieldLink RX8 32 "TheLiningsInItModel" "part" "[I") :: (Cond.fieldLink RX8 135 "TheLiningsInItModel" "hurry" "I") :: (Cond.methodLink RX8 201 yX8_deep) :: (Cond.instanceMethod yX8_deep) :: (Cond.selects RX8 yX8_deep yX8_deep) :: (Cond.code yX8_deep cX8_deep 5 (some .int)) :: (Cond.methodLink RX8 104 yX8_step) :: (Cond.instanceMethod yX8_step) :: (Cond.selects RX8 yX8_step yX8_step) :: (Cond.code yX8_step cX8_step 2 (some .int)) :: []
def wsX8_meant : List Cond := (.code yX8_meant cX8_meant 12 (some .int)) :: ((wsX8_meant_r1 ++ wsX8_meant_r2) ++ wsX80)
def wsX8_closed : List Cond := (.code yX8_closed cX8_closed 2 (some .int)) :: (.fieldLink RX8 122 "TheLiningsInItModel" "at" "I") :: (.fieldLink RX8 7 "TheLiningsInItModel" "teeth" "I") :: (.methodLink RX8 265 yX8_doesCatch) :: (.instanceMethod yX8_doesCatch) :: (.selects RX8 yX8_doesCatch yX8_doesCatch) :: (.initialized RX8) :: (.code yX8_doesCatch cX8_doesCatch 2 (some .boolean)) :: (.fieldLink RX8 38 "TheLiningsInItModel" "lacks" "[I") :: (.fieldLink RX8 41 "TheLiningsInItModel" "slack" "[I") :: (.fieldLink RX8 16 "TheLiningsInItModel" "gap" "I") :: (.methodLink RX8 247 yX8_isOpen) :: (.instanceMethod yX8_isOpen) :: (.selects RX8 yX8_isOpen yX8_isOpen) :: (.code yX8_isOpen cX8_isOpen 2 (some .boolean)) :: wsX80
def wsX8_draw : List Cond := (.code yX8_draw cX8_draw 2 (some .int)) :: (.fieldLink RX8 19 "TheLiningsInItModel" "seed" "I") :: (.constant RX8 272 (1103515245)) :: wsX80
def wsX8_makes_r1 : List Cond := (Cond.fieldLink RX8 115 "TheLiningsInItModel" "depth" "I") :: (Cond.fieldLink RX8 13 "TheLiningsInItModel" "seconds" "I") :: (Cond.fieldLink RX8 35 "TheLiningsInItModel" "takes" "[I") :: (Cond.fieldLink RX8 29 "TheLiningsInItModel" "kind" "[I") :: (Cond.fieldLink RX8 188 "TheLiningsInItModel" "torn" "I") :: (Cond.methodLink RX8 273 yX8_draw) :: (Cond.instanceMethod yX8_draw) :: (Cond.selects RX8 yX8_draw yX8_draw) :: (Cond.initialized RX8) :: (Cond.code yX8_draw cX8_draw 2 (some .int)) :: (Cond.fieldLink RX8 19 "TheLiningsInItModel" "seed" "I") :: (Cond.constant RX8 272 (1103515245)) :: (Cond.methodLink RX8 107 yX8_ways) :: (Cond.instanceMethod yX8_ways) :: (Cond.selects RX8 yX8_ways yX8_ways) :: (Cond.code yX8_ways cX8_ways 4 (some .int)) :: (Cond.fieldLink RX8 32 "TheLiningsInItModel" "part" "[I") :: (Cond.fieldLink RX8 135 "TheLiningsInItModel" "hurry" "I") :: (Cond.methodLink RX8 201 yX8_deep) :: (Cond.instanceMethod yX8_deep) :: (Cond.selects RX8 yX8_deep yX8_deep) :: (Cond.code yX8_deep cX8_deep 5 (some .int)) :: (Cond.methodLink RX8 104 yX8_step) :: (Cond.instanceMethod yX8_step) :: []
def wsX8_makes_r2 : List Cond := (Cond.selects RX8 yX8_step yX8_step) :: (Cond.code yX8_step cX8_step 2 (some .int)) :: []
def wsX8_makes : List Cond := (.code yX8_makes cX8_makes 3 none) :: ((wsX8_makes_r1 ++ wsX8_makes_r2) ++ wsX80)
def wsX8_pulls_r1 : List Cond := (Cond.fieldLink RX8 115 "TheLiningsInItModel" "depth" "I") :: (Cond.fieldLink RX8 13 "TheLiningsInItModel" "seconds" "I") :: (Cond.methodLink RX8 101 yX8_isPull) :: (Cond.instanceMethod yX8_isPull) :: (Cond.selects RX8 yX8_isPull yX8_isPull) :: (Cond.initialized RX8) :: (Cond.code yX8_isPull cX8_isPull 2 (some .boolean)) :: (Cond.fieldLink RX8 90 "TheLiningsInItModel" "pulls" "I") :: (Cond.methodLink RX8 97 yX8_no) :: (Cond.instanceMethod yX8_no) :: (Cond.selects RX8 yX8_no yX8_no) :: (Cond.code yX8_no cX8_no 2 (some .int)) :: (Cond.fieldLink RX8 25 "TheLiningsInItModel" "refused" "[I") :: (Cond.methodLink RX8 118 yX8_mayBe) :: (Cond.instanceMethod yX8_mayBe) :: (Cond.selects RX8 yX8_mayBe yX8_mayBe) :: (Cond.code yX8_mayBe cX8_mayBe 4 (some .boolean)) :: (Cond.fieldLink RX8 35 "TheLiningsInItModel" "takes" "[I") :: (Cond.methodLink RX8 276 yX8_makes) :: (Cond.instanceMethod yX8_makes) :: (Cond.selects RX8 yX8_makes yX8_makes) :: (Cond.code yX8_makes cX8_makes 3 none) :: (Cond.fieldLink RX8 29 "TheLiningsInItModel" "kind" "[I") :: (Cond.fieldLink RX8 188 "TheLiningsInItModel" "torn" "I") :: []
def wsX8_pulls_r2 : List Cond := (Cond.methodLink RX8 273 yX8_draw) :: (Cond.instanceMethod yX8_draw) :: (Cond.selects RX8 yX8_draw yX8_draw) :: (Cond.code yX8_draw cX8_draw 2 (some .int)) :: (Cond.fieldLink RX8 19 "TheLiningsInItModel" "seed" "I") :: (Cond.constant RX8 272 (1103515245)) :: (Cond.methodLink RX8 107 yX8_ways) :: (Cond.instanceMethod yX8_ways) :: (Cond.selects RX8 yX8_ways yX8_ways) :: (Cond.code yX8_ways cX8_ways 4 (some .int)) :: (Cond.fieldLink RX8 32 "TheLiningsInItModel" "part" "[I") :: (Cond.fieldLink RX8 135 "TheLiningsInItModel" "hurry" "I") :: (Cond.methodLink RX8 201 yX8_deep) :: (Cond.instanceMethod yX8_deep) :: (Cond.selects RX8 yX8_deep yX8_deep) :: (Cond.code yX8_deep cX8_deep 5 (some .int)) :: (Cond.methodLink RX8 104 yX8_step) :: (Cond.instanceMethod yX8_step) :: (Cond.selects RX8 yX8_step yX8_step) :: (Cond.code yX8_step cX8_step 2 (some .int)) :: []
def wsX8_pulls : List Cond := (.code yX8_pulls cX8_pulls 2 (some .int)) :: ((wsX8_pulls_r1 ++ wsX8_pulls_r2) ++ wsX80)
def wsX8_closes : List Cond := (.code yX8_closes cX8_closes 1 none) :: (.fieldLink RX8 122 "TheLiningsInItModel" "at" "I") :: (.fieldLink RX8 7 "TheLiningsInItModel" "teeth" "I") :: (.fieldLink RX8 41 "TheLiningsInItModel" "slack" "[I") :: (.fieldLink RX8 16 "TheLiningsInItModel" "gap" "I") :: (.fieldLink RX8 115 "TheLiningsInItModel" "depth" "I") :: (.methodLink RX8 247 yX8_isOpen) :: (.instanceMethod yX8_isOpen) :: (.selects RX8 yX8_isOpen yX8_isOpen) :: (.initialized RX8) :: (.code yX8_isOpen cX8_isOpen 2 (some .boolean)) :: (.fieldLink RX8 38 "TheLiningsInItModel" "lacks" "[I") :: (.methodLink RX8 265 yX8_doesCatch) :: (.instanceMethod yX8_doesCatch) :: (.selects RX8 yX8_doesCatch yX8_doesCatch) :: (.code yX8_doesCatch cX8_doesCatch 2 (some .boolean)) :: (.methodLink RX8 273 yX8_draw) :: (.instanceMethod yX8_draw) :: (.selects RX8 yX8_draw yX8_draw) :: (.code yX8_draw cX8_draw 2 (some .int)) :: (.fieldLink RX8 19 "TheLiningsInItModel" "seed" "I") :: (.constant RX8 272 (1103515245)) :: wsX80
def wsX8_close_r1 : List Cond := (Cond.fieldLink RX8 115 "TheLiningsInItModel" "depth" "I") :: (Cond.fieldLink RX8 122 "TheLiningsInItModel" "at" "I") :: (Cond.methodLink RX8 97 yX8_no) :: (Cond.instanceMethod yX8_no) :: (Cond.selects RX8 yX8_no yX8_no) :: (Cond.initialized RX8) :: (Cond.code yX8_no cX8_no 2 (some .int)) :: (Cond.fieldLink RX8 25 "TheLiningsInItModel" "refused" "[I") :: (Cond.methodLink RX8 279 yX8_closes) :: (Cond.instanceMethod yX8_closes) :: (Cond.selects RX8 yX8_closes yX8_closes) :: (Cond.code yX8_closes cX8_closes 1 none) :: (Cond.fieldLink RX8 7 "TheLiningsInItModel" "teeth" "I") :: (Cond.fieldLink RX8 41 "TheLiningsInItModel" "slack" "[I") :: (Cond.fieldLink RX8 16 "TheLiningsInItModel" "gap" "I") :: (Cond.methodLink RX8 247 yX8_isOpen) :: (Cond.instanceMethod yX8_isOpen) :: (Cond.selects RX8 yX8_isOpen yX8_isOpen) :: (Cond.code yX8_isOpen cX8_isOpen 2 (some .boolean)) :: (Cond.fieldLink RX8 38 "TheLiningsInItModel" "lacks" "[I") :: (Cond.methodLink RX8 265 yX8_doesCatch) :: (Cond.instanceMethod yX8_doesCatch) :: (Cond.selects RX8 yX8_doesCatch yX8_doesCatch) :: (Cond.code yX8_doesCatch cX8_doesCatch 2 (some .boolean)) :: []
def wsX8_close_r2 : List Cond := (Cond.methodLink RX8 273 yX8_draw) :: (Cond.instanceMethod yX8_draw) :: (Cond.selects RX8 yX8_draw yX8_draw) :: (Cond.code yX8_draw cX8_draw 2 (some .int)) :: (Cond.fieldLink RX8 19 "TheLiningsInItModel" "seed" "I") :: (Cond.constant RX8 272 (1103515245)) :: []
def wsX8_close : List Cond := (.code yX8_close cX8_close 1 (some .int)) :: ((wsX8_close_r1 ++ wsX8_close_r2) ++ wsX80)
def wsX8_dayIn_r1 : List Cond := (Cond.fieldLink RX8 122 "TheLiningsInItModel" "at" "I") :: (Cond.fieldLink RX8 115 "TheLiningsInItModel" "depth" "I") :: (Cond.fieldLink RX8 13 "TheLiningsInItModel" "seconds" "I") :: (Cond.fieldLink RX8 7 "TheLiningsInItModel" "teeth" "I") :: (Cond.methodLink RX8 279 yX8_closes) :: (Cond.instanceMethod yX8_closes) :: (Cond.selects RX8 yX8_closes yX8_closes) :: (Cond.initialized RX8) :: (Cond.code yX8_closes cX8_closes 1 none) :: (Cond.fieldLink RX8 41 "TheLiningsInItModel" "slack" "[I") :: (Cond.fieldLink RX8 16 "TheLiningsInItModel" "gap" "I") :: (Cond.methodLink RX8 247 yX8_isOpen) :: (Cond.instanceMethod yX8_isOpen) :: (Cond.selects RX8 yX8_isOpen yX8_isOpen) :: (Cond.code yX8_isOpen cX8_isOpen 2 (some .boolean)) :: (Cond.fieldLink RX8 38 "TheLiningsInItModel" "lacks" "[I") :: (Cond.methodLink RX8 265 yX8_doesCatch) :: (Cond.instanceMethod yX8_doesCatch) :: (Cond.selects RX8 yX8_doesCatch yX8_doesCatch) :: (Cond.code yX8_doesCatch cX8_doesCatch 2 (some .boolean)) :: (Cond.methodLink RX8 273 yX8_draw) :: (Cond.instanceMethod yX8_draw) :: (Cond.selects RX8 yX8_draw yX8_draw) :: (Cond.code yX8_draw cX8_draw 2 (some .int)) :: []
def wsX8_dayIn_r2 : List Cond := (Cond.fieldLink RX8 19 "TheLiningsInItModel" "seed" "I") :: (Cond.constant RX8 272 (1103515245)) :: (Cond.methodLink RX8 222 yX8_nextOf) :: (Cond.instanceMethod yX8_nextOf) :: (Cond.selects RX8 yX8_nextOf yX8_nextOf) :: (Cond.code yX8_nextOf cX8_nextOf 6 (some .int)) :: (Cond.fieldLink RX8 90 "TheLiningsInItModel" "pulls" "I") :: (Cond.methodLink RX8 118 yX8_mayBe) :: (Cond.instanceMethod yX8_mayBe) :: (Cond.selects RX8 yX8_mayBe yX8_mayBe) :: (Cond.code yX8_mayBe cX8_mayBe 4 (some .boolean)) :: (Cond.fieldLink RX8 35 "TheLiningsInItModel" "takes" "[I") :: (Cond.methodLink RX8 212 yX8_casesBy) :: (Cond.instanceMethod yX8_casesBy) :: (Cond.selects RX8 yX8_casesBy yX8_casesBy) :: (Cond.code yX8_casesBy cX8_casesBy 8 (some .int)) :: (Cond.methodLink RX8 107 yX8_ways) :: (Cond.instanceMethod yX8_ways) :: (Cond.selects RX8 yX8_ways yX8_ways) :: (Cond.code yX8_ways cX8_ways 4 (some .int)) :: (Cond.fieldLink RX8 29 "TheLiningsInItModel" "kind" "[I") :: (Cond.fieldLink RX8 32 "TheLiningsInItModel" "part" "[I") :: (Cond.fieldLink RX8 135 "TheLiningsInItModel" "hurry" "I") :: (Cond.methodLink RX8 201 yX8_deep) :: []
def wsX8_dayIn_r3 : List Cond := (Cond.instanceMethod yX8_deep) :: (Cond.selects RX8 yX8_deep yX8_deep) :: (Cond.code yX8_deep cX8_deep 5 (some .int)) :: (Cond.methodLink RX8 104 yX8_step) :: (Cond.instanceMethod yX8_step) :: (Cond.selects RX8 yX8_step yX8_step) :: (Cond.code yX8_step cX8_step 2 (some .int)) :: (Cond.methodLink RX8 208 yX8_mostCases) :: (Cond.instanceMethod yX8_mostCases) :: (Cond.selects RX8 yX8_mostCases yX8_mostCases) :: (Cond.code yX8_mostCases cX8_mostCases 8 (some .int)) :: (Cond.methodLink RX8 205 yX8_power) :: (Cond.instanceMethod yX8_power) :: (Cond.selects RX8 yX8_power yX8_power) :: (Cond.code yX8_power cX8_power 2 (some .int)) :: (Cond.methodLink RX8 276 yX8_makes) :: (Cond.instanceMethod yX8_makes) :: (Cond.selects RX8 yX8_makes yX8_makes) :: (Cond.code yX8_makes cX8_makes 3 none) :: (Cond.fieldLink RX8 188 "TheLiningsInItModel" "torn" "I") :: []
def wsX8_dayIn : List Cond := (.code yX8_dayIn cX8_dayIn 3 (some .boolean)) :: ((wsX8_dayIn_r1 ++ (wsX8_dayIn_r2 ++ wsX8_dayIn_r3)) ++ wsX80)
def wsX8_winter_r1 : List Cond := (Cond.methodLink RX8 97 yX8_no) :: (Cond.instanceMethod yX8_no) :: (Cond.selects RX8 yX8_no yX8_no) :: (Cond.initialized RX8) :: (Cond.code yX8_no cX8_no 2 (some .int)) :: (Cond.fieldLink RX8 25 "TheLiningsInItModel" "refused" "[I") :: (Cond.methodLink RX8 282 yX8_dayIn) :: (Cond.instanceMethod yX8_dayIn) :: (Cond.selects RX8 yX8_dayIn yX8_dayIn) :: (Cond.code yX8_dayIn cX8_dayIn 3 (some .boolean)) :: (Cond.fieldLink RX8 122 "TheLiningsInItModel" "at" "I") :: (Cond.fieldLink RX8 115 "TheLiningsInItModel" "depth" "I") :: (Cond.fieldLink RX8 13 "TheLiningsInItModel" "seconds" "I") :: (Cond.fieldLink RX8 7 "TheLiningsInItModel" "teeth" "I") :: (Cond.methodLink RX8 279 yX8_closes) :: (Cond.instanceMethod yX8_closes) :: (Cond.selects RX8 yX8_closes yX8_closes) :: (Cond.code yX8_closes cX8_closes 1 none) :: (Cond.fieldLink RX8 41 "TheLiningsInItModel" "slack" "[I") :: (Cond.fieldLink RX8 16 "TheLiningsInItModel" "gap" "I") :: (Cond.methodLink RX8 247 yX8_isOpen) :: (Cond.instanceMethod yX8_isOpen) :: (Cond.selects RX8 yX8_isOpen yX8_isOpen) :: (Cond.code yX8_isOpen cX8_isOpen 2 (some .boolean)) :: []
def wsX8_winter_r2 : List Cond := (Cond.fieldLink RX8 38 "TheLiningsInItModel" "lacks" "[I") :: (Cond.methodLink RX8 265 yX8_doesCatch) :: (Cond.instanceMethod yX8_doesCatch) :: (Cond.selects RX8 yX8_doesCatch yX8_doesCatch) :: (Cond.code yX8_doesCatch cX8_doesCatch 2 (some .boolean)) :: (Cond.methodLink RX8 273 yX8_draw) :: (Cond.instanceMethod yX8_draw) :: (Cond.selects RX8 yX8_draw yX8_draw) :: (Cond.code yX8_draw cX8_draw 2 (some .int)) :: (Cond.fieldLink RX8 19 "TheLiningsInItModel" "seed" "I") :: (Cond.constant RX8 272 (1103515245)) :: (Cond.methodLink RX8 222 yX8_nextOf) :: (Cond.instanceMethod yX8_nextOf) :: (Cond.selects RX8 yX8_nextOf yX8_nextOf) :: (Cond.code yX8_nextOf cX8_nextOf 6 (some .int)) :: (Cond.fieldLink RX8 90 "TheLiningsInItModel" "pulls" "I") :: (Cond.methodLink RX8 118 yX8_mayBe) :: (Cond.instanceMethod yX8_mayBe) :: (Cond.selects RX8 yX8_mayBe yX8_mayBe) :: (Cond.code yX8_mayBe cX8_mayBe 4 (some .boolean)) :: (Cond.fieldLink RX8 35 "TheLiningsInItModel" "takes" "[I") :: (Cond.methodLink RX8 212 yX8_casesBy) :: (Cond.instanceMethod yX8_casesBy) :: (Cond.selects RX8 yX8_casesBy yX8_casesBy) :: []
def wsX8_winter_r3 : List Cond := (Cond.code yX8_casesBy cX8_casesBy 8 (some .int)) :: (Cond.methodLink RX8 107 yX8_ways) :: (Cond.instanceMethod yX8_ways) :: (Cond.selects RX8 yX8_ways yX8_ways) :: (Cond.code yX8_ways cX8_ways 4 (some .int)) :: (Cond.fieldLink RX8 29 "TheLiningsInItModel" "kind" "[I") :: (Cond.fieldLink RX8 32 "TheLiningsInItModel" "part" "[I") :: (Cond.fieldLink RX8 135 "TheLiningsInItModel" "hurry" "I") :: (Cond.methodLink RX8 201 yX8_deep) :: (Cond.instanceMethod yX8_deep) :: (Cond.selects RX8 yX8_deep yX8_deep) :: (Cond.code yX8_deep cX8_deep 5 (some .int)) :: (Cond.methodLink RX8 104 yX8_step) :: (Cond.instanceMethod yX8_step) :: (Cond.selects RX8 yX8_step yX8_step) :: (Cond.code yX8_step cX8_step 2 (some .int)) :: (Cond.methodLink RX8 208 yX8_mostCases) :: (Cond.instanceMethod yX8_mostCases) :: (Cond.selects RX8 yX8_mostCases yX8_mostCases) :: (Cond.code yX8_mostCases cX8_mostCases 8 (some .int)) :: (Cond.methodLink RX8 205 yX8_power) :: (Cond.instanceMethod yX8_power) :: (Cond.selects RX8 yX8_power yX8_power) :: (Cond.code yX8_power cX8_power 2 (some .int)) :: []
def wsX8_winter_r4 : List Cond := (Cond.methodLink RX8 276 yX8_makes) :: (Cond.instanceMethod yX8_makes) :: (Cond.selects RX8 yX8_makes yX8_makes) :: (Cond.code yX8_makes cX8_makes 3 none) :: (Cond.fieldLink RX8 188 "TheLiningsInItModel" "torn" "I") :: []
def wsX8_winter : List Cond := (.code yX8_winter cX8_winter 4 (some .int)) :: ((wsX8_winter_r1 ++ (wsX8_winter_r2 ++ (wsX8_winter_r3 ++ wsX8_winter_r4))) ++ wsX80)
def wsX8_stitch : List Cond := (.code yX8_stitch cX8_stitch 4 (some .int)) :: (.fieldLink RX8 41 "TheLiningsInItModel" "slack" "[I") :: (.methodLink RX8 129 yX8_isTooth) :: (.instanceMethod yX8_isTooth) :: (.selects RX8 yX8_isTooth yX8_isTooth) :: (.initialized RX8) :: (.code yX8_isTooth cX8_isTooth 2 (some .boolean)) :: (.fieldLink RX8 7 "TheLiningsInItModel" "teeth" "I") :: (.methodLink RX8 97 yX8_no) :: (.instanceMethod yX8_no) :: (.selects RX8 yX8_no yX8_no) :: (.code yX8_no cX8_no 2 (some .int)) :: (.fieldLink RX8 25 "TheLiningsInItModel" "refused" "[I") :: wsX80
def wsX8_seed : List Cond := (.code yX8_seed cX8_seed 3 (some .int)) :: (.fieldLink RX8 19 "TheLiningsInItModel" "seed" "I") :: wsX80
def wsX8_body : List Cond := (.code yX8_body cX8_body 2 none) :: (.fieldLink RX8 285 "TheLiningsInItModel" "ran" "I") :: (.fieldLink RX8 87 "TheLiningsInItModel" "trace" "[I") :: wsX80
def wsX8_pulling : List Cond := (.code yX8_pulling cX8_pulling 5 (some .int)) :: (.fieldLink RX8 29 "TheLiningsInItModel" "kind" "[I") :: (.fieldLink RX8 32 "TheLiningsInItModel" "part" "[I") :: (.methodLink RX8 288 yX8_body) :: (.instanceMethod yX8_body) :: (.selects RX8 yX8_body yX8_body) :: (.initialized RX8) :: (.code yX8_body cX8_body 2 none) :: (.fieldLink RX8 285 "TheLiningsInItModel" "ran" "I") :: (.fieldLink RX8 87 "TheLiningsInItModel" "trace" "[I") :: wsX80
def wsX8_freeing : List Cond := (.code yX8_freeing cX8_freeing 7 (some .int)) :: (.fieldLink RX8 29 "TheLiningsInItModel" "kind" "[I") :: (.fieldLink RX8 32 "TheLiningsInItModel" "part" "[I") :: (.methodLink RX8 288 yX8_body) :: (.instanceMethod yX8_body) :: (.selects RX8 yX8_body yX8_body) :: (.initialized RX8) :: (.code yX8_body cX8_body 2 none) :: (.fieldLink RX8 285 "TheLiningsInItModel" "ran" "I") :: (.fieldLink RX8 87 "TheLiningsInItModel" "trace" "[I") :: (.methodLink RX8 291 yX8_pulling) :: (.instanceMethod yX8_pulling) :: (.selects RX8 yX8_pulling yX8_pulling) :: (.code yX8_pulling cX8_pulling 5 (some .int)) :: wsX80
def wsX8_resting : List Cond := (.code yX8_resting cX8_resting 5 (some .int)) :: (.fieldLink RX8 29 "TheLiningsInItModel" "kind" "[I") :: (.fieldLink RX8 32 "TheLiningsInItModel" "part" "[I") :: (.methodLink RX8 288 yX8_body) :: (.instanceMethod yX8_body) :: (.selects RX8 yX8_body yX8_body) :: (.initialized RX8) :: (.code yX8_body cX8_body 2 none) :: (.fieldLink RX8 285 "TheLiningsInItModel" "ran" "I") :: (.fieldLink RX8 87 "TheLiningsInItModel" "trace" "[I") :: (.methodLink RX8 294 yX8_freeing) :: (.instanceMethod yX8_freeing) :: (.selects RX8 yX8_freeing yX8_freeing) :: (.code yX8_freeing cX8_freeing 7 (some .int)) :: (.methodLink RX8 291 yX8_pulling) :: (.instanceMethod yX8_pulling) :: (.selects RX8 yX8_pulling yX8_pulling) :: (.code yX8_pulling cX8_pulling 5 (some .int)) :: wsX80
def wsX8_act_r1 : List Cond := (Cond.fieldLink RX8 285 "TheLiningsInItModel" "ran" "I") :: (Cond.methodLink RX8 101 yX8_isPull) :: (Cond.instanceMethod yX8_isPull) :: (Cond.selects RX8 yX8_isPull yX8_isPull) :: (Cond.initialized RX8) :: (Cond.code yX8_isPull cX8_isPull 2 (some .boolean)) :: (Cond.fieldLink RX8 90 "TheLiningsInItModel" "pulls" "I") :: (Cond.methodLink RX8 291 yX8_pulling) :: (Cond.instanceMethod yX8_pulling) :: (Cond.selects RX8 yX8_pulling yX8_pulling) :: (Cond.code yX8_pulling cX8_pulling 5 (some .int)) :: (Cond.fieldLink RX8 29 "TheLiningsInItModel" "kind" "[I") :: (Cond.fieldLink RX8 32 "TheLiningsInItModel" "part" "[I") :: (Cond.methodLink RX8 288 yX8_body) :: (Cond.instanceMethod yX8_body) :: (Cond.selects RX8 yX8_body yX8_body) :: (Cond.code yX8_body cX8_body 2 none) :: (Cond.fieldLink RX8 87 "TheLiningsInItModel" "trace" "[I") :: (Cond.methodLink RX8 294 yX8_freeing) :: (Cond.instanceMethod yX8_freeing) :: (Cond.selects RX8 yX8_freeing yX8_freeing) :: (Cond.code yX8_freeing cX8_freeing 7 (some .int)) :: (Cond.methodLink RX8 297 yX8_resting) :: (Cond.instanceMethod yX8_resting) :: []
def wsX8_act_r2 : List Cond := (Cond.selects RX8 yX8_resting yX8_resting) :: (Cond.code yX8_resting cX8_resting 5 (some .int)) :: []
def wsX8_act : List Cond := (.code yX8_act cX8_act 4 (some .int)) :: ((wsX8_act_r1 ++ wsX8_act_r2) ++ wsX80)
def wsX8_trace : List Cond := (.code yX8_trace cX8_trace 2 (some .int)) :: (.fieldLink RX8 285 "TheLiningsInItModel" "ran" "I") :: (.fieldLink RX8 87 "TheLiningsInItModel" "trace" "[I") :: wsX80
def wsX8_status : List Cond := (.code yX8_status cX8_status 2 (some .int)) :: (.fieldLink RX8 25 "TheLiningsInItModel" "refused" "[I") :: (.fieldLink RX8 90 "TheLiningsInItModel" "pulls" "I") :: (.fieldLink RX8 7 "TheLiningsInItModel" "teeth" "I") :: (.fieldLink RX8 122 "TheLiningsInItModel" "at" "I") :: (.fieldLink RX8 115 "TheLiningsInItModel" "depth" "I") :: (.fieldLink RX8 188 "TheLiningsInItModel" "torn" "I") :: (.fieldLink RX8 13 "TheLiningsInItModel" "seconds" "I") :: (.fieldLink RX8 135 "TheLiningsInItModel" "hurry" "I") :: (.fieldLink RX8 16 "TheLiningsInItModel" "gap" "I") :: (.fieldLink RX8 19 "TheLiningsInItModel" "seed" "I") :: (.fieldLink RX8 285 "TheLiningsInItModel" "ran" "I") :: wsX80
theorem dX8_no_0 : decode cX8_no 0 = .ok (.aload_n 0, 1) := dq_42 dp_cX8_no rfl
theorem dX8_no_1 : decode cX8_no 1 = .ok (.getfield 25, 3) := dq_180 dp_cX8_no rfl
theorem dX8_no_4 : decode cX8_no 4 = .ok (.iload_n 1, 1) := dq_27 dp_cX8_no rfl
theorem dX8_no_5 : decode cX8_no 5 = .ok (.ineg, 1) := dq_116 dp_cX8_no rfl
theorem dX8_no_6 : decode cX8_no 6 = .ok (.dup2, 1) := dq_92 dp_cX8_no rfl
theorem dX8_no_7 : decode cX8_no 7 = .ok (.iaload, 1) := dq_46 dp_cX8_no rfl
theorem dX8_no_8 : decode cX8_no 8 = .ok (.iconst 1, 1) := dq_4 dp_cX8_no rfl
theorem dX8_no_9 : decode cX8_no 9 = .ok (.iadd, 1) := dq_96 dp_cX8_no rfl
theorem dX8_no_10 : decode cX8_no 10 = .ok (.iastore, 1) := dq_79 dp_cX8_no rfl
theorem dX8_no_11 : decode cX8_no 11 = .ok (.iload_n 1, 1) := dq_27 dp_cX8_no rfl
theorem dX8_no_12 : decode cX8_no 12 = .ok (.ireturn, 1) := dq_172 dp_cX8_no rfl
theorem dX8_noTen_0 : decode cX8_noTen 0 = .ok (.aload_n 0, 1) := dq_42 dp_cX8_noTen rfl
theorem dX8_noTen_1 : decode cX8_noTen 1 = .ok (.getfield 25, 3) := dq_180 dp_cX8_noTen rfl
theorem dX8_noTen_4 : decode cX8_noTen 4 = .ok (.iload_n 1, 1) := dq_27 dp_cX8_noTen rfl
theorem dX8_noTen_5 : decode cX8_noTen 5 = .ok (.ineg, 1) := dq_116 dp_cX8_noTen rfl
theorem dX8_noTen_6 : decode cX8_noTen 6 = .ok (.dup2, 1) := dq_92 dp_cX8_noTen rfl
theorem dX8_noTen_7 : decode cX8_noTen 7 = .ok (.iaload, 1) := dq_46 dp_cX8_noTen rfl
theorem dX8_noTen_8 : decode cX8_noTen 8 = .ok (.iconst 1, 1) := dq_4 dp_cX8_noTen rfl
theorem dX8_noTen_9 : decode cX8_noTen 9 = .ok (.iadd, 1) := dq_96 dp_cX8_noTen rfl
theorem dX8_noTen_10 : decode cX8_noTen 10 = .ok (.iastore, 1) := dq_79 dp_cX8_noTen rfl
theorem dX8_noTen_11 : decode cX8_noTen 11 = .ok (.iload_n 1, 1) := dq_27 dp_cX8_noTen rfl
theorem dX8_noTen_12 : decode cX8_noTen 12 = .ok (.bipush 10, 2) := dq_16 (v := 10) dp_cX8_noTen rfl rfl
theorem dX8_noTen_14 : decode cX8_noTen 14 = .ok (.isub, 1) := dq_100 dp_cX8_noTen rfl
theorem dX8_noTen_15 : decode cX8_noTen 15 = .ok (.ireturn, 1) := dq_172 dp_cX8_noTen rfl
theorem dX8_isShelf_0 : decode cX8_isShelf 0 = .ok (.iload_n 1, 1) := dq_27 dp_cX8_isShelf rfl
theorem dX8_isShelf_1 : decode cX8_isShelf 1 = .ok (.ifCond .lt 13, 3) := dq_155 (v := 13) dp_cX8_isShelf rfl rfl
theorem dX8_isShelf_4 : decode cX8_isShelf 4 = .ok (.iload_n 1, 1) := dq_27 dp_cX8_isShelf rfl
theorem dX8_isShelf_5 : decode cX8_isShelf 5 = .ok (.bipush 8, 2) := dq_16 (v := 8) dp_cX8_isShelf rfl rfl
theorem dX8_isShelf_7 : decode cX8_isShelf 7 = .ok (.if_icmp .ge 7, 3) := dq_162 (v := 7) dp_cX8_isShelf rfl rfl
theorem dX8_isShelf_10 : decode cX8_isShelf 10 = .ok (.iconst 1, 1) := dq_4 dp_cX8_isShelf rfl
theorem dX8_isShelf_11 : decode cX8_isShelf 11 = .ok (.goto 4, 3) := dq_167 (v := 4) dp_cX8_isShelf rfl rfl
theorem dX8_isShelf_14 : decode cX8_isShelf 14 = .ok (.iconst 0, 1) := dq_3 dp_cX8_isShelf rfl
theorem dX8_isShelf_15 : decode cX8_isShelf 15 = .ok (.ireturn, 1) := dq_172 dp_cX8_isShelf rfl
theorem dX8_isPull_0 : decode cX8_isPull 0 = .ok (.iload_n 1, 1) := dq_27 dp_cX8_isPull rfl
theorem dX8_isPull_1 : decode cX8_isPull 1 = .ok (.ifCond .lt 15, 3) := dq_155 (v := 15) dp_cX8_isPull rfl rfl
theorem dX8_isPull_4 : decode cX8_isPull 4 = .ok (.iload_n 1, 1) := dq_27 dp_cX8_isPull rfl
theorem dX8_isPull_5 : decode cX8_isPull 5 = .ok (.aload_n 0, 1) := dq_42 dp_cX8_isPull rfl
theorem dX8_isPull_6 : decode cX8_isPull 6 = .ok (.getfield 90, 3) := dq_180 dp_cX8_isPull rfl
theorem dX8_isPull_9 : decode cX8_isPull 9 = .ok (.if_icmp .ge 7, 3) := dq_162 (v := 7) dp_cX8_isPull rfl rfl
theorem dX8_isPull_12 : decode cX8_isPull 12 = .ok (.iconst 1, 1) := dq_4 dp_cX8_isPull rfl
theorem dX8_isPull_13 : decode cX8_isPull 13 = .ok (.goto 4, 3) := dq_167 (v := 4) dp_cX8_isPull rfl rfl
theorem dX8_isPull_16 : decode cX8_isPull 16 = .ok (.iconst 0, 1) := dq_3 dp_cX8_isPull rfl
theorem dX8_isPull_17 : decode cX8_isPull 17 = .ok (.ireturn, 1) := dq_172 dp_cX8_isPull rfl
theorem dX8_isTooth_0 : decode cX8_isTooth 0 = .ok (.iload_n 1, 1) := dq_27 dp_cX8_isTooth rfl
theorem dX8_isTooth_1 : decode cX8_isTooth 1 = .ok (.ifCond .lt 15, 3) := dq_155 (v := 15) dp_cX8_isTooth rfl rfl
theorem dX8_isTooth_4 : decode cX8_isTooth 4 = .ok (.iload_n 1, 1) := dq_27 dp_cX8_isTooth rfl
theorem dX8_isTooth_5 : decode cX8_isTooth 5 = .ok (.aload_n 0, 1) := dq_42 dp_cX8_isTooth rfl
theorem dX8_isTooth_6 : decode cX8_isTooth 6 = .ok (.getfield 7, 3) := dq_180 dp_cX8_isTooth rfl
theorem dX8_isTooth_9 : decode cX8_isTooth 9 = .ok (.if_icmp .ge 7, 3) := dq_162 (v := 7) dp_cX8_isTooth rfl rfl
theorem dX8_isTooth_12 : decode cX8_isTooth 12 = .ok (.iconst 1, 1) := dq_4 dp_cX8_isTooth rfl
theorem dX8_isTooth_13 : decode cX8_isTooth 13 = .ok (.goto 4, 3) := dq_167 (v := 4) dp_cX8_isTooth rfl rfl
theorem dX8_isTooth_16 : decode cX8_isTooth 16 = .ok (.iconst 0, 1) := dq_3 dp_cX8_isTooth rfl
theorem dX8_isTooth_17 : decode cX8_isTooth 17 = .ok (.ireturn, 1) := dq_172 dp_cX8_isTooth rfl
set_option maxRecDepth 20000 in
theorem ggX8_row_X8_isShelf : GoodIn wsX8_row wsX8_isShelf := (dg_c 9 rfl rfl dg_0)
set_option maxRecDepth 20000 in
theorem gX8_row_X8_isShelf : GoodIn wsX8_row (wsV RX8 93 RX8 yX8_isShelf wsX8_isShelf) := goodIn_app (dg_c 5 rfl rfl (dg_c 6 rfl rfl (dg_c 7 rfl rfl (dg_c 8 rfl rfl dg_0)))) ggX8_row_X8_isShelf
set_option maxRecDepth 20000 in
theorem gl_X8_row_X80 : GoodIn wsX8_row wsX80 := (dg_t (dg_t (dg_t (dg_t (dg_t (dg_t (dg_t (dg_t (dg_t (dg_t (dg_t (dg_t (dg_t (dg_t (dg_t gw_wsX80)))))))))))))))
theorem ggX8_row_X8_no : GoodIn wsX8_row wsX8_no := (dg_c 13 rfl rfl (dg_c 14 rfl rfl gl_X8_row_X80))
set_option maxRecDepth 20000 in
theorem gX8_row_X8_no : GoodIn wsX8_row (wsV RX8 97 RX8 yX8_no wsX8_no) := goodIn_app (dg_c 10 rfl rfl (dg_c 11 rfl rfl (dg_c 12 rfl rfl (dg_c 8 rfl rfl dg_0)))) ggX8_row_X8_no
theorem dX8_row_0 : decode cX8_row 0 = .ok (.aload_n 0, 1) := dq_42 dp_cX8_row rfl
theorem dX8_row_1 : decode cX8_row 1 = .ok (.iload_n 1, 1) := dq_27 dp_cX8_row rfl
theorem dX8_row_2 : decode cX8_row 2 = .ok (.invokevirtual 93, 3) := dq_182 dp_cX8_row rfl
theorem dX8_row_5 : decode cX8_row 5 = .ok (.ifCond .ne 9, 3) := dq_154 (v := 9) dp_cX8_row rfl rfl
theorem dX8_row_8 : decode cX8_row 8 = .ok (.aload_n 0, 1) := dq_42 dp_cX8_row rfl
theorem dX8_row_9 : decode cX8_row 9 = .ok (.iconst (-1), 1) := dq_2 dp_cX8_row rfl
theorem dX8_row_10 : decode cX8_row 10 = .ok (.invokevirtual 97, 3) := dq_182 dp_cX8_row rfl
theorem dX8_row_13 : decode cX8_row 13 = .ok (.ireturn, 1) := dq_172 dp_cX8_row rfl
theorem dX8_row_14 : decode cX8_row 14 = .ok (.iload_n 3, 1) := dq_29 dp_cX8_row rfl
theorem dX8_row_15 : decode cX8_row 15 = .ok (.ifCond .ge 10, 3) := dq_156 (v := 10) dp_cX8_row rfl rfl
theorem dX8_row_18 : decode cX8_row 18 = .ok (.aload_n 0, 1) := dq_42 dp_cX8_row rfl
theorem dX8_row_19 : decode cX8_row 19 = .ok (.bipush (-4), 2) := dq_16 (v := 252) dp_cX8_row rfl rfl
theorem dX8_row_21 : decode cX8_row 21 = .ok (.invokevirtual 97, 3) := dq_182 dp_cX8_row rfl
theorem dX8_row_24 : decode cX8_row 24 = .ok (.ireturn, 1) := dq_172 dp_cX8_row rfl
theorem dX8_row_25 : decode cX8_row 25 = .ok (.iload_n 2, 1) := dq_28 dp_cX8_row rfl
theorem dX8_row_26 : decode cX8_row 26 = .ok (.ifCond .lt 8, 3) := dq_155 (v := 8) dp_cX8_row rfl rfl
theorem dX8_row_29 : decode cX8_row 29 = .ok (.iload_n 2, 1) := dq_28 dp_cX8_row rfl
theorem dX8_row_30 : decode cX8_row 30 = .ok (.iconst 3, 1) := dq_6 dp_cX8_row rfl
theorem dX8_row_31 : decode cX8_row 31 = .ok (.if_icmp .le 10, 3) := dq_164 (v := 10) dp_cX8_row rfl rfl
theorem dX8_row_34 : decode cX8_row 34 = .ok (.aload_n 0, 1) := dq_42 dp_cX8_row rfl
theorem dX8_row_35 : decode cX8_row 35 = .ok (.bipush (-6), 2) := dq_16 (v := 250) dp_cX8_row rfl rfl
theorem dX8_row_37 : decode cX8_row 37 = .ok (.invokevirtual 97, 3) := dq_182 dp_cX8_row rfl
theorem dX8_row_40 : decode cX8_row 40 = .ok (.ireturn, 1) := dq_172 dp_cX8_row rfl
theorem dX8_row_41 : decode cX8_row 41 = .ok (.iload_n 3, 1) := dq_29 dp_cX8_row rfl
theorem dX8_row_42 : decode cX8_row 42 = .ok (.sipush 160, 3) := dq_17 (v := 160) dp_cX8_row rfl rfl
theorem dX8_row_45 : decode cX8_row 45 = .ok (.if_icmp .le 10, 3) := dq_164 (v := 10) dp_cX8_row rfl rfl
theorem dX8_row_48 : decode cX8_row 48 = .ok (.aload_n 0, 1) := dq_42 dp_cX8_row rfl
theorem dX8_row_49 : decode cX8_row 49 = .ok (.bipush (-7), 2) := dq_16 (v := 249) dp_cX8_row rfl rfl
theorem dX8_row_51 : decode cX8_row 51 = .ok (.invokevirtual 97, 3) := dq_182 dp_cX8_row rfl
theorem dX8_row_54 : decode cX8_row 54 = .ok (.ireturn, 1) := dq_172 dp_cX8_row rfl
theorem dX8_row_55 : decode cX8_row 55 = .ok (.aload_n 0, 1) := dq_42 dp_cX8_row rfl
theorem dX8_row_56 : decode cX8_row 56 = .ok (.getfield 47, 3) := dq_180 dp_cX8_row rfl
theorem dX8_row_59 : decode cX8_row 59 = .ok (.iload_n 1, 1) := dq_27 dp_cX8_row rfl
theorem dX8_row_60 : decode cX8_row 60 = .ok (.iconst 1, 1) := dq_4 dp_cX8_row rfl
theorem dX8_row_61 : decode cX8_row 61 = .ok (.iastore, 1) := dq_79 dp_cX8_row rfl
theorem dX8_row_62 : decode cX8_row 62 = .ok (.aload_n 0, 1) := dq_42 dp_cX8_row rfl
theorem dX8_row_63 : decode cX8_row 63 = .ok (.getfield 50, 3) := dq_180 dp_cX8_row rfl
theorem dX8_row_66 : decode cX8_row 66 = .ok (.iload_n 1, 1) := dq_27 dp_cX8_row rfl
theorem dX8_row_67 : decode cX8_row 67 = .ok (.iload_n 2, 1) := dq_28 dp_cX8_row rfl
theorem dX8_row_68 : decode cX8_row 68 = .ok (.iastore, 1) := dq_79 dp_cX8_row rfl
theorem dX8_row_69 : decode cX8_row 69 = .ok (.aload_n 0, 1) := dq_42 dp_cX8_row rfl
theorem dX8_row_70 : decode cX8_row 70 = .ok (.getfield 53, 3) := dq_180 dp_cX8_row rfl
theorem dX8_row_73 : decode cX8_row 73 = .ok (.iload_n 1, 1) := dq_27 dp_cX8_row rfl
theorem dX8_row_74 : decode cX8_row 74 = .ok (.iload_n 3, 1) := dq_29 dp_cX8_row rfl
theorem dX8_row_75 : decode cX8_row 75 = .ok (.iastore, 1) := dq_79 dp_cX8_row rfl
theorem dX8_row_76 : decode cX8_row 76 = .ok (.iconst 0, 1) := dq_3 dp_cX8_row rfl
theorem dX8_row_77 : decode cX8_row 77 = .ok (.istore 4, 2) := dq_54 dp_cX8_row rfl
theorem dX8_row_79 : decode cX8_row 79 = .ok (.iload 4, 2) := dq_21 dp_cX8_row rfl
theorem dX8_row_81 : decode cX8_row 81 = .ok (.sipush 160, 3) := dq_17 (v := 160) dp_cX8_row rfl rfl
theorem dX8_row_84 : decode cX8_row 84 = .ok (.if_icmp .ge 23, 3) := dq_162 (v := 23) dp_cX8_row rfl rfl
theorem dX8_row_87 : decode cX8_row 87 = .ok (.aload_n 0, 1) := dq_42 dp_cX8_row rfl
theorem dX8_row_88 : decode cX8_row 88 = .ok (.getfield 59, 3) := dq_180 dp_cX8_row rfl
theorem dX8_row_91 : decode cX8_row 91 = .ok (.sipush 160, 3) := dq_17 (v := 160) dp_cX8_row rfl rfl
theorem dX8_row_94 : decode cX8_row 94 = .ok (.iload_n 1, 1) := dq_27 dp_cX8_row rfl
theorem dX8_row_95 : decode cX8_row 95 = .ok (.imul, 1) := dq_104 dp_cX8_row rfl
theorem dX8_row_96 : decode cX8_row 96 = .ok (.iload 4, 2) := dq_21 dp_cX8_row rfl
theorem dX8_row_98 : decode cX8_row 98 = .ok (.iadd, 1) := dq_96 dp_cX8_row rfl
theorem dX8_row_99 : decode cX8_row 99 = .ok (.lconst 0, 1) := dq_9 dp_cX8_row rfl
theorem dX8_row_100 : decode cX8_row 100 = .ok (.lastore, 1) := dq_80 dp_cX8_row rfl
theorem dX8_row_101 : decode cX8_row 101 = .ok (.iinc 4 1, 3) := dq_132 (v := 1) dp_cX8_row rfl (by decide) rfl
theorem dX8_row_104 : decode cX8_row 104 = .ok (.goto (-25), 3) := dq_167 (v := 65511) dp_cX8_row rfl rfl
theorem dX8_row_107 : decode cX8_row 107 = .ok (.iconst 1, 1) := dq_4 dp_cX8_row rfl
theorem dX8_row_108 : decode cX8_row 108 = .ok (.ireturn, 1) := dq_172 dp_cX8_row rfl
set_option maxRecDepth 20000 in
theorem ggX8_set_X8_isShelf : GoodIn wsX8_set wsX8_isShelf := (dg_c 9 rfl rfl dg_0)
set_option maxRecDepth 20000 in
theorem gX8_set_X8_isShelf : GoodIn wsX8_set (wsV RX8 93 RX8 yX8_isShelf wsX8_isShelf) := goodIn_app (dg_c 5 rfl rfl (dg_c 6 rfl rfl (dg_c 7 rfl rfl (dg_c 8 rfl rfl dg_0)))) ggX8_set_X8_isShelf
set_option maxRecDepth 20000 in
theorem gl_X8_set_X80 : GoodIn wsX8_set wsX80 := (dg_t (dg_t (dg_t (dg_t (dg_t (dg_t (dg_t (dg_t (dg_t (dg_t (dg_t (dg_t (dg_t (dg_t (dg_t gw_wsX80)))))))))))))))
theorem ggX8_set_X8_no : GoodIn wsX8_set wsX8_no := (dg_c 13 rfl rfl (dg_c 14 rfl rfl gl_X8_set_X80))
set_option maxRecDepth 20000 in
theorem gX8_set_X8_no : GoodIn wsX8_set (wsV RX8 97 RX8 yX8_no wsX8_no) := goodIn_app (dg_c 10 rfl rfl (dg_c 11 rfl rfl (dg_c 12 rfl rfl (dg_c 8 rfl rfl dg_0)))) ggX8_set_X8_no
theorem dX8_set_0 : decode cX8_set 0 = .ok (.aload_n 0, 1) := dq_42 dp_cX8_set rfl
theorem dX8_set_1 : decode cX8_set 1 = .ok (.iload_n 1, 1) := dq_27 dp_cX8_set rfl
theorem dX8_set_2 : decode cX8_set 2 = .ok (.invokevirtual 93, 3) := dq_182 dp_cX8_set rfl
theorem dX8_set_5 : decode cX8_set 5 = .ok (.ifCond .ne 9, 3) := dq_154 (v := 9) dp_cX8_set rfl rfl
theorem dX8_set_8 : decode cX8_set 8 = .ok (.aload_n 0, 1) := dq_42 dp_cX8_set rfl
theorem dX8_set_9 : decode cX8_set 9 = .ok (.iconst (-1), 1) := dq_2 dp_cX8_set rfl
theorem dX8_set_10 : decode cX8_set 10 = .ok (.invokevirtual 97, 3) := dq_182 dp_cX8_set rfl
theorem dX8_set_13 : decode cX8_set 13 = .ok (.ireturn, 1) := dq_172 dp_cX8_set rfl
theorem dX8_set_14 : decode cX8_set 14 = .ok (.aload_n 0, 1) := dq_42 dp_cX8_set rfl
theorem dX8_set_15 : decode cX8_set 15 = .ok (.getfield 47, 3) := dq_180 dp_cX8_set rfl
theorem dX8_set_18 : decode cX8_set 18 = .ok (.iload_n 1, 1) := dq_27 dp_cX8_set rfl
theorem dX8_set_19 : decode cX8_set 19 = .ok (.iaload, 1) := dq_46 dp_cX8_set rfl
theorem dX8_set_20 : decode cX8_set 20 = .ok (.iconst 2, 1) := dq_5 dp_cX8_set rfl
theorem dX8_set_21 : decode cX8_set 21 = .ok (.if_icmp .ne 10, 3) := dq_160 (v := 10) dp_cX8_set rfl rfl
theorem dX8_set_24 : decode cX8_set 24 = .ok (.aload_n 0, 1) := dq_42 dp_cX8_set rfl
theorem dX8_set_25 : decode cX8_set 25 = .ok (.bipush (-2), 2) := dq_16 (v := 254) dp_cX8_set rfl rfl
theorem dX8_set_27 : decode cX8_set 27 = .ok (.invokevirtual 97, 3) := dq_182 dp_cX8_set rfl
theorem dX8_set_30 : decode cX8_set 30 = .ok (.ireturn, 1) := dq_172 dp_cX8_set rfl
theorem dX8_set_31 : decode cX8_set 31 = .ok (.aload_n 0, 1) := dq_42 dp_cX8_set rfl
theorem dX8_set_32 : decode cX8_set 32 = .ok (.getfield 47, 3) := dq_180 dp_cX8_set rfl
theorem dX8_set_35 : decode cX8_set 35 = .ok (.iload_n 1, 1) := dq_27 dp_cX8_set rfl
theorem dX8_set_36 : decode cX8_set 36 = .ok (.iaload, 1) := dq_46 dp_cX8_set rfl
theorem dX8_set_37 : decode cX8_set 37 = .ok (.ifCond .ne 10, 3) := dq_154 (v := 10) dp_cX8_set rfl rfl
theorem dX8_set_40 : decode cX8_set 40 = .ok (.aload_n 0, 1) := dq_42 dp_cX8_set rfl
theorem dX8_set_41 : decode cX8_set 41 = .ok (.bipush (-3), 2) := dq_16 (v := 253) dp_cX8_set rfl rfl
theorem dX8_set_43 : decode cX8_set 43 = .ok (.invokevirtual 97, 3) := dq_182 dp_cX8_set rfl
theorem dX8_set_46 : decode cX8_set 46 = .ok (.ireturn, 1) := dq_172 dp_cX8_set rfl
theorem dX8_set_47 : decode cX8_set 47 = .ok (.iload_n 2, 1) := dq_28 dp_cX8_set rfl
theorem dX8_set_48 : decode cX8_set 48 = .ok (.ifCond .lt 13, 3) := dq_155 (v := 13) dp_cX8_set rfl rfl
theorem dX8_set_51 : decode cX8_set 51 = .ok (.iload_n 2, 1) := dq_28 dp_cX8_set rfl
theorem dX8_set_52 : decode cX8_set 52 = .ok (.aload_n 0, 1) := dq_42 dp_cX8_set rfl
theorem dX8_set_53 : decode cX8_set 53 = .ok (.getfield 53, 3) := dq_180 dp_cX8_set rfl
theorem dX8_set_56 : decode cX8_set 56 = .ok (.iload_n 1, 1) := dq_27 dp_cX8_set rfl
theorem dX8_set_57 : decode cX8_set 57 = .ok (.iaload, 1) := dq_46 dp_cX8_set rfl
theorem dX8_set_58 : decode cX8_set 58 = .ok (.if_icmp .lt 10, 3) := dq_161 (v := 10) dp_cX8_set rfl rfl
theorem dX8_set_61 : decode cX8_set 61 = .ok (.aload_n 0, 1) := dq_42 dp_cX8_set rfl
theorem dX8_set_62 : decode cX8_set 62 = .ok (.bipush (-5), 2) := dq_16 (v := 251) dp_cX8_set rfl rfl
theorem dX8_set_64 : decode cX8_set 64 = .ok (.invokevirtual 97, 3) := dq_182 dp_cX8_set rfl
theorem dX8_set_67 : decode cX8_set 67 = .ok (.ireturn, 1) := dq_172 dp_cX8_set rfl
theorem dX8_set_68 : decode cX8_set 68 = .ok (.aload_n 0, 1) := dq_42 dp_cX8_set rfl
theorem dX8_set_69 : decode cX8_set 69 = .ok (.getfield 59, 3) := dq_180 dp_cX8_set rfl
theorem dX8_set_72 : decode cX8_set 72 = .ok (.sipush 160, 3) := dq_17 (v := 160) dp_cX8_set rfl rfl
theorem dX8_set_75 : decode cX8_set 75 = .ok (.iload_n 1, 1) := dq_27 dp_cX8_set rfl
theorem dX8_set_76 : decode cX8_set 76 = .ok (.imul, 1) := dq_104 dp_cX8_set rfl
theorem dX8_set_77 : decode cX8_set 77 = .ok (.iload_n 2, 1) := dq_28 dp_cX8_set rfl
theorem dX8_set_78 : decode cX8_set 78 = .ok (.iadd, 1) := dq_96 dp_cX8_set rfl
theorem dX8_set_79 : decode cX8_set 79 = .ok (.aload_n 0, 1) := dq_42 dp_cX8_set rfl
theorem dX8_set_80 : decode cX8_set 80 = .ok (.getfield 50, 3) := dq_180 dp_cX8_set rfl
theorem dX8_set_83 : decode cX8_set 83 = .ok (.iload_n 1, 1) := dq_27 dp_cX8_set rfl
theorem dX8_set_84 : decode cX8_set 84 = .ok (.iaload, 1) := dq_46 dp_cX8_set rfl
theorem dX8_set_85 : decode cX8_set 85 = .ok (.ifCond .ne 10, 3) := dq_154 (v := 10) dp_cX8_set rfl rfl
theorem dX8_set_88 : decode cX8_set 88 = .ok (.lload_n 3, 1) := dq_33 dp_cX8_set rfl
theorem dX8_set_89 : decode cX8_set 89 = .ok (.l2i, 1) := dq_136 dp_cX8_set rfl
theorem dX8_set_90 : decode cX8_set 90 = .ok (.i2b, 1) := dq_145 dp_cX8_set rfl
theorem dX8_set_91 : decode cX8_set 91 = .ok (.i2l, 1) := dq_133 dp_cX8_set rfl
theorem dX8_set_92 : decode cX8_set 92 = .ok (.goto 37, 3) := dq_167 (v := 37) dp_cX8_set rfl rfl
theorem dX8_set_95 : decode cX8_set 95 = .ok (.aload_n 0, 1) := dq_42 dp_cX8_set rfl
theorem dX8_set_96 : decode cX8_set 96 = .ok (.getfield 50, 3) := dq_180 dp_cX8_set rfl
theorem dX8_set_99 : decode cX8_set 99 = .ok (.iload_n 1, 1) := dq_27 dp_cX8_set rfl
theorem dX8_set_100 : decode cX8_set 100 = .ok (.iaload, 1) := dq_46 dp_cX8_set rfl
theorem dX8_set_101 : decode cX8_set 101 = .ok (.iconst 1, 1) := dq_4 dp_cX8_set rfl
theorem dX8_set_102 : decode cX8_set 102 = .ok (.if_icmp .ne 10, 3) := dq_160 (v := 10) dp_cX8_set rfl rfl
theorem dX8_set_105 : decode cX8_set 105 = .ok (.lload_n 3, 1) := dq_33 dp_cX8_set rfl
theorem dX8_set_106 : decode cX8_set 106 = .ok (.l2i, 1) := dq_136 dp_cX8_set rfl
theorem dX8_set_107 : decode cX8_set 107 = .ok (.i2s, 1) := dq_147 dp_cX8_set rfl
theorem dX8_set_108 : decode cX8_set 108 = .ok (.i2l, 1) := dq_133 dp_cX8_set rfl
theorem dX8_set_109 : decode cX8_set 109 = .ok (.goto 20, 3) := dq_167 (v := 20) dp_cX8_set rfl rfl
theorem dX8_set_112 : decode cX8_set 112 = .ok (.aload_n 0, 1) := dq_42 dp_cX8_set rfl
theorem dX8_set_113 : decode cX8_set 113 = .ok (.getfield 50, 3) := dq_180 dp_cX8_set rfl
theorem dX8_set_116 : decode cX8_set 116 = .ok (.iload_n 1, 1) := dq_27 dp_cX8_set rfl
theorem dX8_set_117 : decode cX8_set 117 = .ok (.iaload, 1) := dq_46 dp_cX8_set rfl
theorem dX8_set_118 : decode cX8_set 118 = .ok (.iconst 2, 1) := dq_5 dp_cX8_set rfl
theorem dX8_set_119 : decode cX8_set 119 = .ok (.if_icmp .ne 9, 3) := dq_160 (v := 9) dp_cX8_set rfl rfl
theorem dX8_set_122 : decode cX8_set 122 = .ok (.lload_n 3, 1) := dq_33 dp_cX8_set rfl
theorem dX8_set_123 : decode cX8_set 123 = .ok (.l2i, 1) := dq_136 dp_cX8_set rfl
theorem dX8_set_124 : decode cX8_set 124 = .ok (.i2l, 1) := dq_133 dp_cX8_set rfl
theorem dX8_set_125 : decode cX8_set 125 = .ok (.goto 4, 3) := dq_167 (v := 4) dp_cX8_set rfl rfl
theorem dX8_set_128 : decode cX8_set 128 = .ok (.lload_n 3, 1) := dq_33 dp_cX8_set rfl
theorem dX8_set_129 : decode cX8_set 129 = .ok (.lastore, 1) := dq_80 dp_cX8_set rfl
theorem dX8_set_130 : decode cX8_set 130 = .ok (.iconst 1, 1) := dq_4 dp_cX8_set rfl
theorem dX8_set_131 : decode cX8_set 131 = .ok (.ireturn, 1) := dq_172 dp_cX8_set rfl
set_option maxRecDepth 20000 in
theorem ggX8_copy_X8_isShelf : GoodIn wsX8_copy wsX8_isShelf := (dg_c 10 rfl rfl dg_0)
set_option maxRecDepth 20000 in
theorem gX8_copy_X8_isShelf : GoodIn wsX8_copy (wsV RX8 93 RX8 yX8_isShelf wsX8_isShelf) := goodIn_app (dg_c 6 rfl rfl (dg_c 7 rfl rfl (dg_c 8 rfl rfl (dg_c 9 rfl rfl dg_0)))) ggX8_copy_X8_isShelf
set_option maxRecDepth 20000 in
theorem gl_X8_copy_X80 : GoodIn wsX8_copy wsX80 := (dg_t (dg_t (dg_t (dg_t (dg_t (dg_t (dg_t (dg_t (dg_t (dg_t (dg_t (dg_t (dg_t (dg_t (dg_t (dg_t gw_wsX80))))))))))))))))
theorem ggX8_copy_X8_no : GoodIn wsX8_copy wsX8_no := (dg_c 14 rfl rfl (dg_c 15 rfl rfl gl_X8_copy_X80))
set_option maxRecDepth 20000 in
theorem gX8_copy_X8_no : GoodIn wsX8_copy (wsV RX8 97 RX8 yX8_no wsX8_no) := goodIn_app (dg_c 11 rfl rfl (dg_c 12 rfl rfl (dg_c 13 rfl rfl (dg_c 9 rfl rfl dg_0)))) ggX8_copy_X8_no
theorem dX8_copy_0 : decode cX8_copy 0 = .ok (.aload_n 0, 1) := dq_42 dp_cX8_copy rfl
theorem dX8_copy_1 : decode cX8_copy 1 = .ok (.iload_n 1, 1) := dq_27 dp_cX8_copy rfl
theorem dX8_copy_2 : decode cX8_copy 2 = .ok (.invokevirtual 93, 3) := dq_182 dp_cX8_copy rfl
theorem dX8_copy_5 : decode cX8_copy 5 = .ok (.ifCond .eq 11, 3) := dq_153 (v := 11) dp_cX8_copy rfl rfl
theorem dX8_copy_8 : decode cX8_copy 8 = .ok (.aload_n 0, 1) := dq_42 dp_cX8_copy rfl
theorem dX8_copy_9 : decode cX8_copy 9 = .ok (.iload_n 2, 1) := dq_28 dp_cX8_copy rfl
theorem dX8_copy_10 : decode cX8_copy 10 = .ok (.invokevirtual 93, 3) := dq_182 dp_cX8_copy rfl
theorem dX8_copy_13 : decode cX8_copy 13 = .ok (.ifCond .ne 9, 3) := dq_154 (v := 9) dp_cX8_copy rfl rfl
theorem dX8_copy_16 : decode cX8_copy 16 = .ok (.aload_n 0, 1) := dq_42 dp_cX8_copy rfl
theorem dX8_copy_17 : decode cX8_copy 17 = .ok (.iconst (-1), 1) := dq_2 dp_cX8_copy rfl
theorem dX8_copy_18 : decode cX8_copy 18 = .ok (.invokevirtual 97, 3) := dq_182 dp_cX8_copy rfl
theorem dX8_copy_21 : decode cX8_copy 21 = .ok (.ireturn, 1) := dq_172 dp_cX8_copy rfl
theorem dX8_copy_22 : decode cX8_copy 22 = .ok (.aload_n 0, 1) := dq_42 dp_cX8_copy rfl
theorem dX8_copy_23 : decode cX8_copy 23 = .ok (.getfield 47, 3) := dq_180 dp_cX8_copy rfl
theorem dX8_copy_26 : decode cX8_copy 26 = .ok (.iload_n 1, 1) := dq_27 dp_cX8_copy rfl
theorem dX8_copy_27 : decode cX8_copy 27 = .ok (.iaload, 1) := dq_46 dp_cX8_copy rfl
theorem dX8_copy_28 : decode cX8_copy 28 = .ok (.iconst 2, 1) := dq_5 dp_cX8_copy rfl
theorem dX8_copy_29 : decode cX8_copy 29 = .ok (.if_icmp .eq 48, 3) := dq_159 (v := 48) dp_cX8_copy rfl rfl
theorem dX8_copy_32 : decode cX8_copy 32 = .ok (.aload_n 0, 1) := dq_42 dp_cX8_copy rfl
theorem dX8_copy_33 : decode cX8_copy 33 = .ok (.getfield 47, 3) := dq_180 dp_cX8_copy rfl
theorem dX8_copy_36 : decode cX8_copy 36 = .ok (.iload_n 2, 1) := dq_28 dp_cX8_copy rfl
theorem dX8_copy_37 : decode cX8_copy 37 = .ok (.iaload, 1) := dq_46 dp_cX8_copy rfl
theorem dX8_copy_38 : decode cX8_copy 38 = .ok (.iconst 2, 1) := dq_5 dp_cX8_copy rfl
theorem dX8_copy_39 : decode cX8_copy 39 = .ok (.if_icmp .eq 38, 3) := dq_159 (v := 38) dp_cX8_copy rfl rfl
theorem dX8_copy_42 : decode cX8_copy 42 = .ok (.aload_n 0, 1) := dq_42 dp_cX8_copy rfl
theorem dX8_copy_43 : decode cX8_copy 43 = .ok (.getfield 47, 3) := dq_180 dp_cX8_copy rfl
theorem dX8_copy_46 : decode cX8_copy 46 = .ok (.iload_n 1, 1) := dq_27 dp_cX8_copy rfl
theorem dX8_copy_47 : decode cX8_copy 47 = .ok (.iaload, 1) := dq_46 dp_cX8_copy rfl
theorem dX8_copy_48 : decode cX8_copy 48 = .ok (.iconst 1, 1) := dq_4 dp_cX8_copy rfl
theorem dX8_copy_49 : decode cX8_copy 49 = .ok (.if_icmp .ne 35, 3) := dq_160 (v := 35) dp_cX8_copy rfl rfl
theorem dX8_copy_52 : decode cX8_copy 52 = .ok (.aload_n 0, 1) := dq_42 dp_cX8_copy rfl
theorem dX8_copy_53 : decode cX8_copy 53 = .ok (.getfield 47, 3) := dq_180 dp_cX8_copy rfl
theorem dX8_copy_56 : decode cX8_copy 56 = .ok (.iload_n 2, 1) := dq_28 dp_cX8_copy rfl
theorem dX8_copy_57 : decode cX8_copy 57 = .ok (.iaload, 1) := dq_46 dp_cX8_copy rfl
theorem dX8_copy_58 : decode cX8_copy 58 = .ok (.iconst 1, 1) := dq_4 dp_cX8_copy rfl
theorem dX8_copy_59 : decode cX8_copy 59 = .ok (.if_icmp .ne 25, 3) := dq_160 (v := 25) dp_cX8_copy rfl rfl
theorem dX8_copy_62 : decode cX8_copy 62 = .ok (.aload_n 0, 1) := dq_42 dp_cX8_copy rfl
theorem dX8_copy_63 : decode cX8_copy 63 = .ok (.getfield 50, 3) := dq_180 dp_cX8_copy rfl
theorem dX8_copy_66 : decode cX8_copy 66 = .ok (.iload_n 1, 1) := dq_27 dp_cX8_copy rfl
theorem dX8_copy_67 : decode cX8_copy 67 = .ok (.iaload, 1) := dq_46 dp_cX8_copy rfl
theorem dX8_copy_68 : decode cX8_copy 68 = .ok (.aload_n 0, 1) := dq_42 dp_cX8_copy rfl
theorem dX8_copy_69 : decode cX8_copy 69 = .ok (.getfield 50, 3) := dq_180 dp_cX8_copy rfl
theorem dX8_copy_72 : decode cX8_copy 72 = .ok (.iload_n 2, 1) := dq_28 dp_cX8_copy rfl
theorem dX8_copy_73 : decode cX8_copy 73 = .ok (.iaload, 1) := dq_46 dp_cX8_copy rfl
theorem dX8_copy_74 : decode cX8_copy 74 = .ok (.if_icmp .eq 10, 3) := dq_159 (v := 10) dp_cX8_copy rfl rfl
theorem dX8_copy_77 : decode cX8_copy 77 = .ok (.aload_n 0, 1) := dq_42 dp_cX8_copy rfl
theorem dX8_copy_78 : decode cX8_copy 78 = .ok (.bipush (-2), 2) := dq_16 (v := 254) dp_cX8_copy rfl rfl
theorem dX8_copy_80 : decode cX8_copy 80 = .ok (.invokevirtual 97, 3) := dq_182 dp_cX8_copy rfl
theorem dX8_copy_83 : decode cX8_copy 83 = .ok (.ireturn, 1) := dq_172 dp_cX8_copy rfl
theorem dX8_copy_84 : decode cX8_copy 84 = .ok (.aload_n 0, 1) := dq_42 dp_cX8_copy rfl
theorem dX8_copy_85 : decode cX8_copy 85 = .ok (.getfield 47, 3) := dq_180 dp_cX8_copy rfl
theorem dX8_copy_88 : decode cX8_copy 88 = .ok (.iload_n 1, 1) := dq_27 dp_cX8_copy rfl
theorem dX8_copy_89 : decode cX8_copy 89 = .ok (.iaload, 1) := dq_46 dp_cX8_copy rfl
theorem dX8_copy_90 : decode cX8_copy 90 = .ok (.ifCond .eq 12, 3) := dq_153 (v := 12) dp_cX8_copy rfl rfl
theorem dX8_copy_93 : decode cX8_copy 93 = .ok (.aload_n 0, 1) := dq_42 dp_cX8_copy rfl
theorem dX8_copy_94 : decode cX8_copy 94 = .ok (.getfield 47, 3) := dq_180 dp_cX8_copy rfl
theorem dX8_copy_97 : decode cX8_copy 97 = .ok (.iload_n 2, 1) := dq_28 dp_cX8_copy rfl
theorem dX8_copy_98 : decode cX8_copy 98 = .ok (.iaload, 1) := dq_46 dp_cX8_copy rfl
theorem dX8_copy_99 : decode cX8_copy 99 = .ok (.ifCond .ne 10, 3) := dq_154 (v := 10) dp_cX8_copy rfl rfl
theorem dX8_copy_102 : decode cX8_copy 102 = .ok (.aload_n 0, 1) := dq_42 dp_cX8_copy rfl
theorem dX8_copy_103 : decode cX8_copy 103 = .ok (.bipush (-3), 2) := dq_16 (v := 253) dp_cX8_copy rfl rfl
theorem dX8_copy_105 : decode cX8_copy 105 = .ok (.invokevirtual 97, 3) := dq_182 dp_cX8_copy rfl
theorem dX8_copy_108 : decode cX8_copy 108 = .ok (.ireturn, 1) := dq_172 dp_cX8_copy rfl
theorem dX8_copy_109 : decode cX8_copy 109 = .ok (.iload 5, 2) := dq_21 dp_cX8_copy rfl
theorem dX8_copy_111 : decode cX8_copy 111 = .ok (.ifCond .ge 10, 3) := dq_156 (v := 10) dp_cX8_copy rfl rfl
theorem dX8_copy_114 : decode cX8_copy 114 = .ok (.aload_n 0, 1) := dq_42 dp_cX8_copy rfl
theorem dX8_copy_115 : decode cX8_copy 115 = .ok (.bipush (-4), 2) := dq_16 (v := 252) dp_cX8_copy rfl rfl
theorem dX8_copy_117 : decode cX8_copy 117 = .ok (.invokevirtual 97, 3) := dq_182 dp_cX8_copy rfl
theorem dX8_copy_120 : decode cX8_copy 120 = .ok (.ireturn, 1) := dq_172 dp_cX8_copy rfl
theorem dX8_copy_121 : decode cX8_copy 121 = .ok (.iload_n 3, 1) := dq_29 dp_cX8_copy rfl
theorem dX8_copy_122 : decode cX8_copy 122 = .ok (.ifCond .lt 35, 3) := dq_155 (v := 35) dp_cX8_copy rfl rfl
theorem dX8_copy_125 : decode cX8_copy 125 = .ok (.iload 4, 2) := dq_21 dp_cX8_copy rfl
theorem dX8_copy_127 : decode cX8_copy 127 = .ok (.ifCond .lt 30, 3) := dq_155 (v := 30) dp_cX8_copy rfl rfl
theorem dX8_copy_130 : decode cX8_copy 130 = .ok (.iload_n 3, 1) := dq_29 dp_cX8_copy rfl
theorem dX8_copy_131 : decode cX8_copy 131 = .ok (.aload_n 0, 1) := dq_42 dp_cX8_copy rfl
theorem dX8_copy_132 : decode cX8_copy 132 = .ok (.getfield 53, 3) := dq_180 dp_cX8_copy rfl
theorem dX8_copy_135 : decode cX8_copy 135 = .ok (.iload_n 1, 1) := dq_27 dp_cX8_copy rfl
theorem dX8_copy_136 : decode cX8_copy 136 = .ok (.iaload, 1) := dq_46 dp_cX8_copy rfl
theorem dX8_copy_137 : decode cX8_copy 137 = .ok (.iload 5, 2) := dq_21 dp_cX8_copy rfl
theorem dX8_copy_139 : decode cX8_copy 139 = .ok (.isub, 1) := dq_100 dp_cX8_copy rfl
theorem dX8_copy_140 : decode cX8_copy 140 = .ok (.if_icmp .gt 17, 3) := dq_163 (v := 17) dp_cX8_copy rfl rfl
theorem dX8_copy_143 : decode cX8_copy 143 = .ok (.iload 4, 2) := dq_21 dp_cX8_copy rfl
theorem dX8_copy_145 : decode cX8_copy 145 = .ok (.aload_n 0, 1) := dq_42 dp_cX8_copy rfl
theorem dX8_copy_146 : decode cX8_copy 146 = .ok (.getfield 53, 3) := dq_180 dp_cX8_copy rfl
theorem dX8_copy_149 : decode cX8_copy 149 = .ok (.iload_n 2, 1) := dq_28 dp_cX8_copy rfl
theorem dX8_copy_150 : decode cX8_copy 150 = .ok (.iaload, 1) := dq_46 dp_cX8_copy rfl
theorem dX8_copy_151 : decode cX8_copy 151 = .ok (.iload 5, 2) := dq_21 dp_cX8_copy rfl
theorem dX8_copy_153 : decode cX8_copy 153 = .ok (.isub, 1) := dq_100 dp_cX8_copy rfl
theorem dX8_copy_154 : decode cX8_copy 154 = .ok (.if_icmp .le 10, 3) := dq_164 (v := 10) dp_cX8_copy rfl rfl
theorem dX8_copy_157 : decode cX8_copy 157 = .ok (.aload_n 0, 1) := dq_42 dp_cX8_copy rfl
theorem dX8_copy_158 : decode cX8_copy 158 = .ok (.bipush (-5), 2) := dq_16 (v := 251) dp_cX8_copy rfl rfl
theorem dX8_copy_160 : decode cX8_copy 160 = .ok (.invokevirtual 97, 3) := dq_182 dp_cX8_copy rfl
theorem dX8_copy_163 : decode cX8_copy 163 = .ok (.ireturn, 1) := dq_172 dp_cX8_copy rfl
theorem dX8_copy_164 : decode cX8_copy 164 = .ok (.iconst 0, 1) := dq_3 dp_cX8_copy rfl
theorem dX8_copy_165 : decode cX8_copy 165 = .ok (.istore 6, 2) := dq_54 dp_cX8_copy rfl
theorem dX8_copy_167 : decode cX8_copy 167 = .ok (.iload 6, 2) := dq_21 dp_cX8_copy rfl
theorem dX8_copy_169 : decode cX8_copy 169 = .ok (.iload 5, 2) := dq_21 dp_cX8_copy rfl
theorem dX8_copy_171 : decode cX8_copy 171 = .ok (.if_icmp .ge 31, 3) := dq_162 (v := 31) dp_cX8_copy rfl rfl
theorem dX8_copy_174 : decode cX8_copy 174 = .ok (.aload_n 0, 1) := dq_42 dp_cX8_copy rfl
theorem dX8_copy_175 : decode cX8_copy 175 = .ok (.getfield 63, 3) := dq_180 dp_cX8_copy rfl
theorem dX8_copy_178 : decode cX8_copy 178 = .ok (.iload 6, 2) := dq_21 dp_cX8_copy rfl
theorem dX8_copy_180 : decode cX8_copy 180 = .ok (.aload_n 0, 1) := dq_42 dp_cX8_copy rfl
theorem dX8_copy_181 : decode cX8_copy 181 = .ok (.getfield 59, 3) := dq_180 dp_cX8_copy rfl
theorem dX8_copy_184 : decode cX8_copy 184 = .ok (.sipush 160, 3) := dq_17 (v := 160) dp_cX8_copy rfl rfl
theorem dX8_copy_187 : decode cX8_copy 187 = .ok (.iload_n 1, 1) := dq_27 dp_cX8_copy rfl
theorem dX8_copy_188 : decode cX8_copy 188 = .ok (.imul, 1) := dq_104 dp_cX8_copy rfl
theorem dX8_copy_189 : decode cX8_copy 189 = .ok (.iload_n 3, 1) := dq_29 dp_cX8_copy rfl
theorem dX8_copy_190 : decode cX8_copy 190 = .ok (.iadd, 1) := dq_96 dp_cX8_copy rfl
theorem dX8_copy_191 : decode cX8_copy 191 = .ok (.iload 6, 2) := dq_21 dp_cX8_copy rfl
theorem dX8_copy_193 : decode cX8_copy 193 = .ok (.iadd, 1) := dq_96 dp_cX8_copy rfl
theorem dX8_copy_194 : decode cX8_copy 194 = .ok (.laload, 1) := dq_47 dp_cX8_copy rfl
theorem dX8_copy_195 : decode cX8_copy 195 = .ok (.lastore, 1) := dq_80 dp_cX8_copy rfl
theorem dX8_copy_196 : decode cX8_copy 196 = .ok (.iinc 6 1, 3) := dq_132 (v := 1) dp_cX8_copy rfl (by decide) rfl
theorem dX8_copy_199 : decode cX8_copy 199 = .ok (.goto (-32), 3) := dq_167 (v := 65504) dp_cX8_copy rfl rfl
theorem dX8_copy_202 : decode cX8_copy 202 = .ok (.iconst 0, 1) := dq_3 dp_cX8_copy rfl
theorem dX8_copy_203 : decode cX8_copy 203 = .ok (.istore 6, 2) := dq_54 dp_cX8_copy rfl
theorem dX8_copy_205 : decode cX8_copy 205 = .ok (.iload 6, 2) := dq_21 dp_cX8_copy rfl
theorem dX8_copy_207 : decode cX8_copy 207 = .ok (.iload 5, 2) := dq_21 dp_cX8_copy rfl
theorem dX8_copy_209 : decode cX8_copy 209 = .ok (.if_icmp .ge 32, 3) := dq_162 (v := 32) dp_cX8_copy rfl rfl
theorem dX8_copy_212 : decode cX8_copy 212 = .ok (.aload_n 0, 1) := dq_42 dp_cX8_copy rfl
theorem dX8_copy_213 : decode cX8_copy 213 = .ok (.getfield 59, 3) := dq_180 dp_cX8_copy rfl
theorem dX8_copy_216 : decode cX8_copy 216 = .ok (.sipush 160, 3) := dq_17 (v := 160) dp_cX8_copy rfl rfl
theorem dX8_copy_219 : decode cX8_copy 219 = .ok (.iload_n 2, 1) := dq_28 dp_cX8_copy rfl
theorem dX8_copy_220 : decode cX8_copy 220 = .ok (.imul, 1) := dq_104 dp_cX8_copy rfl
theorem dX8_copy_221 : decode cX8_copy 221 = .ok (.iload 4, 2) := dq_21 dp_cX8_copy rfl
theorem dX8_copy_223 : decode cX8_copy 223 = .ok (.iadd, 1) := dq_96 dp_cX8_copy rfl
theorem dX8_copy_224 : decode cX8_copy 224 = .ok (.iload 6, 2) := dq_21 dp_cX8_copy rfl
theorem dX8_copy_226 : decode cX8_copy 226 = .ok (.iadd, 1) := dq_96 dp_cX8_copy rfl
theorem dX8_copy_227 : decode cX8_copy 227 = .ok (.aload_n 0, 1) := dq_42 dp_cX8_copy rfl
theorem dX8_copy_228 : decode cX8_copy 228 = .ok (.getfield 63, 3) := dq_180 dp_cX8_copy rfl
theorem dX8_copy_231 : decode cX8_copy 231 = .ok (.iload 6, 2) := dq_21 dp_cX8_copy rfl
theorem dX8_copy_233 : decode cX8_copy 233 = .ok (.laload, 1) := dq_47 dp_cX8_copy rfl
theorem dX8_copy_234 : decode cX8_copy 234 = .ok (.lastore, 1) := dq_80 dp_cX8_copy rfl
theorem dX8_copy_235 : decode cX8_copy 235 = .ok (.iinc 6 1, 3) := dq_132 (v := 1) dp_cX8_copy rfl (by decide) rfl
theorem dX8_copy_238 : decode cX8_copy 238 = .ok (.goto (-33), 3) := dq_167 (v := 65503) dp_cX8_copy rfl rfl
theorem dX8_copy_241 : decode cX8_copy 241 = .ok (.iconst 1, 1) := dq_4 dp_cX8_copy rfl
theorem dX8_copy_242 : decode cX8_copy 242 = .ok (.ireturn, 1) := dq_172 dp_cX8_copy rfl
set_option maxRecDepth 20000 in
theorem ggX8_element_X8_isShelf : GoodIn wsX8_element wsX8_isShelf := (dg_c 8 rfl rfl dg_0)
set_option maxRecDepth 20000 in
theorem gX8_element_X8_isShelf : GoodIn wsX8_element (wsV RX8 93 RX8 yX8_isShelf wsX8_isShelf) := goodIn_app (dg_c 4 rfl rfl (dg_c 5 rfl rfl (dg_c 6 rfl rfl (dg_c 7 rfl rfl dg_0)))) ggX8_element_X8_isShelf
theorem dX8_element_0 : decode cX8_element 0 = .ok (.aload_n 0, 1) := dq_42 dp_cX8_element rfl
theorem dX8_element_1 : decode cX8_element 1 = .ok (.iload_n 1, 1) := dq_27 dp_cX8_element rfl
theorem dX8_element_2 : decode cX8_element 2 = .ok (.invokevirtual 93, 3) := dq_182 dp_cX8_element rfl
theorem dX8_element_5 : decode cX8_element 5 = .ok (.ifCond .eq 42, 3) := dq_153 (v := 42) dp_cX8_element rfl rfl
theorem dX8_element_8 : decode cX8_element 8 = .ok (.aload_n 0, 1) := dq_42 dp_cX8_element rfl
theorem dX8_element_9 : decode cX8_element 9 = .ok (.getfield 47, 3) := dq_180 dp_cX8_element rfl
theorem dX8_element_12 : decode cX8_element 12 = .ok (.iload_n 1, 1) := dq_27 dp_cX8_element rfl
theorem dX8_element_13 : decode cX8_element 13 = .ok (.iaload, 1) := dq_46 dp_cX8_element rfl
theorem dX8_element_14 : decode cX8_element 14 = .ok (.iconst 1, 1) := dq_4 dp_cX8_element rfl
theorem dX8_element_15 : decode cX8_element 15 = .ok (.if_icmp .ne 32, 3) := dq_160 (v := 32) dp_cX8_element rfl rfl
theorem dX8_element_18 : decode cX8_element 18 = .ok (.iload_n 2, 1) := dq_28 dp_cX8_element rfl
theorem dX8_element_19 : decode cX8_element 19 = .ok (.ifCond .lt 28, 3) := dq_155 (v := 28) dp_cX8_element rfl rfl
theorem dX8_element_22 : decode cX8_element 22 = .ok (.iload_n 2, 1) := dq_28 dp_cX8_element rfl
theorem dX8_element_23 : decode cX8_element 23 = .ok (.aload_n 0, 1) := dq_42 dp_cX8_element rfl
theorem dX8_element_24 : decode cX8_element 24 = .ok (.getfield 53, 3) := dq_180 dp_cX8_element rfl
theorem dX8_element_27 : decode cX8_element 27 = .ok (.iload_n 1, 1) := dq_27 dp_cX8_element rfl
theorem dX8_element_28 : decode cX8_element 28 = .ok (.iaload, 1) := dq_46 dp_cX8_element rfl
theorem dX8_element_29 : decode cX8_element 29 = .ok (.if_icmp .ge 18, 3) := dq_162 (v := 18) dp_cX8_element rfl rfl
theorem dX8_element_32 : decode cX8_element 32 = .ok (.aload_n 0, 1) := dq_42 dp_cX8_element rfl
theorem dX8_element_33 : decode cX8_element 33 = .ok (.getfield 59, 3) := dq_180 dp_cX8_element rfl
theorem dX8_element_36 : decode cX8_element 36 = .ok (.sipush 160, 3) := dq_17 (v := 160) dp_cX8_element rfl rfl
theorem dX8_element_39 : decode cX8_element 39 = .ok (.iload_n 1, 1) := dq_27 dp_cX8_element rfl
theorem dX8_element_40 : decode cX8_element 40 = .ok (.imul, 1) := dq_104 dp_cX8_element rfl
theorem dX8_element_41 : decode cX8_element 41 = .ok (.iload_n 2, 1) := dq_28 dp_cX8_element rfl
theorem dX8_element_42 : decode cX8_element 42 = .ok (.iadd, 1) := dq_96 dp_cX8_element rfl
theorem dX8_element_43 : decode cX8_element 43 = .ok (.laload, 1) := dq_47 dp_cX8_element rfl
theorem dX8_element_44 : decode cX8_element 44 = .ok (.goto 4, 3) := dq_167 (v := 4) dp_cX8_element rfl rfl
theorem dX8_element_47 : decode cX8_element 47 = .ok (.lconst 0, 1) := dq_9 dp_cX8_element rfl
theorem dX8_element_48 : decode cX8_element 48 = .ok (.lreturn, 1) := dq_173 dp_cX8_element rfl
set_option maxRecDepth 20000 in
theorem ggX8_show_X8_isShelf : GoodIn wsX8_show wsX8_isShelf := (dg_c 7 rfl rfl dg_0)
set_option maxRecDepth 20000 in
theorem gX8_show_X8_isShelf : GoodIn wsX8_show (wsV RX8 93 RX8 yX8_isShelf wsX8_isShelf) := goodIn_app (dg_c 3 rfl rfl (dg_c 4 rfl rfl (dg_c 5 rfl rfl (dg_c 6 rfl rfl dg_0)))) ggX8_show_X8_isShelf
set_option maxRecDepth 20000 in
theorem gl_X8_show_X80 : GoodIn wsX8_show wsX80 := (dg_t (dg_t (dg_t (dg_t (dg_t (dg_t (dg_t (dg_t (dg_t (dg_t (dg_t (dg_t (dg_t (dg_t (dg_t (dg_t (dg_t (dg_t gw_wsX80))))))))))))))))))
theorem ggX8_show_X8_isPull : GoodIn wsX8_show wsX8_isPull := (dg_c 11 rfl rfl (dg_c 12 rfl rfl gl_X8_show_X80))
set_option maxRecDepth 20000 in
theorem gX8_show_X8_isPull : GoodIn wsX8_show (wsV RX8 101 RX8 yX8_isPull wsX8_isPull) := goodIn_app (dg_c 8 rfl rfl (dg_c 9 rfl rfl (dg_c 10 rfl rfl (dg_c 6 rfl rfl dg_0)))) ggX8_show_X8_isPull
set_option maxRecDepth 20000 in
theorem ggX8_show_X8_no : GoodIn wsX8_show wsX8_no := (dg_c 16 rfl rfl (dg_c 17 rfl rfl gl_X8_show_X80))
set_option maxRecDepth 20000 in
theorem gX8_show_X8_no : GoodIn wsX8_show (wsV RX8 97 RX8 yX8_no wsX8_no) := goodIn_app (dg_c 13 rfl rfl (dg_c 14 rfl rfl (dg_c 15 rfl rfl (dg_c 6 rfl rfl dg_0)))) ggX8_show_X8_no
theorem dX8_show_0 : decode cX8_show 0 = .ok (.aload_n 0, 1) := dq_42 dp_cX8_show rfl
theorem dX8_show_1 : decode cX8_show 1 = .ok (.iload_n 1, 1) := dq_27 dp_cX8_show rfl
theorem dX8_show_2 : decode cX8_show 2 = .ok (.invokevirtual 93, 3) := dq_182 dp_cX8_show rfl
theorem dX8_show_5 : decode cX8_show 5 = .ok (.ifCond .eq 16, 3) := dq_153 (v := 16) dp_cX8_show rfl rfl
theorem dX8_show_8 : decode cX8_show 8 = .ok (.iload_n 2, 1) := dq_28 dp_cX8_show rfl
theorem dX8_show_9 : decode cX8_show 9 = .ok (.iconst (-1), 1) := dq_2 dp_cX8_show rfl
theorem dX8_show_10 : decode cX8_show 10 = .ok (.if_icmp .eq 17, 3) := dq_159 (v := 17) dp_cX8_show rfl rfl
theorem dX8_show_13 : decode cX8_show 13 = .ok (.aload_n 0, 1) := dq_42 dp_cX8_show rfl
theorem dX8_show_14 : decode cX8_show 14 = .ok (.iload_n 2, 1) := dq_28 dp_cX8_show rfl
theorem dX8_show_15 : decode cX8_show 15 = .ok (.invokevirtual 101, 3) := dq_182 dp_cX8_show rfl
theorem dX8_show_18 : decode cX8_show 18 = .ok (.ifCond .ne 9, 3) := dq_154 (v := 9) dp_cX8_show rfl rfl
theorem dX8_show_21 : decode cX8_show 21 = .ok (.aload_n 0, 1) := dq_42 dp_cX8_show rfl
theorem dX8_show_22 : decode cX8_show 22 = .ok (.iconst (-1), 1) := dq_2 dp_cX8_show rfl
theorem dX8_show_23 : decode cX8_show 23 = .ok (.invokevirtual 97, 3) := dq_182 dp_cX8_show rfl
theorem dX8_show_26 : decode cX8_show 26 = .ok (.ireturn, 1) := dq_172 dp_cX8_show rfl
theorem dX8_show_27 : decode cX8_show 27 = .ok (.aload_n 0, 1) := dq_42 dp_cX8_show rfl
theorem dX8_show_28 : decode cX8_show 28 = .ok (.getfield 47, 3) := dq_180 dp_cX8_show rfl
theorem dX8_show_31 : decode cX8_show 31 = .ok (.iload_n 1, 1) := dq_27 dp_cX8_show rfl
theorem dX8_show_32 : decode cX8_show 32 = .ok (.iload_n 2, 1) := dq_28 dp_cX8_show rfl
theorem dX8_show_33 : decode cX8_show 33 = .ok (.iconst (-1), 1) := dq_2 dp_cX8_show rfl
theorem dX8_show_34 : decode cX8_show 34 = .ok (.if_icmp .ne 7, 3) := dq_160 (v := 7) dp_cX8_show rfl rfl
theorem dX8_show_37 : decode cX8_show 37 = .ok (.iconst 0, 1) := dq_3 dp_cX8_show rfl
theorem dX8_show_38 : decode cX8_show 38 = .ok (.goto 4, 3) := dq_167 (v := 4) dp_cX8_show rfl rfl
theorem dX8_show_41 : decode cX8_show 41 = .ok (.iconst 2, 1) := dq_5 dp_cX8_show rfl
theorem dX8_show_42 : decode cX8_show 42 = .ok (.iastore, 1) := dq_79 dp_cX8_show rfl
theorem dX8_show_43 : decode cX8_show 43 = .ok (.aload_n 0, 1) := dq_42 dp_cX8_show rfl
theorem dX8_show_44 : decode cX8_show 44 = .ok (.getfield 56, 3) := dq_180 dp_cX8_show rfl
theorem dX8_show_47 : decode cX8_show 47 = .ok (.iload_n 1, 1) := dq_27 dp_cX8_show rfl
theorem dX8_show_48 : decode cX8_show 48 = .ok (.iload_n 2, 1) := dq_28 dp_cX8_show rfl
theorem dX8_show_49 : decode cX8_show 49 = .ok (.iastore, 1) := dq_79 dp_cX8_show rfl
theorem dX8_show_50 : decode cX8_show 50 = .ok (.iload_n 2, 1) := dq_28 dp_cX8_show rfl
theorem dX8_show_51 : decode cX8_show 51 = .ok (.iconst (-1), 1) := dq_2 dp_cX8_show rfl
theorem dX8_show_52 : decode cX8_show 52 = .ok (.if_icmp .ne 7, 3) := dq_160 (v := 7) dp_cX8_show rfl rfl
theorem dX8_show_55 : decode cX8_show 55 = .ok (.iconst 0, 1) := dq_3 dp_cX8_show rfl
theorem dX8_show_56 : decode cX8_show 56 = .ok (.goto 4, 3) := dq_167 (v := 4) dp_cX8_show rfl rfl
theorem dX8_show_59 : decode cX8_show 59 = .ok (.iconst 1, 1) := dq_4 dp_cX8_show rfl
theorem dX8_show_60 : decode cX8_show 60 = .ok (.ireturn, 1) := dq_172 dp_cX8_show rfl
set_option maxRecDepth 20000 in
theorem ggX8_holds_X8_isShelf : GoodIn wsX8_holds wsX8_isShelf := (dg_c 8 rfl rfl dg_0)
set_option maxRecDepth 20000 in
theorem gX8_holds_X8_isShelf : GoodIn wsX8_holds (wsV RX8 93 RX8 yX8_isShelf wsX8_isShelf) := goodIn_app (dg_c 4 rfl rfl (dg_c 5 rfl rfl (dg_c 6 rfl rfl (dg_c 7 rfl rfl dg_0)))) ggX8_holds_X8_isShelf
theorem dX8_holds_0 : decode cX8_holds 0 = .ok (.aload_n 0, 1) := dq_42 dp_cX8_holds rfl
theorem dX8_holds_1 : decode cX8_holds 1 = .ok (.iload_n 1, 1) := dq_27 dp_cX8_holds rfl
theorem dX8_holds_2 : decode cX8_holds 2 = .ok (.invokevirtual 93, 3) := dq_182 dp_cX8_holds rfl
theorem dX8_holds_5 : decode cX8_holds 5 = .ok (.ifCond .eq 12, 3) := dq_153 (v := 12) dp_cX8_holds rfl rfl
theorem dX8_holds_8 : decode cX8_holds 8 = .ok (.aload_n 0, 1) := dq_42 dp_cX8_holds rfl
theorem dX8_holds_9 : decode cX8_holds 9 = .ok (.getfield 47, 3) := dq_180 dp_cX8_holds rfl
theorem dX8_holds_12 : decode cX8_holds 12 = .ok (.iload_n 1, 1) := dq_27 dp_cX8_holds rfl
theorem dX8_holds_13 : decode cX8_holds 13 = .ok (.iaload, 1) := dq_46 dp_cX8_holds rfl
theorem dX8_holds_14 : decode cX8_holds 14 = .ok (.ifCond .ne 5, 3) := dq_154 (v := 5) dp_cX8_holds rfl rfl
theorem dX8_holds_17 : decode cX8_holds 17 = .ok (.iconst (-1), 1) := dq_2 dp_cX8_holds rfl
theorem dX8_holds_18 : decode cX8_holds 18 = .ok (.ireturn, 1) := dq_172 dp_cX8_holds rfl
theorem dX8_holds_19 : decode cX8_holds 19 = .ok (.aload_n 0, 1) := dq_42 dp_cX8_holds rfl
theorem dX8_holds_20 : decode cX8_holds 20 = .ok (.getfield 47, 3) := dq_180 dp_cX8_holds rfl
theorem dX8_holds_23 : decode cX8_holds 23 = .ok (.iload_n 1, 1) := dq_27 dp_cX8_holds rfl
theorem dX8_holds_24 : decode cX8_holds 24 = .ok (.iaload, 1) := dq_46 dp_cX8_holds rfl
theorem dX8_holds_25 : decode cX8_holds 25 = .ok (.iconst 1, 1) := dq_4 dp_cX8_holds rfl
theorem dX8_holds_26 : decode cX8_holds 26 = .ok (.if_icmp .ne 15, 3) := dq_160 (v := 15) dp_cX8_holds rfl rfl
theorem dX8_holds_29 : decode cX8_holds 29 = .ok (.bipush 100, 2) := dq_16 (v := 100) dp_cX8_holds rfl rfl
theorem dX8_holds_31 : decode cX8_holds 31 = .ok (.aload_n 0, 1) := dq_42 dp_cX8_holds rfl
theorem dX8_holds_32 : decode cX8_holds 32 = .ok (.getfield 50, 3) := dq_180 dp_cX8_holds rfl
theorem dX8_holds_35 : decode cX8_holds 35 = .ok (.iload_n 1, 1) := dq_27 dp_cX8_holds rfl
theorem dX8_holds_36 : decode cX8_holds 36 = .ok (.iaload, 1) := dq_46 dp_cX8_holds rfl
theorem dX8_holds_37 : decode cX8_holds 37 = .ok (.iadd, 1) := dq_96 dp_cX8_holds rfl
theorem dX8_holds_38 : decode cX8_holds 38 = .ok (.goto 9, 3) := dq_167 (v := 9) dp_cX8_holds rfl rfl
theorem dX8_holds_41 : decode cX8_holds 41 = .ok (.aload_n 0, 1) := dq_42 dp_cX8_holds rfl
theorem dX8_holds_42 : decode cX8_holds 42 = .ok (.getfield 56, 3) := dq_180 dp_cX8_holds rfl
theorem dX8_holds_45 : decode cX8_holds 45 = .ok (.iload_n 1, 1) := dq_27 dp_cX8_holds rfl
theorem dX8_holds_46 : decode cX8_holds 46 = .ok (.iaload, 1) := dq_46 dp_cX8_holds rfl
theorem dX8_holds_47 : decode cX8_holds 47 = .ok (.ireturn, 1) := dq_172 dp_cX8_holds rfl
set_option maxRecDepth 20000 in
theorem ggX8_says_X8_isShelf : GoodIn wsX8_says wsX8_isShelf := (dg_c 9 rfl rfl dg_0)
set_option maxRecDepth 20000 in
theorem gX8_says_X8_isShelf : GoodIn wsX8_says (wsV RX8 93 RX8 yX8_isShelf wsX8_isShelf) := goodIn_app (dg_c 5 rfl rfl (dg_c 6 rfl rfl (dg_c 7 rfl rfl (dg_c 8 rfl rfl dg_0)))) ggX8_says_X8_isShelf
set_option maxRecDepth 20000 in
theorem gl_X8_says_X80 : GoodIn wsX8_says wsX80 := (dg_t (dg_t (dg_t (dg_t (dg_t (dg_t (dg_t (dg_t (dg_t (dg_t (dg_t (dg_t (dg_t (dg_t (dg_t (dg_t (dg_t (dg_t (dg_t (dg_t (dg_t (dg_t (dg_t (dg_t (dg_t gw_wsX80)))))))))))))))))))))))))
theorem ggX8_says_X8_no : GoodIn wsX8_says wsX8_no := (dg_c 13 rfl rfl (dg_c 14 rfl rfl gl_X8_says_X80))
set_option maxRecDepth 20000 in
theorem gX8_says_X8_no : GoodIn wsX8_says (wsV RX8 97 RX8 yX8_no wsX8_no) := goodIn_app (dg_c 10 rfl rfl (dg_c 11 rfl rfl (dg_c 12 rfl rfl (dg_c 8 rfl rfl dg_0)))) ggX8_says_X8_no
set_option maxRecDepth 20000 in
theorem ggX8_says_X8_step : GoodIn wsX8_says wsX8_step := (dg_c 18 rfl rfl (dg_c 3 rfl rfl (dg_c 19 rfl rfl gl_X8_says_X80)))
set_option maxRecDepth 20000 in
theorem gX8_says_X8_step : GoodIn wsX8_says (wsV RX8 104 RX8 yX8_step wsX8_step) := goodIn_app (dg_c 15 rfl rfl (dg_c 16 rfl rfl (dg_c 17 rfl rfl (dg_c 8 rfl rfl dg_0)))) ggX8_says_X8_step
set_option maxRecDepth 20000 in
theorem ggX8_says_X8_ways : GoodIn wsX8_says wsX8_ways := (dg_c 23 rfl rfl (dg_c 3 rfl rfl (dg_c 19 rfl rfl (dg_c 24 rfl rfl gl_X8_says_X80))))
set_option maxRecDepth 20000 in
theorem gX8_says_X8_ways : GoodIn wsX8_says (wsV RX8 107 RX8 yX8_ways wsX8_ways) := goodIn_app (dg_c 20 rfl rfl (dg_c 21 rfl rfl (dg_c 22 rfl rfl (dg_c 8 rfl rfl dg_0)))) ggX8_says_X8_ways
theorem dX8_says_0 : decode cX8_says 0 = .ok (.aload_n 0, 1) := dq_42 dp_cX8_says rfl
theorem dX8_says_1 : decode cX8_says 1 = .ok (.iload_n 1, 1) := dq_27 dp_cX8_says rfl
theorem dX8_says_2 : decode cX8_says 2 = .ok (.invokevirtual 93, 3) := dq_182 dp_cX8_says rfl
theorem dX8_says_5 : decode cX8_says 5 = .ok (.ifCond .eq 13, 3) := dq_153 (v := 13) dp_cX8_says rfl rfl
theorem dX8_says_8 : decode cX8_says 8 = .ok (.iload_n 2, 1) := dq_28 dp_cX8_says rfl
theorem dX8_says_9 : decode cX8_says 9 = .ok (.ifCond .lt 9, 3) := dq_155 (v := 9) dp_cX8_says rfl rfl
theorem dX8_says_12 : decode cX8_says 12 = .ok (.iload_n 2, 1) := dq_28 dp_cX8_says rfl
theorem dX8_says_13 : decode cX8_says 13 = .ok (.bipush 6, 2) := dq_16 (v := 6) dp_cX8_says rfl rfl
theorem dX8_says_15 : decode cX8_says 15 = .ok (.if_icmp .le 9, 3) := dq_164 (v := 9) dp_cX8_says rfl rfl
theorem dX8_says_18 : decode cX8_says 18 = .ok (.aload_n 0, 1) := dq_42 dp_cX8_says rfl
theorem dX8_says_19 : decode cX8_says 19 = .ok (.iconst (-1), 1) := dq_2 dp_cX8_says rfl
theorem dX8_says_20 : decode cX8_says 20 = .ok (.invokevirtual 97, 3) := dq_182 dp_cX8_says rfl
theorem dX8_says_23 : decode cX8_says 23 = .ok (.ireturn, 1) := dq_172 dp_cX8_says rfl
theorem dX8_says_24 : decode cX8_says 24 = .ok (.aload_n 0, 1) := dq_42 dp_cX8_says rfl
theorem dX8_says_25 : decode cX8_says 25 = .ok (.getfield 47, 3) := dq_180 dp_cX8_says rfl
theorem dX8_says_28 : decode cX8_says 28 = .ok (.iload_n 1, 1) := dq_27 dp_cX8_says rfl
theorem dX8_says_29 : decode cX8_says 29 = .ok (.iaload, 1) := dq_46 dp_cX8_says rfl
theorem dX8_says_30 : decode cX8_says 30 = .ok (.iconst 1, 1) := dq_4 dp_cX8_says rfl
theorem dX8_says_31 : decode cX8_says 31 = .ok (.if_icmp .ne 10, 3) := dq_160 (v := 10) dp_cX8_says rfl rfl
theorem dX8_says_34 : decode cX8_says 34 = .ok (.aload_n 0, 1) := dq_42 dp_cX8_says rfl
theorem dX8_says_35 : decode cX8_says 35 = .ok (.bipush (-2), 2) := dq_16 (v := 254) dp_cX8_says rfl rfl
theorem dX8_says_37 : decode cX8_says 37 = .ok (.invokevirtual 97, 3) := dq_182 dp_cX8_says rfl
theorem dX8_says_40 : decode cX8_says 40 = .ok (.ireturn, 1) := dq_172 dp_cX8_says rfl
theorem dX8_says_41 : decode cX8_says 41 = .ok (.aload_n 0, 1) := dq_42 dp_cX8_says rfl
theorem dX8_says_42 : decode cX8_says 42 = .ok (.getfield 47, 3) := dq_180 dp_cX8_says rfl
theorem dX8_says_45 : decode cX8_says 45 = .ok (.iload_n 1, 1) := dq_27 dp_cX8_says rfl
theorem dX8_says_46 : decode cX8_says 46 = .ok (.iaload, 1) := dq_46 dp_cX8_says rfl
theorem dX8_says_47 : decode cX8_says 47 = .ok (.ifCond .ne 10, 3) := dq_154 (v := 10) dp_cX8_says rfl rfl
theorem dX8_says_50 : decode cX8_says 50 = .ok (.aload_n 0, 1) := dq_42 dp_cX8_says rfl
theorem dX8_says_51 : decode cX8_says 51 = .ok (.bipush (-3), 2) := dq_16 (v := 253) dp_cX8_says rfl rfl
theorem dX8_says_53 : decode cX8_says 53 = .ok (.invokevirtual 97, 3) := dq_182 dp_cX8_says rfl
theorem dX8_says_56 : decode cX8_says 56 = .ok (.ireturn, 1) := dq_172 dp_cX8_says rfl
theorem dX8_says_57 : decode cX8_says 57 = .ok (.aload_n 0, 1) := dq_42 dp_cX8_says rfl
theorem dX8_says_58 : decode cX8_says 58 = .ok (.getfield 56, 3) := dq_180 dp_cX8_says rfl
theorem dX8_says_61 : decode cX8_says 61 = .ok (.iload_n 1, 1) := dq_27 dp_cX8_says rfl
theorem dX8_says_62 : decode cX8_says 62 = .ok (.iaload, 1) := dq_46 dp_cX8_says rfl
theorem dX8_says_63 : decode cX8_says 63 = .ok (.istore_n 3, 1) := dq_62 dp_cX8_says rfl
theorem dX8_says_64 : decode cX8_says 64 = .ok (.aload_n 0, 1) := dq_42 dp_cX8_says rfl
theorem dX8_says_65 : decode cX8_says 65 = .ok (.getfield 29, 3) := dq_180 dp_cX8_says rfl
theorem dX8_says_68 : decode cX8_says 68 = .ok (.iload_n 3, 1) := dq_29 dp_cX8_says rfl
theorem dX8_says_69 : decode cX8_says 69 = .ok (.iaload, 1) := dq_46 dp_cX8_says rfl
theorem dX8_says_70 : decode cX8_says 70 = .ok (.istore 4, 2) := dq_54 dp_cX8_says rfl
theorem dX8_says_72 : decode cX8_says 72 = .ok (.iload_n 2, 1) := dq_28 dp_cX8_says rfl
theorem dX8_says_73 : decode cX8_says 73 = .ok (.iconst 1, 1) := dq_4 dp_cX8_says rfl
theorem dX8_says_74 : decode cX8_says 74 = .ok (.if_icmp .ne 9, 3) := dq_160 (v := 9) dp_cX8_says rfl rfl
theorem dX8_says_77 : decode cX8_says 77 = .ok (.iload 4, 2) := dq_21 dp_cX8_says rfl
theorem dX8_says_79 : decode cX8_says 79 = .ok (.iconst 3, 1) := dq_6 dp_cX8_says rfl
theorem dX8_says_80 : decode cX8_says 80 = .ok (.if_icmp .eq 26, 3) := dq_159 (v := 26) dp_cX8_says rfl rfl
theorem dX8_says_83 : decode cX8_says 83 = .ok (.iload_n 2, 1) := dq_28 dp_cX8_says rfl
theorem dX8_says_84 : decode cX8_says 84 = .ok (.iconst 2, 1) := dq_5 dp_cX8_says rfl
theorem dX8_says_85 : decode cX8_says 85 = .ok (.if_icmp .ne 9, 3) := dq_160 (v := 9) dp_cX8_says rfl rfl
theorem dX8_says_88 : decode cX8_says 88 = .ok (.iload 4, 2) := dq_21 dp_cX8_says rfl
theorem dX8_says_90 : decode cX8_says 90 = .ok (.iconst 5, 1) := dq_8 dp_cX8_says rfl
theorem dX8_says_91 : decode cX8_says 91 = .ok (.if_icmp .eq 15, 3) := dq_159 (v := 15) dp_cX8_says rfl rfl
theorem dX8_says_94 : decode cX8_says 94 = .ok (.iload_n 2, 1) := dq_28 dp_cX8_says rfl
theorem dX8_says_95 : decode cX8_says 95 = .ok (.iconst 4, 1) := dq_7 dp_cX8_says rfl
theorem dX8_says_96 : decode cX8_says 96 = .ok (.if_icmp .ne 14, 3) := dq_160 (v := 14) dp_cX8_says rfl rfl
theorem dX8_says_99 : decode cX8_says 99 = .ok (.iload 4, 2) := dq_21 dp_cX8_says rfl
theorem dX8_says_101 : decode cX8_says 101 = .ok (.bipush 6, 2) := dq_16 (v := 6) dp_cX8_says rfl rfl
theorem dX8_says_103 : decode cX8_says 103 = .ok (.if_icmp .ne 7, 3) := dq_160 (v := 7) dp_cX8_says rfl rfl
theorem dX8_says_106 : decode cX8_says 106 = .ok (.iconst 1, 1) := dq_4 dp_cX8_says rfl
theorem dX8_says_107 : decode cX8_says 107 = .ok (.goto 4, 3) := dq_167 (v := 4) dp_cX8_says rfl rfl
theorem dX8_says_110 : decode cX8_says 110 = .ok (.iconst 0, 1) := dq_3 dp_cX8_says rfl
theorem dX8_says_111 : decode cX8_says 111 = .ok (.istore 5, 2) := dq_54 dp_cX8_says rfl
theorem dX8_says_113 : decode cX8_says 113 = .ok (.iload_n 2, 1) := dq_28 dp_cX8_says rfl
theorem dX8_says_114 : decode cX8_says 114 = .ok (.ifCond .eq 21, 3) := dq_153 (v := 21) dp_cX8_says rfl rfl
theorem dX8_says_117 : decode cX8_says 117 = .ok (.iload_n 2, 1) := dq_28 dp_cX8_says rfl
theorem dX8_says_118 : decode cX8_says 118 = .ok (.iload 4, 2) := dq_21 dp_cX8_says rfl
theorem dX8_says_120 : decode cX8_says 120 = .ok (.if_icmp .eq 15, 3) := dq_159 (v := 15) dp_cX8_says rfl rfl
theorem dX8_says_123 : decode cX8_says 123 = .ok (.iload 5, 2) := dq_21 dp_cX8_says rfl
theorem dX8_says_125 : decode cX8_says 125 = .ok (.ifCond .ne 10, 3) := dq_154 (v := 10) dp_cX8_says rfl rfl
theorem dX8_says_128 : decode cX8_says 128 = .ok (.aload_n 0, 1) := dq_42 dp_cX8_says rfl
theorem dX8_says_129 : decode cX8_says 129 = .ok (.bipush (-2), 2) := dq_16 (v := 254) dp_cX8_says rfl rfl
theorem dX8_says_131 : decode cX8_says 131 = .ok (.invokevirtual 97, 3) := dq_182 dp_cX8_says rfl
theorem dX8_says_134 : decode cX8_says 134 = .ok (.ireturn, 1) := dq_172 dp_cX8_says rfl
theorem dX8_says_135 : decode cX8_says 135 = .ok (.iload_n 2, 1) := dq_28 dp_cX8_says rfl
theorem dX8_says_136 : decode cX8_says 136 = .ok (.tableswitch 61 0 5 #[40, 61, 47, 61, 53, 47], 40) := by decide +kernel
theorem dX8_says_176 : decode cX8_says 176 = .ok (.aload_n 0, 1) := dq_42 dp_cX8_says rfl
theorem dX8_says_177 : decode cX8_says 177 = .ok (.getfield 35, 3) := dq_180 dp_cX8_says rfl
theorem dX8_says_180 : decode cX8_says 180 = .ok (.iload_n 3, 1) := dq_29 dp_cX8_says rfl
theorem dX8_says_181 : decode cX8_says 181 = .ok (.iaload, 1) := dq_46 dp_cX8_says rfl
theorem dX8_says_182 : decode cX8_says 182 = .ok (.ireturn, 1) := dq_172 dp_cX8_says rfl
theorem dX8_says_183 : decode cX8_says 183 = .ok (.aload_n 0, 1) := dq_42 dp_cX8_says rfl
theorem dX8_says_184 : decode cX8_says 184 = .ok (.iload_n 3, 1) := dq_29 dp_cX8_says rfl
theorem dX8_says_185 : decode cX8_says 185 = .ok (.invokevirtual 104, 3) := dq_182 dp_cX8_says rfl
theorem dX8_says_188 : decode cX8_says 188 = .ok (.ireturn, 1) := dq_172 dp_cX8_says rfl
theorem dX8_says_189 : decode cX8_says 189 = .ok (.aload_n 0, 1) := dq_42 dp_cX8_says rfl
theorem dX8_says_190 : decode cX8_says 190 = .ok (.iload_n 3, 1) := dq_29 dp_cX8_says rfl
theorem dX8_says_191 : decode cX8_says 191 = .ok (.bipush 12, 2) := dq_16 (v := 12) dp_cX8_says rfl rfl
theorem dX8_says_193 : decode cX8_says 193 = .ok (.invokevirtual 107, 3) := dq_182 dp_cX8_says rfl
theorem dX8_says_196 : decode cX8_says 196 = .ok (.ireturn, 1) := dq_172 dp_cX8_says rfl
theorem dX8_says_197 : decode cX8_says 197 = .ok (.aload_n 0, 1) := dq_42 dp_cX8_says rfl
theorem dX8_says_198 : decode cX8_says 198 = .ok (.iload_n 3, 1) := dq_29 dp_cX8_says rfl
theorem dX8_says_199 : decode cX8_says 199 = .ok (.bipush 8, 2) := dq_16 (v := 8) dp_cX8_says rfl rfl
theorem dX8_says_201 : decode cX8_says 201 = .ok (.invokevirtual 107, 3) := dq_182 dp_cX8_says rfl
theorem dX8_says_204 : decode cX8_says 204 = .ok (.ireturn, 1) := dq_172 dp_cX8_says rfl
set_option maxRecDepth 20000 in
theorem ggX8_wanted_X8_isShelf : GoodIn wsX8_wanted wsX8_isShelf := (dg_c 6 rfl rfl dg_0)
set_option maxRecDepth 20000 in
theorem gX8_wanted_X8_isShelf : GoodIn wsX8_wanted (wsV RX8 93 RX8 yX8_isShelf wsX8_isShelf) := goodIn_app (dg_c 2 rfl rfl (dg_c 3 rfl rfl (dg_c 4 rfl rfl (dg_c 5 rfl rfl dg_0)))) ggX8_wanted_X8_isShelf
theorem dX8_wanted_0 : decode cX8_wanted 0 = .ok (.aload_n 0, 1) := dq_42 dp_cX8_wanted rfl
theorem dX8_wanted_1 : decode cX8_wanted 1 = .ok (.iload_n 1, 1) := dq_27 dp_cX8_wanted rfl
theorem dX8_wanted_2 : decode cX8_wanted 2 = .ok (.invokevirtual 93, 3) := dq_182 dp_cX8_wanted rfl
theorem dX8_wanted_5 : decode cX8_wanted 5 = .ok (.ifCond .ne 7, 3) := dq_154 (v := 7) dp_cX8_wanted rfl rfl
theorem dX8_wanted_8 : decode cX8_wanted 8 = .ok (.iconst (-1), 1) := dq_2 dp_cX8_wanted rfl
theorem dX8_wanted_9 : decode cX8_wanted 9 = .ok (.goto 33, 3) := dq_167 (v := 33) dp_cX8_wanted rfl rfl
theorem dX8_wanted_12 : decode cX8_wanted 12 = .ok (.aload_n 0, 1) := dq_42 dp_cX8_wanted rfl
theorem dX8_wanted_13 : decode cX8_wanted 13 = .ok (.getfield 47, 3) := dq_180 dp_cX8_wanted rfl
theorem dX8_wanted_16 : decode cX8_wanted 16 = .ok (.iload_n 1, 1) := dq_27 dp_cX8_wanted rfl
theorem dX8_wanted_17 : decode cX8_wanted 17 = .ok (.iaload, 1) := dq_46 dp_cX8_wanted rfl
theorem dX8_wanted_18 : decode cX8_wanted 18 = .ok (.iconst 2, 1) := dq_5 dp_cX8_wanted rfl
theorem dX8_wanted_19 : decode cX8_wanted 19 = .ok (.if_icmp .ne 8, 3) := dq_160 (v := 8) dp_cX8_wanted rfl rfl
theorem dX8_wanted_22 : decode cX8_wanted 22 = .ok (.bipush (-2), 2) := dq_16 (v := 254) dp_cX8_wanted rfl rfl
theorem dX8_wanted_24 : decode cX8_wanted 24 = .ok (.goto 18, 3) := dq_167 (v := 18) dp_cX8_wanted rfl rfl
theorem dX8_wanted_27 : decode cX8_wanted 27 = .ok (.aload_n 0, 1) := dq_42 dp_cX8_wanted rfl
theorem dX8_wanted_28 : decode cX8_wanted 28 = .ok (.getfield 47, 3) := dq_180 dp_cX8_wanted rfl
theorem dX8_wanted_31 : decode cX8_wanted 31 = .ok (.iload_n 1, 1) := dq_27 dp_cX8_wanted rfl
theorem dX8_wanted_32 : decode cX8_wanted 32 = .ok (.iaload, 1) := dq_46 dp_cX8_wanted rfl
theorem dX8_wanted_33 : decode cX8_wanted 33 = .ok (.ifCond .ne 8, 3) := dq_154 (v := 8) dp_cX8_wanted rfl rfl
theorem dX8_wanted_36 : decode cX8_wanted 36 = .ok (.bipush (-3), 2) := dq_16 (v := 253) dp_cX8_wanted rfl rfl
theorem dX8_wanted_38 : decode cX8_wanted 38 = .ok (.goto 4, 3) := dq_167 (v := 4) dp_cX8_wanted rfl rfl
theorem dX8_wanted_41 : decode cX8_wanted 41 = .ok (.iconst 0, 1) := dq_3 dp_cX8_wanted rfl
theorem dX8_wanted_42 : decode cX8_wanted 42 = .ok (.ireturn, 1) := dq_172 dp_cX8_wanted rfl
theorem dX8_intAt_0 : decode cX8_intAt 0 = .ok (.aload_n 0, 1) := dq_42 dp_cX8_intAt rfl
theorem dX8_intAt_1 : decode cX8_intAt 1 = .ok (.getfield 59, 3) := dq_180 dp_cX8_intAt rfl
theorem dX8_intAt_4 : decode cX8_intAt 4 = .ok (.sipush 160, 3) := dq_17 (v := 160) dp_cX8_intAt rfl rfl
theorem dX8_intAt_7 : decode cX8_intAt 7 = .ok (.iload_n 1, 1) := dq_27 dp_cX8_intAt rfl
theorem dX8_intAt_8 : decode cX8_intAt 8 = .ok (.imul, 1) := dq_104 dp_cX8_intAt rfl
theorem dX8_intAt_9 : decode cX8_intAt 9 = .ok (.iload_n 2, 1) := dq_28 dp_cX8_intAt rfl
theorem dX8_intAt_10 : decode cX8_intAt 10 = .ok (.iadd, 1) := dq_96 dp_cX8_intAt rfl
theorem dX8_intAt_11 : decode cX8_intAt 11 = .ok (.laload, 1) := dq_47 dp_cX8_intAt rfl
theorem dX8_intAt_12 : decode cX8_intAt 12 = .ok (.l2i, 1) := dq_136 dp_cX8_intAt rfl
theorem dX8_intAt_13 : decode cX8_intAt 13 = .ok (.ireturn, 1) := dq_172 dp_cX8_intAt rfl
theorem dX8_addsPull_0 : decode cX8_addsPull 0 = .ok (.aload_n 0, 1) := dq_42 dp_cX8_addsPull rfl
theorem dX8_addsPull_1 : decode cX8_addsPull 1 = .ok (.getfield 29, 3) := dq_180 dp_cX8_addsPull rfl
theorem dX8_addsPull_4 : decode cX8_addsPull 4 = .ok (.aload_n 0, 1) := dq_42 dp_cX8_addsPull rfl
theorem dX8_addsPull_5 : decode cX8_addsPull 5 = .ok (.getfield 90, 3) := dq_180 dp_cX8_addsPull rfl
theorem dX8_addsPull_8 : decode cX8_addsPull 8 = .ok (.iload_n 1, 1) := dq_27 dp_cX8_addsPull rfl
theorem dX8_addsPull_9 : decode cX8_addsPull 9 = .ok (.iastore, 1) := dq_79 dp_cX8_addsPull rfl
theorem dX8_addsPull_10 : decode cX8_addsPull 10 = .ok (.aload_n 0, 1) := dq_42 dp_cX8_addsPull rfl
theorem dX8_addsPull_11 : decode cX8_addsPull 11 = .ok (.getfield 32, 3) := dq_180 dp_cX8_addsPull rfl
theorem dX8_addsPull_14 : decode cX8_addsPull 14 = .ok (.aload_n 0, 1) := dq_42 dp_cX8_addsPull rfl
theorem dX8_addsPull_15 : decode cX8_addsPull 15 = .ok (.getfield 90, 3) := dq_180 dp_cX8_addsPull rfl
theorem dX8_addsPull_18 : decode cX8_addsPull 18 = .ok (.iload_n 2, 1) := dq_28 dp_cX8_addsPull rfl
theorem dX8_addsPull_19 : decode cX8_addsPull 19 = .ok (.iastore, 1) := dq_79 dp_cX8_addsPull rfl
theorem dX8_addsPull_20 : decode cX8_addsPull 20 = .ok (.aload_n 0, 1) := dq_42 dp_cX8_addsPull rfl
theorem dX8_addsPull_21 : decode cX8_addsPull 21 = .ok (.getfield 35, 3) := dq_180 dp_cX8_addsPull rfl
theorem dX8_addsPull_24 : decode cX8_addsPull 24 = .ok (.aload_n 0, 1) := dq_42 dp_cX8_addsPull rfl
theorem dX8_addsPull_25 : decode cX8_addsPull 25 = .ok (.getfield 90, 3) := dq_180 dp_cX8_addsPull rfl
theorem dX8_addsPull_28 : decode cX8_addsPull 28 = .ok (.iload_n 3, 1) := dq_29 dp_cX8_addsPull rfl
theorem dX8_addsPull_29 : decode cX8_addsPull 29 = .ok (.iastore, 1) := dq_79 dp_cX8_addsPull rfl
theorem dX8_addsPull_30 : decode cX8_addsPull 30 = .ok (.aload_n 0, 1) := dq_42 dp_cX8_addsPull rfl
theorem dX8_addsPull_31 : decode cX8_addsPull 31 = .ok (.dup, 1) := dq_89 dp_cX8_addsPull rfl
theorem dX8_addsPull_32 : decode cX8_addsPull 32 = .ok (.getfield 90, 3) := dq_180 dp_cX8_addsPull rfl
theorem dX8_addsPull_35 : decode cX8_addsPull 35 = .ok (.dup_x1, 1) := dq_90 dp_cX8_addsPull rfl
theorem dX8_addsPull_36 : decode cX8_addsPull 36 = .ok (.iconst 1, 1) := dq_4 dp_cX8_addsPull rfl
theorem dX8_addsPull_37 : decode cX8_addsPull 37 = .ok (.iadd, 1) := dq_96 dp_cX8_addsPull rfl
theorem dX8_addsPull_38 : decode cX8_addsPull 38 = .ok (.putfield 90, 3) := dq_181 dp_cX8_addsPull rfl
theorem dX8_addsPull_41 : decode cX8_addsPull 41 = .ok (.ireturn, 1) := dq_172 dp_cX8_addsPull rfl
set_option maxRecDepth 20000 in
theorem gl_X8_pull_X80 : GoodIn wsX8_pull wsX80 := (dg_t (dg_t (dg_t (dg_t (dg_t (dg_t (dg_t (dg_t (dg_t (dg_t (dg_t (dg_t (dg_t (dg_t (dg_t gw_wsX80)))))))))))))))
theorem ggX8_pull_X8_no : GoodIn wsX8_pull wsX8_no := (dg_c 6 rfl rfl (dg_c 7 rfl rfl gl_X8_pull_X80))
set_option maxRecDepth 20000 in
theorem gX8_pull_X8_no : GoodIn wsX8_pull (wsV RX8 97 RX8 yX8_no wsX8_no) := goodIn_app (dg_c 2 rfl rfl (dg_c 3 rfl rfl (dg_c 4 rfl rfl (dg_c 5 rfl rfl dg_0)))) ggX8_pull_X8_no
set_option maxRecDepth 20000 in
theorem ggX8_pull_X8_addsPull : GoodIn wsX8_pull wsX8_addsPull := (dg_c 11 rfl rfl (dg_c 12 rfl rfl (dg_c 1 rfl rfl (dg_c 13 rfl rfl (dg_c 14 rfl rfl gl_X8_pull_X80)))))
set_option maxRecDepth 20000 in
theorem gX8_pull_X8_addsPull : GoodIn wsX8_pull (wsV RX8 111 RX8 yX8_addsPull wsX8_addsPull) := goodIn_app (dg_c 8 rfl rfl (dg_c 9 rfl rfl (dg_c 10 rfl rfl (dg_c 5 rfl rfl dg_0)))) ggX8_pull_X8_addsPull
theorem dX8_pull_0 : decode cX8_pull 0 = .ok (.iload_n 1, 1) := dq_27 dp_cX8_pull rfl
theorem dX8_pull_1 : decode cX8_pull 1 = .ok (.ifCond .lt 9, 3) := dq_155 (v := 9) dp_cX8_pull rfl rfl
theorem dX8_pull_4 : decode cX8_pull 4 = .ok (.iload_n 1, 1) := dq_27 dp_cX8_pull rfl
theorem dX8_pull_5 : decode cX8_pull 5 = .ok (.bipush 6, 2) := dq_16 (v := 6) dp_cX8_pull rfl rfl
theorem dX8_pull_7 : decode cX8_pull 7 = .ok (.if_icmp .le 9, 3) := dq_164 (v := 9) dp_cX8_pull rfl rfl
theorem dX8_pull_10 : decode cX8_pull 10 = .ok (.aload_n 0, 1) := dq_42 dp_cX8_pull rfl
theorem dX8_pull_11 : decode cX8_pull 11 = .ok (.iconst (-1), 1) := dq_2 dp_cX8_pull rfl
theorem dX8_pull_12 : decode cX8_pull 12 = .ok (.invokevirtual 97, 3) := dq_182 dp_cX8_pull rfl
theorem dX8_pull_15 : decode cX8_pull 15 = .ok (.ireturn, 1) := dq_172 dp_cX8_pull rfl
theorem dX8_pull_16 : decode cX8_pull 16 = .ok (.iload_n 2, 1) := dq_28 dp_cX8_pull rfl
theorem dX8_pull_17 : decode cX8_pull 17 = .ok (.ifCond .lt 20, 3) := dq_155 (v := 20) dp_cX8_pull rfl rfl
theorem dX8_pull_20 : decode cX8_pull 20 = .ok (.iload_n 2, 1) := dq_28 dp_cX8_pull rfl
theorem dX8_pull_21 : decode cX8_pull 21 = .ok (.bipush 9, 2) := dq_16 (v := 9) dp_cX8_pull rfl rfl
theorem dX8_pull_23 : decode cX8_pull 23 = .ok (.if_icmp .gt 14, 3) := dq_163 (v := 14) dp_cX8_pull rfl rfl
theorem dX8_pull_26 : decode cX8_pull 26 = .ok (.iload_n 3, 1) := dq_29 dp_cX8_pull rfl
theorem dX8_pull_27 : decode cX8_pull 27 = .ok (.iconst 1, 1) := dq_4 dp_cX8_pull rfl
theorem dX8_pull_28 : decode cX8_pull 28 = .ok (.if_icmp .lt 9, 3) := dq_161 (v := 9) dp_cX8_pull rfl rfl
theorem dX8_pull_31 : decode cX8_pull 31 = .ok (.iload_n 3, 1) := dq_29 dp_cX8_pull rfl
theorem dX8_pull_32 : decode cX8_pull 32 = .ok (.bipush 60, 2) := dq_16 (v := 60) dp_cX8_pull rfl rfl
theorem dX8_pull_34 : decode cX8_pull 34 = .ok (.if_icmp .le 10, 3) := dq_164 (v := 10) dp_cX8_pull rfl rfl
theorem dX8_pull_37 : decode cX8_pull 37 = .ok (.aload_n 0, 1) := dq_42 dp_cX8_pull rfl
theorem dX8_pull_38 : decode cX8_pull 38 = .ok (.bipush (-6), 2) := dq_16 (v := 250) dp_cX8_pull rfl rfl
theorem dX8_pull_40 : decode cX8_pull 40 = .ok (.invokevirtual 97, 3) := dq_182 dp_cX8_pull rfl
theorem dX8_pull_43 : decode cX8_pull 43 = .ok (.ireturn, 1) := dq_172 dp_cX8_pull rfl
theorem dX8_pull_44 : decode cX8_pull 44 = .ok (.aload_n 0, 1) := dq_42 dp_cX8_pull rfl
theorem dX8_pull_45 : decode cX8_pull 45 = .ok (.getfield 90, 3) := dq_180 dp_cX8_pull rfl
theorem dX8_pull_48 : decode cX8_pull 48 = .ok (.bipush 8, 2) := dq_16 (v := 8) dp_cX8_pull rfl rfl
theorem dX8_pull_50 : decode cX8_pull 50 = .ok (.if_icmp .ne 12, 3) := dq_160 (v := 12) dp_cX8_pull rfl rfl
theorem dX8_pull_53 : decode cX8_pull 53 = .ok (.aload_n 0, 1) := dq_42 dp_cX8_pull rfl
theorem dX8_pull_54 : decode cX8_pull 54 = .ok (.bipush (-7), 2) := dq_16 (v := 249) dp_cX8_pull rfl rfl
theorem dX8_pull_56 : decode cX8_pull 56 = .ok (.invokevirtual 97, 3) := dq_182 dp_cX8_pull rfl
theorem dX8_pull_59 : decode cX8_pull 59 = .ok (.goto 10, 3) := dq_167 (v := 10) dp_cX8_pull rfl rfl
theorem dX8_pull_62 : decode cX8_pull 62 = .ok (.aload_n 0, 1) := dq_42 dp_cX8_pull rfl
theorem dX8_pull_63 : decode cX8_pull 63 = .ok (.iload_n 1, 1) := dq_27 dp_cX8_pull rfl
theorem dX8_pull_64 : decode cX8_pull 64 = .ok (.iload_n 2, 1) := dq_28 dp_cX8_pull rfl
theorem dX8_pull_65 : decode cX8_pull 65 = .ok (.iload_n 3, 1) := dq_29 dp_cX8_pull rfl
theorem dX8_pull_66 : decode cX8_pull 66 = .ok (.invokevirtual 111, 3) := dq_182 dp_cX8_pull rfl
theorem dX8_pull_69 : decode cX8_pull 69 = .ok (.ireturn, 1) := dq_172 dp_cX8_pull rfl
set_option maxRecDepth 20000 in
theorem gl_X8_pullOf_X80 : GoodIn wsX8_pullOf wsX80 := (dg_t (dg_t (dg_t (dg_t (dg_t (dg_t (dg_t (dg_t (dg_t (dg_t (dg_t (dg_t (dg_t (dg_t (dg_t (dg_t (dg_t (dg_t (dg_t (dg_t (dg_t (dg_t (dg_t (dg_t (dg_t gw_wsX80)))))))))))))))))))))))))
theorem ggX8_pullOf_X8_isPull : GoodIn wsX8_pullOf wsX8_isPull := (dg_c 10 rfl rfl (dg_c 11 rfl rfl gl_X8_pullOf_X80))
set_option maxRecDepth 20000 in
theorem gX8_pullOf_X8_isPull : GoodIn wsX8_pullOf (wsV RX8 101 RX8 yX8_isPull wsX8_isPull) := goodIn_app (dg_c 6 rfl rfl (dg_c 7 rfl rfl (dg_c 8 rfl rfl (dg_c 9 rfl rfl dg_0)))) ggX8_pullOf_X8_isPull
set_option maxRecDepth 20000 in
theorem ggX8_pullOf_X8_no : GoodIn wsX8_pullOf wsX8_no := (dg_c 15 rfl rfl (dg_c 16 rfl rfl gl_X8_pullOf_X80))
set_option maxRecDepth 20000 in
theorem gX8_pullOf_X8_no : GoodIn wsX8_pullOf (wsV RX8 97 RX8 yX8_no wsX8_no) := goodIn_app (dg_c 12 rfl rfl (dg_c 13 rfl rfl (dg_c 14 rfl rfl (dg_c 9 rfl rfl dg_0)))) ggX8_pullOf_X8_no
set_option maxRecDepth 20000 in
theorem ggX8_pullOf_X8_step : GoodIn wsX8_pullOf wsX8_step := (dg_c 20 rfl rfl (dg_c 1 rfl rfl (dg_c 2 rfl rfl gl_X8_pullOf_X80)))
set_option maxRecDepth 20000 in
theorem gX8_pullOf_X8_step : GoodIn wsX8_pullOf (wsV RX8 104 RX8 yX8_step wsX8_step) := goodIn_app (dg_c 17 rfl rfl (dg_c 18 rfl rfl (dg_c 19 rfl rfl (dg_c 9 rfl rfl dg_0)))) ggX8_pullOf_X8_step
set_option maxRecDepth 20000 in
theorem ggX8_pullOf_X8_mayBe : GoodIn wsX8_pullOf wsX8_mayBe := (dg_c 24 rfl rfl (dg_c 3 rfl rfl gl_X8_pullOf_X80))
set_option maxRecDepth 20000 in
theorem gX8_pullOf_X8_mayBe : GoodIn wsX8_pullOf (wsV RX8 118 RX8 yX8_mayBe wsX8_mayBe) := goodIn_app (dg_c 21 rfl rfl (dg_c 22 rfl rfl (dg_c 23 rfl rfl (dg_c 9 rfl rfl dg_0)))) ggX8_pullOf_X8_mayBe
theorem dX8_pullOf_0 : decode cX8_pullOf 0 = .ok (.aload_n 0, 1) := dq_42 dp_cX8_pullOf rfl
theorem dX8_pullOf_1 : decode cX8_pullOf 1 = .ok (.iload_n 1, 1) := dq_27 dp_cX8_pullOf rfl
theorem dX8_pullOf_2 : decode cX8_pullOf 2 = .ok (.invokevirtual 101, 3) := dq_182 dp_cX8_pullOf rfl
theorem dX8_pullOf_5 : decode cX8_pullOf 5 = .ok (.ifCond .ne 10, 3) := dq_154 (v := 10) dp_cX8_pullOf rfl rfl
theorem dX8_pullOf_8 : decode cX8_pullOf 8 = .ok (.aload_n 0, 1) := dq_42 dp_cX8_pullOf rfl
theorem dX8_pullOf_9 : decode cX8_pullOf 9 = .ok (.bipush (-5), 2) := dq_16 (v := 251) dp_cX8_pullOf rfl rfl
theorem dX8_pullOf_11 : decode cX8_pullOf 11 = .ok (.invokevirtual 97, 3) := dq_182 dp_cX8_pullOf rfl
theorem dX8_pullOf_14 : decode cX8_pullOf 14 = .ok (.ireturn, 1) := dq_172 dp_cX8_pullOf rfl
theorem dX8_pullOf_15 : decode cX8_pullOf 15 = .ok (.iload_n 2, 1) := dq_28 dp_cX8_pullOf rfl
theorem dX8_pullOf_16 : decode cX8_pullOf 16 = .ok (.tableswitch 85 0 4 #[36, 43, 50, 57, 63], 36) := by decide +kernel
theorem dX8_pullOf_52 : decode cX8_pullOf 52 = .ok (.aload_n 0, 1) := dq_42 dp_cX8_pullOf rfl
theorem dX8_pullOf_53 : decode cX8_pullOf 53 = .ok (.getfield 29, 3) := dq_180 dp_cX8_pullOf rfl
theorem dX8_pullOf_56 : decode cX8_pullOf 56 = .ok (.iload_n 1, 1) := dq_27 dp_cX8_pullOf rfl
theorem dX8_pullOf_57 : decode cX8_pullOf 57 = .ok (.iaload, 1) := dq_46 dp_cX8_pullOf rfl
theorem dX8_pullOf_58 : decode cX8_pullOf 58 = .ok (.ireturn, 1) := dq_172 dp_cX8_pullOf rfl
theorem dX8_pullOf_59 : decode cX8_pullOf 59 = .ok (.aload_n 0, 1) := dq_42 dp_cX8_pullOf rfl
theorem dX8_pullOf_60 : decode cX8_pullOf 60 = .ok (.getfield 32, 3) := dq_180 dp_cX8_pullOf rfl
theorem dX8_pullOf_63 : decode cX8_pullOf 63 = .ok (.iload_n 1, 1) := dq_27 dp_cX8_pullOf rfl
theorem dX8_pullOf_64 : decode cX8_pullOf 64 = .ok (.iaload, 1) := dq_46 dp_cX8_pullOf rfl
theorem dX8_pullOf_65 : decode cX8_pullOf 65 = .ok (.ireturn, 1) := dq_172 dp_cX8_pullOf rfl
theorem dX8_pullOf_66 : decode cX8_pullOf 66 = .ok (.aload_n 0, 1) := dq_42 dp_cX8_pullOf rfl
theorem dX8_pullOf_67 : decode cX8_pullOf 67 = .ok (.getfield 35, 3) := dq_180 dp_cX8_pullOf rfl
theorem dX8_pullOf_70 : decode cX8_pullOf 70 = .ok (.iload_n 1, 1) := dq_27 dp_cX8_pullOf rfl
theorem dX8_pullOf_71 : decode cX8_pullOf 71 = .ok (.iaload, 1) := dq_46 dp_cX8_pullOf rfl
theorem dX8_pullOf_72 : decode cX8_pullOf 72 = .ok (.ireturn, 1) := dq_172 dp_cX8_pullOf rfl
theorem dX8_pullOf_73 : decode cX8_pullOf 73 = .ok (.aload_n 0, 1) := dq_42 dp_cX8_pullOf rfl
theorem dX8_pullOf_74 : decode cX8_pullOf 74 = .ok (.iload_n 1, 1) := dq_27 dp_cX8_pullOf rfl
theorem dX8_pullOf_75 : decode cX8_pullOf 75 = .ok (.invokevirtual 104, 3) := dq_182 dp_cX8_pullOf rfl
theorem dX8_pullOf_78 : decode cX8_pullOf 78 = .ok (.ireturn, 1) := dq_172 dp_cX8_pullOf rfl
theorem dX8_pullOf_79 : decode cX8_pullOf 79 = .ok (.aload_n 0, 1) := dq_42 dp_cX8_pullOf rfl
theorem dX8_pullOf_80 : decode cX8_pullOf 80 = .ok (.iload_n 1, 1) := dq_27 dp_cX8_pullOf rfl
theorem dX8_pullOf_81 : decode cX8_pullOf 81 = .ok (.aload_n 0, 1) := dq_42 dp_cX8_pullOf rfl
theorem dX8_pullOf_82 : decode cX8_pullOf 82 = .ok (.getfield 115, 3) := dq_180 dp_cX8_pullOf rfl
theorem dX8_pullOf_85 : decode cX8_pullOf 85 = .ok (.aload_n 0, 1) := dq_42 dp_cX8_pullOf rfl
theorem dX8_pullOf_86 : decode cX8_pullOf 86 = .ok (.getfield 13, 3) := dq_180 dp_cX8_pullOf rfl
theorem dX8_pullOf_89 : decode cX8_pullOf 89 = .ok (.invokevirtual 118, 3) := dq_182 dp_cX8_pullOf rfl
theorem dX8_pullOf_92 : decode cX8_pullOf 92 = .ok (.ifCond .eq 7, 3) := dq_153 (v := 7) dp_cX8_pullOf rfl rfl
theorem dX8_pullOf_95 : decode cX8_pullOf 95 = .ok (.iconst 1, 1) := dq_4 dp_cX8_pullOf rfl
theorem dX8_pullOf_96 : decode cX8_pullOf 96 = .ok (.goto 4, 3) := dq_167 (v := 4) dp_cX8_pullOf rfl rfl
theorem dX8_pullOf_99 : decode cX8_pullOf 99 = .ok (.iconst 0, 1) := dq_3 dp_cX8_pullOf rfl
theorem dX8_pullOf_100 : decode cX8_pullOf 100 = .ok (.ireturn, 1) := dq_172 dp_cX8_pullOf rfl
theorem dX8_pullOf_101 : decode cX8_pullOf 101 = .ok (.aload_n 0, 1) := dq_42 dp_cX8_pullOf rfl
theorem dX8_pullOf_102 : decode cX8_pullOf 102 = .ok (.bipush (-5), 2) := dq_16 (v := 251) dp_cX8_pullOf rfl rfl
theorem dX8_pullOf_104 : decode cX8_pullOf 104 = .ok (.invokevirtual 97, 3) := dq_182 dp_cX8_pullOf rfl
theorem dX8_pullOf_107 : decode cX8_pullOf 107 = .ok (.ireturn, 1) := dq_172 dp_cX8_pullOf rfl
theorem dX8_sews_0 : decode cX8_sews 0 = .ok (.aload_n 0, 1) := dq_42 dp_cX8_sews rfl
theorem dX8_sews_1 : decode cX8_sews 1 = .ok (.iload_n 1, 1) := dq_27 dp_cX8_sews rfl
theorem dX8_sews_2 : decode cX8_sews 2 = .ok (.putfield 7, 3) := dq_181 dp_cX8_sews rfl
theorem dX8_sews_5 : decode cX8_sews 5 = .ok (.aload_n 0, 1) := dq_42 dp_cX8_sews rfl
theorem dX8_sews_6 : decode cX8_sews 6 = .ok (.iconst 0, 1) := dq_3 dp_cX8_sews rfl
theorem dX8_sews_7 : decode cX8_sews 7 = .ok (.putfield 122, 3) := dq_181 dp_cX8_sews rfl
theorem dX8_sews_10 : decode cX8_sews 10 = .ok (.iconst 0, 1) := dq_3 dp_cX8_sews rfl
theorem dX8_sews_11 : decode cX8_sews 11 = .ok (.istore_n 2, 1) := dq_61 dp_cX8_sews rfl
theorem dX8_sews_12 : decode cX8_sews 12 = .ok (.iload_n 2, 1) := dq_28 dp_cX8_sews rfl
theorem dX8_sews_13 : decode cX8_sews 13 = .ok (.bipush 40, 2) := dq_16 (v := 40) dp_cX8_sews rfl rfl
theorem dX8_sews_15 : decode cX8_sews 15 = .ok (.if_icmp .ge 23, 3) := dq_162 (v := 23) dp_cX8_sews rfl rfl
theorem dX8_sews_18 : decode cX8_sews 18 = .ok (.aload_n 0, 1) := dq_42 dp_cX8_sews rfl
theorem dX8_sews_19 : decode cX8_sews 19 = .ok (.getfield 38, 3) := dq_180 dp_cX8_sews rfl
theorem dX8_sews_22 : decode cX8_sews 22 = .ok (.iload_n 2, 1) := dq_28 dp_cX8_sews rfl
theorem dX8_sews_23 : decode cX8_sews 23 = .ok (.iconst 0, 1) := dq_3 dp_cX8_sews rfl
theorem dX8_sews_24 : decode cX8_sews 24 = .ok (.iastore, 1) := dq_79 dp_cX8_sews rfl
theorem dX8_sews_25 : decode cX8_sews 25 = .ok (.aload_n 0, 1) := dq_42 dp_cX8_sews rfl
theorem dX8_sews_26 : decode cX8_sews 26 = .ok (.getfield 41, 3) := dq_180 dp_cX8_sews rfl
theorem dX8_sews_29 : decode cX8_sews 29 = .ok (.iload_n 2, 1) := dq_28 dp_cX8_sews rfl
theorem dX8_sews_30 : decode cX8_sews 30 = .ok (.iconst 0, 1) := dq_3 dp_cX8_sews rfl
theorem dX8_sews_31 : decode cX8_sews 31 = .ok (.iastore, 1) := dq_79 dp_cX8_sews rfl
theorem dX8_sews_32 : decode cX8_sews 32 = .ok (.iinc 2 1, 3) := dq_132 (v := 1) dp_cX8_sews rfl (by decide) rfl
theorem dX8_sews_35 : decode cX8_sews 35 = .ok (.goto (-23), 3) := dq_167 (v := 65513) dp_cX8_sews rfl rfl
theorem dX8_sews_38 : decode cX8_sews 38 = .ok (.return_, 1) := dq_177 dp_cX8_sews rfl
set_option maxRecDepth 20000 in
theorem gl_X8_teeth_X80 : GoodIn wsX8_teeth wsX80 := (dg_t (dg_t (dg_t (dg_t (dg_t (dg_t (dg_t (dg_t (dg_t (dg_t (dg_t (dg_t (dg_t (dg_t (dg_t gw_wsX80)))))))))))))))
theorem ggX8_teeth_X8_no : GoodIn wsX8_teeth wsX8_no := (dg_c 6 rfl rfl (dg_c 7 rfl rfl gl_X8_teeth_X80))
set_option maxRecDepth 20000 in
theorem gX8_teeth_X8_no : GoodIn wsX8_teeth (wsV RX8 97 RX8 yX8_no wsX8_no) := goodIn_app (dg_c 2 rfl rfl (dg_c 3 rfl rfl (dg_c 4 rfl rfl (dg_c 5 rfl rfl dg_0)))) ggX8_teeth_X8_no
set_option maxRecDepth 20000 in
theorem ggX8_teeth_X8_sews : GoodIn wsX8_teeth wsX8_sews := (dg_c 11 rfl rfl (dg_c 1 rfl rfl (dg_c 12 rfl rfl (dg_c 13 rfl rfl (dg_c 14 rfl rfl gl_X8_teeth_X80)))))
set_option maxRecDepth 20000 in
theorem gX8_teeth_X8_sews : GoodIn wsX8_teeth (wsV RX8 125 RX8 yX8_sews wsX8_sews) := goodIn_app (dg_c 8 rfl rfl (dg_c 9 rfl rfl (dg_c 10 rfl rfl (dg_c 5 rfl rfl dg_0)))) ggX8_teeth_X8_sews
theorem dX8_teeth_0 : decode cX8_teeth 0 = .ok (.iload_n 1, 1) := dq_27 dp_cX8_teeth rfl
theorem dX8_teeth_1 : decode cX8_teeth 1 = .ok (.iconst 4, 1) := dq_7 dp_cX8_teeth rfl
theorem dX8_teeth_2 : decode cX8_teeth 2 = .ok (.if_icmp .lt 9, 3) := dq_161 (v := 9) dp_cX8_teeth rfl rfl
theorem dX8_teeth_5 : decode cX8_teeth 5 = .ok (.iload_n 1, 1) := dq_27 dp_cX8_teeth rfl
theorem dX8_teeth_6 : decode cX8_teeth 6 = .ok (.bipush 40, 2) := dq_16 (v := 40) dp_cX8_teeth rfl rfl
theorem dX8_teeth_8 : decode cX8_teeth 8 = .ok (.if_icmp .le 10, 3) := dq_164 (v := 10) dp_cX8_teeth rfl rfl
theorem dX8_teeth_11 : decode cX8_teeth 11 = .ok (.aload_n 0, 1) := dq_42 dp_cX8_teeth rfl
theorem dX8_teeth_12 : decode cX8_teeth 12 = .ok (.bipush (-6), 2) := dq_16 (v := 250) dp_cX8_teeth rfl rfl
theorem dX8_teeth_14 : decode cX8_teeth 14 = .ok (.invokevirtual 97, 3) := dq_182 dp_cX8_teeth rfl
theorem dX8_teeth_17 : decode cX8_teeth 17 = .ok (.ireturn, 1) := dq_172 dp_cX8_teeth rfl
theorem dX8_teeth_18 : decode cX8_teeth 18 = .ok (.aload_n 0, 1) := dq_42 dp_cX8_teeth rfl
theorem dX8_teeth_19 : decode cX8_teeth 19 = .ok (.getfield 7, 3) := dq_180 dp_cX8_teeth rfl
theorem dX8_teeth_22 : decode cX8_teeth 22 = .ok (.istore_n 2, 1) := dq_61 dp_cX8_teeth rfl
theorem dX8_teeth_23 : decode cX8_teeth 23 = .ok (.aload_n 0, 1) := dq_42 dp_cX8_teeth rfl
theorem dX8_teeth_24 : decode cX8_teeth 24 = .ok (.iload_n 1, 1) := dq_27 dp_cX8_teeth rfl
theorem dX8_teeth_25 : decode cX8_teeth 25 = .ok (.invokevirtual 125, 3) := dq_182 dp_cX8_teeth rfl
theorem dX8_teeth_28 : decode cX8_teeth 28 = .ok (.iload_n 2, 1) := dq_28 dp_cX8_teeth rfl
theorem dX8_teeth_29 : decode cX8_teeth 29 = .ok (.ireturn, 1) := dq_172 dp_cX8_teeth rfl
set_option maxRecDepth 20000 in
theorem gl_X8_lack_X80 : GoodIn wsX8_lack wsX80 := (dg_t (dg_t (dg_t (dg_t (dg_t (dg_t (dg_t (dg_t (dg_t (dg_t (dg_t (dg_t (dg_t gw_wsX80)))))))))))))
theorem ggX8_lack_X8_isTooth : GoodIn wsX8_lack wsX8_isTooth := (dg_c 6 rfl rfl (dg_c 7 rfl rfl gl_X8_lack_X80))
set_option maxRecDepth 20000 in
theorem gX8_lack_X8_isTooth : GoodIn wsX8_lack (wsV RX8 129 RX8 yX8_isTooth wsX8_isTooth) := goodIn_app (dg_c 2 rfl rfl (dg_c 3 rfl rfl (dg_c 4 rfl rfl (dg_c 5 rfl rfl dg_0)))) ggX8_lack_X8_isTooth
set_option maxRecDepth 20000 in
theorem ggX8_lack_X8_no : GoodIn wsX8_lack wsX8_no := (dg_c 11 rfl rfl (dg_c 12 rfl rfl gl_X8_lack_X80))
set_option maxRecDepth 20000 in
theorem gX8_lack_X8_no : GoodIn wsX8_lack (wsV RX8 97 RX8 yX8_no wsX8_no) := goodIn_app (dg_c 8 rfl rfl (dg_c 9 rfl rfl (dg_c 10 rfl rfl (dg_c 5 rfl rfl dg_0)))) ggX8_lack_X8_no
theorem dX8_lack_0 : decode cX8_lack 0 = .ok (.aload_n 0, 1) := dq_42 dp_cX8_lack rfl
theorem dX8_lack_1 : decode cX8_lack 1 = .ok (.iload_n 1, 1) := dq_27 dp_cX8_lack rfl
theorem dX8_lack_2 : decode cX8_lack 2 = .ok (.invokevirtual 129, 3) := dq_182 dp_cX8_lack rfl
theorem dX8_lack_5 : decode cX8_lack 5 = .ok (.ifCond .ne 9, 3) := dq_154 (v := 9) dp_cX8_lack rfl rfl
theorem dX8_lack_8 : decode cX8_lack 8 = .ok (.aload_n 0, 1) := dq_42 dp_cX8_lack rfl
theorem dX8_lack_9 : decode cX8_lack 9 = .ok (.iconst (-1), 1) := dq_2 dp_cX8_lack rfl
theorem dX8_lack_10 : decode cX8_lack 10 = .ok (.invokevirtual 97, 3) := dq_182 dp_cX8_lack rfl
theorem dX8_lack_13 : decode cX8_lack 13 = .ok (.ireturn, 1) := dq_172 dp_cX8_lack rfl
theorem dX8_lack_14 : decode cX8_lack 14 = .ok (.aload_n 0, 1) := dq_42 dp_cX8_lack rfl
theorem dX8_lack_15 : decode cX8_lack 15 = .ok (.getfield 38, 3) := dq_180 dp_cX8_lack rfl
theorem dX8_lack_18 : decode cX8_lack 18 = .ok (.iload_n 1, 1) := dq_27 dp_cX8_lack rfl
theorem dX8_lack_19 : decode cX8_lack 19 = .ok (.iaload, 1) := dq_46 dp_cX8_lack rfl
theorem dX8_lack_20 : decode cX8_lack 20 = .ok (.istore_n 3, 1) := dq_62 dp_cX8_lack rfl
theorem dX8_lack_21 : decode cX8_lack 21 = .ok (.aload_n 0, 1) := dq_42 dp_cX8_lack rfl
theorem dX8_lack_22 : decode cX8_lack 22 = .ok (.getfield 38, 3) := dq_180 dp_cX8_lack rfl
theorem dX8_lack_25 : decode cX8_lack 25 = .ok (.iload_n 1, 1) := dq_27 dp_cX8_lack rfl
theorem dX8_lack_26 : decode cX8_lack 26 = .ok (.iload_n 2, 1) := dq_28 dp_cX8_lack rfl
theorem dX8_lack_27 : decode cX8_lack 27 = .ok (.ifCond .eq 7, 3) := dq_153 (v := 7) dp_cX8_lack rfl rfl
theorem dX8_lack_30 : decode cX8_lack 30 = .ok (.iconst 1, 1) := dq_4 dp_cX8_lack rfl
theorem dX8_lack_31 : decode cX8_lack 31 = .ok (.goto 4, 3) := dq_167 (v := 4) dp_cX8_lack rfl rfl
theorem dX8_lack_34 : decode cX8_lack 34 = .ok (.iconst 0, 1) := dq_3 dp_cX8_lack rfl
theorem dX8_lack_35 : decode cX8_lack 35 = .ok (.iastore, 1) := dq_79 dp_cX8_lack rfl
theorem dX8_lack_36 : decode cX8_lack 36 = .ok (.iload_n 3, 1) := dq_29 dp_cX8_lack rfl
theorem dX8_lack_37 : decode cX8_lack 37 = .ok (.ireturn, 1) := dq_172 dp_cX8_lack rfl
set_option maxRecDepth 20000 in
theorem gl_X8_slack_X80 : GoodIn wsX8_slack wsX80 := (dg_t (dg_t (dg_t (dg_t (dg_t (dg_t (dg_t (dg_t (dg_t (dg_t (dg_t (dg_t (dg_t gw_wsX80)))))))))))))
theorem ggX8_slack_X8_isTooth : GoodIn wsX8_slack wsX8_isTooth := (dg_c 6 rfl rfl (dg_c 7 rfl rfl gl_X8_slack_X80))
set_option maxRecDepth 20000 in
theorem gX8_slack_X8_isTooth : GoodIn wsX8_slack (wsV RX8 129 RX8 yX8_isTooth wsX8_isTooth) := goodIn_app (dg_c 2 rfl rfl (dg_c 3 rfl rfl (dg_c 4 rfl rfl (dg_c 5 rfl rfl dg_0)))) ggX8_slack_X8_isTooth
set_option maxRecDepth 20000 in
theorem ggX8_slack_X8_no : GoodIn wsX8_slack wsX8_no := (dg_c 11 rfl rfl (dg_c 12 rfl rfl gl_X8_slack_X80))
set_option maxRecDepth 20000 in
theorem gX8_slack_X8_no : GoodIn wsX8_slack (wsV RX8 97 RX8 yX8_no wsX8_no) := goodIn_app (dg_c 8 rfl rfl (dg_c 9 rfl rfl (dg_c 10 rfl rfl (dg_c 5 rfl rfl dg_0)))) ggX8_slack_X8_no
theorem dX8_slack_0 : decode cX8_slack 0 = .ok (.aload_n 0, 1) := dq_42 dp_cX8_slack rfl
theorem dX8_slack_1 : decode cX8_slack 1 = .ok (.iload_n 1, 1) := dq_27 dp_cX8_slack rfl
theorem dX8_slack_2 : decode cX8_slack 2 = .ok (.invokevirtual 129, 3) := dq_182 dp_cX8_slack rfl
theorem dX8_slack_5 : decode cX8_slack 5 = .ok (.ifCond .ne 9, 3) := dq_154 (v := 9) dp_cX8_slack rfl rfl
theorem dX8_slack_8 : decode cX8_slack 8 = .ok (.aload_n 0, 1) := dq_42 dp_cX8_slack rfl
theorem dX8_slack_9 : decode cX8_slack 9 = .ok (.iconst (-1), 1) := dq_2 dp_cX8_slack rfl
theorem dX8_slack_10 : decode cX8_slack 10 = .ok (.invokevirtual 97, 3) := dq_182 dp_cX8_slack rfl
theorem dX8_slack_13 : decode cX8_slack 13 = .ok (.ireturn, 1) := dq_172 dp_cX8_slack rfl
theorem dX8_slack_14 : decode cX8_slack 14 = .ok (.iload_n 2, 1) := dq_28 dp_cX8_slack rfl
theorem dX8_slack_15 : decode cX8_slack 15 = .ok (.ifCond .lt 9, 3) := dq_155 (v := 9) dp_cX8_slack rfl rfl
theorem dX8_slack_18 : decode cX8_slack 18 = .ok (.iload_n 2, 1) := dq_28 dp_cX8_slack rfl
theorem dX8_slack_19 : decode cX8_slack 19 = .ok (.bipush 9, 2) := dq_16 (v := 9) dp_cX8_slack rfl rfl
theorem dX8_slack_21 : decode cX8_slack 21 = .ok (.if_icmp .le 10, 3) := dq_164 (v := 10) dp_cX8_slack rfl rfl
theorem dX8_slack_24 : decode cX8_slack 24 = .ok (.aload_n 0, 1) := dq_42 dp_cX8_slack rfl
theorem dX8_slack_25 : decode cX8_slack 25 = .ok (.bipush (-6), 2) := dq_16 (v := 250) dp_cX8_slack rfl rfl
theorem dX8_slack_27 : decode cX8_slack 27 = .ok (.invokevirtual 97, 3) := dq_182 dp_cX8_slack rfl
theorem dX8_slack_30 : decode cX8_slack 30 = .ok (.ireturn, 1) := dq_172 dp_cX8_slack rfl
theorem dX8_slack_31 : decode cX8_slack 31 = .ok (.aload_n 0, 1) := dq_42 dp_cX8_slack rfl
theorem dX8_slack_32 : decode cX8_slack 32 = .ok (.getfield 41, 3) := dq_180 dp_cX8_slack rfl
theorem dX8_slack_35 : decode cX8_slack 35 = .ok (.iload_n 1, 1) := dq_27 dp_cX8_slack rfl
theorem dX8_slack_36 : decode cX8_slack 36 = .ok (.iaload, 1) := dq_46 dp_cX8_slack rfl
theorem dX8_slack_37 : decode cX8_slack 37 = .ok (.istore_n 3, 1) := dq_62 dp_cX8_slack rfl
theorem dX8_slack_38 : decode cX8_slack 38 = .ok (.aload_n 0, 1) := dq_42 dp_cX8_slack rfl
theorem dX8_slack_39 : decode cX8_slack 39 = .ok (.getfield 41, 3) := dq_180 dp_cX8_slack rfl
theorem dX8_slack_42 : decode cX8_slack 42 = .ok (.iload_n 1, 1) := dq_27 dp_cX8_slack rfl
theorem dX8_slack_43 : decode cX8_slack 43 = .ok (.iload_n 2, 1) := dq_28 dp_cX8_slack rfl
theorem dX8_slack_44 : decode cX8_slack 44 = .ok (.iastore, 1) := dq_79 dp_cX8_slack rfl
theorem dX8_slack_45 : decode cX8_slack 45 = .ok (.iload_n 3, 1) := dq_29 dp_cX8_slack rfl
theorem dX8_slack_46 : decode cX8_slack 46 = .ok (.ireturn, 1) := dq_172 dp_cX8_slack rfl
theorem dX8_most_0 : decode cX8_most 0 = .ok (.iload_n 1, 1) := dq_27 dp_cX8_most rfl
theorem dX8_most_1 : decode cX8_most 1 = .ok (.ifCond .ne 8, 3) := dq_154 (v := 8) dp_cX8_most rfl rfl
theorem dX8_most_4 : decode cX8_most 4 = .ok (.bipush 24, 2) := dq_16 (v := 24) dp_cX8_most rfl rfl
theorem dX8_most_6 : decode cX8_most 6 = .ok (.goto 44, 3) := dq_167 (v := 44) dp_cX8_most rfl rfl
theorem dX8_most_9 : decode cX8_most 9 = .ok (.iload_n 1, 1) := dq_27 dp_cX8_most rfl
theorem dX8_most_10 : decode cX8_most 10 = .ok (.iconst 1, 1) := dq_4 dp_cX8_most rfl
theorem dX8_most_11 : decode cX8_most 11 = .ok (.if_icmp .ne 9, 3) := dq_160 (v := 9) dp_cX8_most rfl rfl
theorem dX8_most_14 : decode cX8_most 14 = .ok (.sipush 300, 3) := dq_17 (v := 300) dp_cX8_most rfl rfl
theorem dX8_most_17 : decode cX8_most 17 = .ok (.goto 33, 3) := dq_167 (v := 33) dp_cX8_most rfl rfl
theorem dX8_most_20 : decode cX8_most 20 = .ok (.iload_n 1, 1) := dq_27 dp_cX8_most rfl
theorem dX8_most_21 : decode cX8_most 21 = .ok (.iconst 2, 1) := dq_5 dp_cX8_most rfl
theorem dX8_most_22 : decode cX8_most 22 = .ok (.if_icmp .eq 8, 3) := dq_159 (v := 8) dp_cX8_most rfl rfl
theorem dX8_most_25 : decode cX8_most 25 = .ok (.iload_n 1, 1) := dq_27 dp_cX8_most rfl
theorem dX8_most_26 : decode cX8_most 26 = .ok (.iconst 3, 1) := dq_6 dp_cX8_most rfl
theorem dX8_most_27 : decode cX8_most 27 = .ok (.if_icmp .ne 8, 3) := dq_160 (v := 8) dp_cX8_most rfl rfl
theorem dX8_most_30 : decode cX8_most 30 = .ok (.bipush 9, 2) := dq_16 (v := 9) dp_cX8_most rfl rfl
theorem dX8_most_32 : decode cX8_most 32 = .ok (.goto 18, 3) := dq_167 (v := 18) dp_cX8_most rfl rfl
theorem dX8_most_35 : decode cX8_most 35 = .ok (.iload_n 1, 1) := dq_27 dp_cX8_most rfl
theorem dX8_most_36 : decode cX8_most 36 = .ok (.bipush 7, 2) := dq_16 (v := 7) dp_cX8_most rfl rfl
theorem dX8_most_38 : decode cX8_most 38 = .ok (.if_icmp .ne 10, 3) := dq_160 (v := 10) dp_cX8_most rfl rfl
theorem dX8_most_41 : decode cX8_most 41 = .ok (.aload_n 0, 1) := dq_42 dp_cX8_most rfl
theorem dX8_most_42 : decode cX8_most 42 = .ok (.getfield 7, 3) := dq_180 dp_cX8_most rfl
theorem dX8_most_45 : decode cX8_most 45 = .ok (.goto 5, 3) := dq_167 (v := 5) dp_cX8_most rfl rfl
theorem dX8_most_48 : decode cX8_most 48 = .ok (.bipush 99, 2) := dq_16 (v := 99) dp_cX8_most rfl rfl
theorem dX8_most_50 : decode cX8_most 50 = .ok (.ireturn, 1) := dq_172 dp_cX8_most rfl
set_option maxRecDepth 20000 in
theorem gl_X8_isAsked_X80 : GoodIn wsX8_isAsked wsX80 := (dg_t (dg_t (dg_t (dg_t (dg_t (dg_t (dg_t gw_wsX80)))))))
theorem ggX8_isAsked_X8_most : GoodIn wsX8_isAsked wsX8_most := (dg_c 5 rfl rfl (dg_c 6 rfl rfl gl_X8_isAsked_X80))
set_option maxRecDepth 20000 in
theorem gX8_isAsked_X8_most : GoodIn wsX8_isAsked (wsV RX8 132 RX8 yX8_most wsX8_most) := goodIn_app (dg_c 1 rfl rfl (dg_c 2 rfl rfl (dg_c 3 rfl rfl (dg_c 4 rfl rfl dg_0)))) ggX8_isAsked_X8_most
theorem dX8_isAsked_0 : decode cX8_isAsked 0 = .ok (.iload_n 2, 1) := dq_28 dp_cX8_isAsked rfl
theorem dX8_isAsked_1 : decode cX8_isAsked 1 = .ok (.iload_n 1, 1) := dq_27 dp_cX8_isAsked rfl
theorem dX8_isAsked_2 : decode cX8_isAsked 2 = .ok (.iconst 3, 1) := dq_6 dp_cX8_isAsked rfl
theorem dX8_isAsked_3 : decode cX8_isAsked 3 = .ok (.if_icmp .ne 7, 3) := dq_160 (v := 7) dp_cX8_isAsked rfl rfl
theorem dX8_isAsked_6 : decode cX8_isAsked 6 = .ok (.iconst 1, 1) := dq_4 dp_cX8_isAsked rfl
theorem dX8_isAsked_7 : decode cX8_isAsked 7 = .ok (.goto 4, 3) := dq_167 (v := 4) dp_cX8_isAsked rfl rfl
theorem dX8_isAsked_10 : decode cX8_isAsked 10 = .ok (.iconst 0, 1) := dq_3 dp_cX8_isAsked rfl
theorem dX8_isAsked_11 : decode cX8_isAsked 11 = .ok (.if_icmp .lt 16, 3) := dq_161 (v := 16) dp_cX8_isAsked rfl rfl
theorem dX8_isAsked_14 : decode cX8_isAsked 14 = .ok (.iload_n 2, 1) := dq_28 dp_cX8_isAsked rfl
theorem dX8_isAsked_15 : decode cX8_isAsked 15 = .ok (.aload_n 0, 1) := dq_42 dp_cX8_isAsked rfl
theorem dX8_isAsked_16 : decode cX8_isAsked 16 = .ok (.iload_n 1, 1) := dq_27 dp_cX8_isAsked rfl
theorem dX8_isAsked_17 : decode cX8_isAsked 17 = .ok (.invokevirtual 132, 3) := dq_182 dp_cX8_isAsked rfl
theorem dX8_isAsked_20 : decode cX8_isAsked 20 = .ok (.if_icmp .gt 7, 3) := dq_163 (v := 7) dp_cX8_isAsked rfl rfl
theorem dX8_isAsked_23 : decode cX8_isAsked 23 = .ok (.iconst 1, 1) := dq_4 dp_cX8_isAsked rfl
theorem dX8_isAsked_24 : decode cX8_isAsked 24 = .ok (.goto 4, 3) := dq_167 (v := 4) dp_cX8_isAsked rfl rfl
theorem dX8_isAsked_27 : decode cX8_isAsked 27 = .ok (.iconst 0, 1) := dq_3 dp_cX8_isAsked rfl
theorem dX8_isAsked_28 : decode cX8_isAsked 28 = .ok (.ireturn, 1) := dq_172 dp_cX8_isAsked rfl
theorem dX8_told_0 : decode cX8_told 0 = .ok (.iload_n 1, 1) := dq_27 dp_cX8_told rfl
theorem dX8_told_1 : decode cX8_told 1 = .ok (.tableswitch 72 0 7 #[47, 52, 57, 62, 72, 72, 72, 67], 47) := by decide +kernel
theorem dX8_told_48 : decode cX8_told 48 = .ok (.aload_n 0, 1) := dq_42 dp_cX8_told rfl
theorem dX8_told_49 : decode cX8_told 49 = .ok (.getfield 115, 3) := dq_180 dp_cX8_told rfl
theorem dX8_told_52 : decode cX8_told 52 = .ok (.ireturn, 1) := dq_172 dp_cX8_told rfl
theorem dX8_told_53 : decode cX8_told 53 = .ok (.aload_n 0, 1) := dq_42 dp_cX8_told rfl
theorem dX8_told_54 : decode cX8_told 54 = .ok (.getfield 13, 3) := dq_180 dp_cX8_told rfl
theorem dX8_told_57 : decode cX8_told 57 = .ok (.ireturn, 1) := dq_172 dp_cX8_told rfl
theorem dX8_told_58 : decode cX8_told 58 = .ok (.aload_n 0, 1) := dq_42 dp_cX8_told rfl
theorem dX8_told_59 : decode cX8_told 59 = .ok (.getfield 135, 3) := dq_180 dp_cX8_told rfl
theorem dX8_told_62 : decode cX8_told 62 = .ok (.ireturn, 1) := dq_172 dp_cX8_told rfl
theorem dX8_told_63 : decode cX8_told 63 = .ok (.aload_n 0, 1) := dq_42 dp_cX8_told rfl
theorem dX8_told_64 : decode cX8_told 64 = .ok (.getfield 16, 3) := dq_180 dp_cX8_told rfl
theorem dX8_told_67 : decode cX8_told 67 = .ok (.ireturn, 1) := dq_172 dp_cX8_told rfl
theorem dX8_told_68 : decode cX8_told 68 = .ok (.aload_n 0, 1) := dq_42 dp_cX8_told rfl
theorem dX8_told_69 : decode cX8_told 69 = .ok (.getfield 122, 3) := dq_180 dp_cX8_told rfl
theorem dX8_told_72 : decode cX8_told 72 = .ok (.ireturn, 1) := dq_172 dp_cX8_told rfl
theorem dX8_told_73 : decode cX8_told 73 = .ok (.aload_n 0, 1) := dq_42 dp_cX8_told rfl
theorem dX8_told_74 : decode cX8_told 74 = .ok (.getfield 44, 3) := dq_180 dp_cX8_told rfl
theorem dX8_told_77 : decode cX8_told 77 = .ok (.iload_n 1, 1) := dq_27 dp_cX8_told rfl
theorem dX8_told_78 : decode cX8_told 78 = .ok (.iconst 4, 1) := dq_7 dp_cX8_told rfl
theorem dX8_told_79 : decode cX8_told 79 = .ok (.isub, 1) := dq_100 dp_cX8_told rfl
theorem dX8_told_80 : decode cX8_told 80 = .ok (.iaload, 1) := dq_46 dp_cX8_told rfl
theorem dX8_told_81 : decode cX8_told 81 = .ok (.ireturn, 1) := dq_172 dp_cX8_told rfl
theorem dX8_tells_0 : decode cX8_tells 0 = .ok (.iload_n 1, 1) := dq_27 dp_cX8_tells rfl
theorem dX8_tells_1 : decode cX8_tells 1 = .ok (.tableswitch 87 0 7 #[47, 55, 63, 71, 87, 87, 87, 79], 47) := by decide +kernel
theorem dX8_tells_48 : decode cX8_tells 48 = .ok (.aload_n 0, 1) := dq_42 dp_cX8_tells rfl
theorem dX8_tells_49 : decode cX8_tells 49 = .ok (.iload_n 2, 1) := dq_28 dp_cX8_tells rfl
theorem dX8_tells_50 : decode cX8_tells 50 = .ok (.putfield 115, 3) := dq_181 dp_cX8_tells rfl
theorem dX8_tells_53 : decode cX8_tells 53 = .ok (.goto 44, 3) := dq_167 (v := 44) dp_cX8_tells rfl rfl
theorem dX8_tells_56 : decode cX8_tells 56 = .ok (.aload_n 0, 1) := dq_42 dp_cX8_tells rfl
theorem dX8_tells_57 : decode cX8_tells 57 = .ok (.iload_n 2, 1) := dq_28 dp_cX8_tells rfl
theorem dX8_tells_58 : decode cX8_tells 58 = .ok (.putfield 13, 3) := dq_181 dp_cX8_tells rfl
theorem dX8_tells_61 : decode cX8_tells 61 = .ok (.goto 36, 3) := dq_167 (v := 36) dp_cX8_tells rfl rfl
theorem dX8_tells_64 : decode cX8_tells 64 = .ok (.aload_n 0, 1) := dq_42 dp_cX8_tells rfl
theorem dX8_tells_65 : decode cX8_tells 65 = .ok (.iload_n 2, 1) := dq_28 dp_cX8_tells rfl
theorem dX8_tells_66 : decode cX8_tells 66 = .ok (.putfield 135, 3) := dq_181 dp_cX8_tells rfl
theorem dX8_tells_69 : decode cX8_tells 69 = .ok (.goto 28, 3) := dq_167 (v := 28) dp_cX8_tells rfl rfl
theorem dX8_tells_72 : decode cX8_tells 72 = .ok (.aload_n 0, 1) := dq_42 dp_cX8_tells rfl
theorem dX8_tells_73 : decode cX8_tells 73 = .ok (.iload_n 2, 1) := dq_28 dp_cX8_tells rfl
theorem dX8_tells_74 : decode cX8_tells 74 = .ok (.putfield 16, 3) := dq_181 dp_cX8_tells rfl
theorem dX8_tells_77 : decode cX8_tells 77 = .ok (.goto 20, 3) := dq_167 (v := 20) dp_cX8_tells rfl rfl
theorem dX8_tells_80 : decode cX8_tells 80 = .ok (.aload_n 0, 1) := dq_42 dp_cX8_tells rfl
theorem dX8_tells_81 : decode cX8_tells 81 = .ok (.iload_n 2, 1) := dq_28 dp_cX8_tells rfl
theorem dX8_tells_82 : decode cX8_tells 82 = .ok (.putfield 122, 3) := dq_181 dp_cX8_tells rfl
theorem dX8_tells_85 : decode cX8_tells 85 = .ok (.goto 12, 3) := dq_167 (v := 12) dp_cX8_tells rfl rfl
theorem dX8_tells_88 : decode cX8_tells 88 = .ok (.aload_n 0, 1) := dq_42 dp_cX8_tells rfl
theorem dX8_tells_89 : decode cX8_tells 89 = .ok (.getfield 44, 3) := dq_180 dp_cX8_tells rfl
theorem dX8_tells_92 : decode cX8_tells 92 = .ok (.iload_n 1, 1) := dq_27 dp_cX8_tells rfl
theorem dX8_tells_93 : decode cX8_tells 93 = .ok (.iconst 4, 1) := dq_7 dp_cX8_tells rfl
theorem dX8_tells_94 : decode cX8_tells 94 = .ok (.isub, 1) := dq_100 dp_cX8_tells rfl
theorem dX8_tells_95 : decode cX8_tells 95 = .ok (.iload_n 2, 1) := dq_28 dp_cX8_tells rfl
theorem dX8_tells_96 : decode cX8_tells 96 = .ok (.iastore, 1) := dq_79 dp_cX8_tells rfl
theorem dX8_tells_97 : decode cX8_tells 97 = .ok (.return_, 1) := dq_177 dp_cX8_tells rfl
set_option maxRecDepth 20000 in
theorem gl_X8_ask_X80 : GoodIn wsX8_ask wsX80 := (dg_t (dg_r gw_wsX80))
theorem ggX8_ask_X8_isAsked : GoodIn wsX8_ask wsX8_isAsked := (dg_c 5 rfl rfl (dg_c 6 rfl rfl (dg_c 7 rfl rfl (dg_c 8 rfl rfl (dg_c 4 rfl rfl (dg_c 9 rfl rfl (dg_c 10 rfl rfl gl_X8_ask_X80)))))))
set_option maxRecDepth 20000 in
theorem gX8_ask_X8_isAsked : GoodIn wsX8_ask (wsV RX8 138 RX8 yX8_isAsked wsX8_isAsked) := goodIn_app (dg_c 1 rfl rfl (dg_c 2 rfl rfl (dg_c 3 rfl rfl (dg_c 4 rfl rfl dg_0)))) ggX8_ask_X8_isAsked
set_option maxRecDepth 20000 in
theorem ggX8_ask_X8_no : GoodIn wsX8_ask wsX8_no := (dg_c 14 rfl rfl (dg_c 15 rfl rfl gl_X8_ask_X80))
set_option maxRecDepth 20000 in
theorem gX8_ask_X8_no : GoodIn wsX8_ask (wsV RX8 97 RX8 yX8_no wsX8_no) := goodIn_app (dg_c 11 rfl rfl (dg_c 12 rfl rfl (dg_c 13 rfl rfl (dg_c 4 rfl rfl dg_0)))) ggX8_ask_X8_no
set_option maxRecDepth 20000 in
theorem ggX8_ask_X8_told : GoodIn wsX8_ask wsX8_told := (dg_c 19 rfl rfl (dg_c 20 rfl rfl (dg_c 21 rfl rfl (dg_c 22 rfl rfl (dg_c 23 rfl rfl (dg_c 24 rfl rfl (dg_c 25 rfl rfl gl_X8_ask_X80)))))))
set_option maxRecDepth 20000 in
theorem gX8_ask_X8_told : GoodIn wsX8_ask (wsV RX8 142 RX8 yX8_told wsX8_told) := goodIn_app (dg_c 16 rfl rfl (dg_c 17 rfl rfl (dg_c 18 rfl rfl (dg_c 4 rfl rfl dg_0)))) ggX8_ask_X8_told
set_option maxRecDepth 20000 in
theorem ggX8_ask_X8_tells : GoodIn wsX8_ask wsX8_tells := (dg_c 29 rfl rfl (dg_c 20 rfl rfl (dg_c 21 rfl rfl (dg_c 22 rfl rfl (dg_c 23 rfl rfl (dg_c 24 rfl rfl (dg_c 25 rfl rfl gl_X8_ask_X80)))))))
set_option maxRecDepth 20000 in
theorem gX8_ask_X8_tells : GoodIn wsX8_ask (wsV RX8 145 RX8 yX8_tells wsX8_tells) := goodIn_app (dg_c 26 rfl rfl (dg_c 27 rfl rfl (dg_c 28 rfl rfl (dg_c 4 rfl rfl dg_0)))) ggX8_ask_X8_tells
theorem dX8_ask_0 : decode cX8_ask 0 = .ok (.iload_n 1, 1) := dq_27 dp_cX8_ask rfl
theorem dX8_ask_1 : decode cX8_ask 1 = .ok (.ifCond .lt 18, 3) := dq_155 (v := 18) dp_cX8_ask rfl rfl
theorem dX8_ask_4 : decode cX8_ask 4 = .ok (.iload_n 1, 1) := dq_27 dp_cX8_ask rfl
theorem dX8_ask_5 : decode cX8_ask 5 = .ok (.bipush 7, 2) := dq_16 (v := 7) dp_cX8_ask rfl rfl
theorem dX8_ask_7 : decode cX8_ask 7 = .ok (.if_icmp .gt 12, 3) := dq_163 (v := 12) dp_cX8_ask rfl rfl
theorem dX8_ask_10 : decode cX8_ask 10 = .ok (.aload_n 0, 1) := dq_42 dp_cX8_ask rfl
theorem dX8_ask_11 : decode cX8_ask 11 = .ok (.iload_n 1, 1) := dq_27 dp_cX8_ask rfl
theorem dX8_ask_12 : decode cX8_ask 12 = .ok (.iload_n 2, 1) := dq_28 dp_cX8_ask rfl
theorem dX8_ask_13 : decode cX8_ask 13 = .ok (.invokevirtual 138, 3) := dq_182 dp_cX8_ask rfl
theorem dX8_ask_16 : decode cX8_ask 16 = .ok (.ifCond .ne 10, 3) := dq_154 (v := 10) dp_cX8_ask rfl rfl
theorem dX8_ask_19 : decode cX8_ask 19 = .ok (.aload_n 0, 1) := dq_42 dp_cX8_ask rfl
theorem dX8_ask_20 : decode cX8_ask 20 = .ok (.bipush (-6), 2) := dq_16 (v := 250) dp_cX8_ask rfl rfl
theorem dX8_ask_22 : decode cX8_ask 22 = .ok (.invokevirtual 97, 3) := dq_182 dp_cX8_ask rfl
theorem dX8_ask_25 : decode cX8_ask 25 = .ok (.ireturn, 1) := dq_172 dp_cX8_ask rfl
theorem dX8_ask_26 : decode cX8_ask 26 = .ok (.aload_n 0, 1) := dq_42 dp_cX8_ask rfl
theorem dX8_ask_27 : decode cX8_ask 27 = .ok (.iload_n 1, 1) := dq_27 dp_cX8_ask rfl
theorem dX8_ask_28 : decode cX8_ask 28 = .ok (.invokevirtual 142, 3) := dq_182 dp_cX8_ask rfl
theorem dX8_ask_31 : decode cX8_ask 31 = .ok (.istore_n 3, 1) := dq_62 dp_cX8_ask rfl
theorem dX8_ask_32 : decode cX8_ask 32 = .ok (.aload_n 0, 1) := dq_42 dp_cX8_ask rfl
theorem dX8_ask_33 : decode cX8_ask 33 = .ok (.iload_n 1, 1) := dq_27 dp_cX8_ask rfl
theorem dX8_ask_34 : decode cX8_ask 34 = .ok (.iload_n 2, 1) := dq_28 dp_cX8_ask rfl
theorem dX8_ask_35 : decode cX8_ask 35 = .ok (.invokevirtual 145, 3) := dq_182 dp_cX8_ask rfl
theorem dX8_ask_38 : decode cX8_ask 38 = .ok (.iload_n 3, 1) := dq_29 dp_cX8_ask rfl
theorem dX8_ask_39 : decode cX8_ask 39 = .ok (.ireturn, 1) := dq_172 dp_cX8_ask rfl
theorem dX8_wrong_0 : decode cX8_wrong 0 = .ok (.aload_n 0, 1) := dq_42 dp_cX8_wrong rfl
theorem dX8_wrong_1 : decode cX8_wrong 1 = .ok (.iload_n 1, 1) := dq_27 dp_cX8_wrong rfl
theorem dX8_wrong_2 : decode cX8_wrong 2 = .ok (.putfield 149, 3) := dq_181 dp_cX8_wrong rfl
theorem dX8_wrong_5 : decode cX8_wrong 5 = .ok (.iconst 0, 1) := dq_3 dp_cX8_wrong rfl
theorem dX8_wrong_6 : decode cX8_wrong 6 = .ok (.ireturn, 1) := dq_172 dp_cX8_wrong rfl
theorem dX8_stands_0 : decode cX8_stands 0 = .ok (.iconst 0, 1) := dq_3 dp_cX8_stands rfl
theorem dX8_stands_1 : decode cX8_stands 1 = .ok (.istore_n 2, 1) := dq_61 dp_cX8_stands rfl
theorem dX8_stands_2 : decode cX8_stands 2 = .ok (.iconst 0, 1) := dq_3 dp_cX8_stands rfl
theorem dX8_stands_3 : decode cX8_stands 3 = .ok (.istore_n 3, 1) := dq_62 dp_cX8_stands rfl
theorem dX8_stands_4 : decode cX8_stands 4 = .ok (.iload_n 3, 1) := dq_29 dp_cX8_stands rfl
theorem dX8_stands_5 : decode cX8_stands 5 = .ok (.iload_n 1, 1) := dq_27 dp_cX8_stands rfl
theorem dX8_stands_6 : decode cX8_stands 6 = .ok (.if_icmp .ge 26, 3) := dq_162 (v := 26) dp_cX8_stands rfl rfl
theorem dX8_stands_9 : decode cX8_stands 9 = .ok (.iload_n 3, 1) := dq_29 dp_cX8_stands rfl
theorem dX8_stands_10 : decode cX8_stands 10 = .ok (.aload_n 0, 1) := dq_42 dp_cX8_stands rfl
theorem dX8_stands_11 : decode cX8_stands 11 = .ok (.getfield 66, 3) := dq_180 dp_cX8_stands rfl
theorem dX8_stands_14 : decode cX8_stands 14 = .ok (.iload_n 2, 1) := dq_28 dp_cX8_stands rfl
theorem dX8_stands_15 : decode cX8_stands 15 = .ok (.iaload, 1) := dq_46 dp_cX8_stands rfl
theorem dX8_stands_16 : decode cX8_stands 16 = .ok (.ifCond .ne 7, 3) := dq_154 (v := 7) dp_cX8_stands rfl rfl
theorem dX8_stands_19 : decode cX8_stands 19 = .ok (.iconst 1, 1) := dq_4 dp_cX8_stands rfl
theorem dX8_stands_20 : decode cX8_stands 20 = .ok (.goto 4, 3) := dq_167 (v := 4) dp_cX8_stands rfl rfl
theorem dX8_stands_23 : decode cX8_stands 23 = .ok (.iconst 0, 1) := dq_3 dp_cX8_stands rfl
theorem dX8_stands_24 : decode cX8_stands 24 = .ok (.iadd, 1) := dq_96 dp_cX8_stands rfl
theorem dX8_stands_25 : decode cX8_stands 25 = .ok (.istore_n 3, 1) := dq_62 dp_cX8_stands rfl
theorem dX8_stands_26 : decode cX8_stands 26 = .ok (.iinc 2 1, 3) := dq_132 (v := 1) dp_cX8_stands rfl (by decide) rfl
theorem dX8_stands_29 : decode cX8_stands 29 = .ok (.goto (-25), 3) := dq_167 (v := 65511) dp_cX8_stands rfl rfl
theorem dX8_stands_32 : decode cX8_stands 32 = .ok (.aload_n 0, 1) := dq_42 dp_cX8_stands rfl
theorem dX8_stands_33 : decode cX8_stands 33 = .ok (.getfield 152, 3) := dq_180 dp_cX8_stands rfl
theorem dX8_stands_36 : decode cX8_stands 36 = .ok (.istore_n 3, 1) := dq_62 dp_cX8_stands rfl
theorem dX8_stands_37 : decode cX8_stands 37 = .ok (.aload_n 0, 1) := dq_42 dp_cX8_stands rfl
theorem dX8_stands_38 : decode cX8_stands 38 = .ok (.getfield 66, 3) := dq_180 dp_cX8_stands rfl
theorem dX8_stands_41 : decode cX8_stands 41 = .ok (.iload_n 2, 1) := dq_28 dp_cX8_stands rfl
theorem dX8_stands_42 : decode cX8_stands 42 = .ok (.iaload, 1) := dq_46 dp_cX8_stands rfl
theorem dX8_stands_43 : decode cX8_stands 43 = .ok (.bipush 32, 2) := dq_16 (v := 32) dp_cX8_stands rfl rfl
theorem dX8_stands_45 : decode cX8_stands 45 = .ok (.if_icmp .le 41, 3) := dq_164 (v := 41) dp_cX8_stands rfl rfl
theorem dX8_stands_48 : decode cX8_stands 48 = .ok (.iload_n 3, 1) := dq_29 dp_cX8_stands rfl
theorem dX8_stands_49 : decode cX8_stands 49 = .ok (.aload_n 0, 1) := dq_42 dp_cX8_stands rfl
theorem dX8_stands_50 : decode cX8_stands 50 = .ok (.getfield 155, 3) := dq_180 dp_cX8_stands rfl
theorem dX8_stands_53 : decode cX8_stands 53 = .ok (.if_icmp .ge 33, 3) := dq_162 (v := 33) dp_cX8_stands rfl rfl
theorem dX8_stands_56 : decode cX8_stands 56 = .ok (.aload_n 0, 1) := dq_42 dp_cX8_stands rfl
theorem dX8_stands_57 : decode cX8_stands 57 = .ok (.getfield 59, 3) := dq_180 dp_cX8_stands rfl
theorem dX8_stands_60 : decode cX8_stands 60 = .ok (.aload_n 0, 1) := dq_42 dp_cX8_stands rfl
theorem dX8_stands_61 : decode cX8_stands 61 = .ok (.getfield 158, 3) := dq_180 dp_cX8_stands rfl
theorem dX8_stands_64 : decode cX8_stands 64 = .ok (.iload_n 3, 1) := dq_29 dp_cX8_stands rfl
theorem dX8_stands_65 : decode cX8_stands 65 = .ok (.iadd, 1) := dq_96 dp_cX8_stands rfl
theorem dX8_stands_66 : decode cX8_stands 66 = .ok (.laload, 1) := dq_47 dp_cX8_stands rfl
theorem dX8_stands_67 : decode cX8_stands 67 = .ok (.l2i, 1) := dq_136 dp_cX8_stands rfl
theorem dX8_stands_68 : decode cX8_stands 68 = .ok (.aload_n 0, 1) := dq_42 dp_cX8_stands rfl
theorem dX8_stands_69 : decode cX8_stands 69 = .ok (.getfield 66, 3) := dq_180 dp_cX8_stands rfl
theorem dX8_stands_72 : decode cX8_stands 72 = .ok (.iload_n 2, 1) := dq_28 dp_cX8_stands rfl
theorem dX8_stands_73 : decode cX8_stands 73 = .ok (.iaload, 1) := dq_46 dp_cX8_stands rfl
theorem dX8_stands_74 : decode cX8_stands 74 = .ok (.if_icmp .ne 12, 3) := dq_160 (v := 12) dp_cX8_stands rfl rfl
theorem dX8_stands_77 : decode cX8_stands 77 = .ok (.iinc 3 1, 3) := dq_132 (v := 1) dp_cX8_stands rfl (by decide) rfl
theorem dX8_stands_80 : decode cX8_stands 80 = .ok (.iinc 2 1, 3) := dq_132 (v := 1) dp_cX8_stands rfl (by decide) rfl
theorem dX8_stands_83 : decode cX8_stands 83 = .ok (.goto (-46), 3) := dq_167 (v := 65490) dp_cX8_stands rfl rfl
theorem dX8_stands_86 : decode cX8_stands 86 = .ok (.aload_n 0, 1) := dq_42 dp_cX8_stands rfl
theorem dX8_stands_87 : decode cX8_stands 87 = .ok (.getfield 66, 3) := dq_180 dp_cX8_stands rfl
theorem dX8_stands_90 : decode cX8_stands 90 = .ok (.iload_n 2, 1) := dq_28 dp_cX8_stands rfl
theorem dX8_stands_91 : decode cX8_stands 91 = .ok (.iaload, 1) := dq_46 dp_cX8_stands rfl
theorem dX8_stands_92 : decode cX8_stands 92 = .ok (.bipush 32, 2) := dq_16 (v := 32) dp_cX8_stands rfl rfl
theorem dX8_stands_94 : decode cX8_stands 94 = .ok (.if_icmp .gt 7, 3) := dq_163 (v := 7) dp_cX8_stands rfl rfl
theorem dX8_stands_97 : decode cX8_stands 97 = .ok (.iconst 1, 1) := dq_4 dp_cX8_stands rfl
theorem dX8_stands_98 : decode cX8_stands 98 = .ok (.goto 4, 3) := dq_167 (v := 4) dp_cX8_stands rfl rfl
theorem dX8_stands_101 : decode cX8_stands 101 = .ok (.iconst 0, 1) := dq_3 dp_cX8_stands rfl
theorem dX8_stands_102 : decode cX8_stands 102 = .ok (.ireturn, 1) := dq_172 dp_cX8_stands rfl
theorem dX8_isDigit_0 : decode cX8_isDigit 0 = .ok (.aload_n 0, 1) := dq_42 dp_cX8_isDigit rfl
theorem dX8_isDigit_1 : decode cX8_isDigit 1 = .ok (.getfield 152, 3) := dq_180 dp_cX8_isDigit rfl
theorem dX8_isDigit_4 : decode cX8_isDigit 4 = .ok (.aload_n 0, 1) := dq_42 dp_cX8_isDigit rfl
theorem dX8_isDigit_5 : decode cX8_isDigit 5 = .ok (.getfield 155, 3) := dq_180 dp_cX8_isDigit rfl
theorem dX8_isDigit_8 : decode cX8_isDigit 8 = .ok (.if_icmp .ge 47, 3) := dq_162 (v := 47) dp_cX8_isDigit rfl rfl
theorem dX8_isDigit_11 : decode cX8_isDigit 11 = .ok (.aload_n 0, 1) := dq_42 dp_cX8_isDigit rfl
theorem dX8_isDigit_12 : decode cX8_isDigit 12 = .ok (.getfield 59, 3) := dq_180 dp_cX8_isDigit rfl
theorem dX8_isDigit_15 : decode cX8_isDigit 15 = .ok (.aload_n 0, 1) := dq_42 dp_cX8_isDigit rfl
theorem dX8_isDigit_16 : decode cX8_isDigit 16 = .ok (.getfield 158, 3) := dq_180 dp_cX8_isDigit rfl
theorem dX8_isDigit_19 : decode cX8_isDigit 19 = .ok (.aload_n 0, 1) := dq_42 dp_cX8_isDigit rfl
theorem dX8_isDigit_20 : decode cX8_isDigit 20 = .ok (.getfield 152, 3) := dq_180 dp_cX8_isDigit rfl
theorem dX8_isDigit_23 : decode cX8_isDigit 23 = .ok (.iadd, 1) := dq_96 dp_cX8_isDigit rfl
theorem dX8_isDigit_24 : decode cX8_isDigit 24 = .ok (.laload, 1) := dq_47 dp_cX8_isDigit rfl
theorem dX8_isDigit_25 : decode cX8_isDigit 25 = .ok (.l2i, 1) := dq_136 dp_cX8_isDigit rfl
theorem dX8_isDigit_26 : decode cX8_isDigit 26 = .ok (.bipush 48, 2) := dq_16 (v := 48) dp_cX8_isDigit rfl rfl
theorem dX8_isDigit_28 : decode cX8_isDigit 28 = .ok (.if_icmp .lt 27, 3) := dq_161 (v := 27) dp_cX8_isDigit rfl rfl
theorem dX8_isDigit_31 : decode cX8_isDigit 31 = .ok (.aload_n 0, 1) := dq_42 dp_cX8_isDigit rfl
theorem dX8_isDigit_32 : decode cX8_isDigit 32 = .ok (.getfield 59, 3) := dq_180 dp_cX8_isDigit rfl
theorem dX8_isDigit_35 : decode cX8_isDigit 35 = .ok (.aload_n 0, 1) := dq_42 dp_cX8_isDigit rfl
theorem dX8_isDigit_36 : decode cX8_isDigit 36 = .ok (.getfield 158, 3) := dq_180 dp_cX8_isDigit rfl
theorem dX8_isDigit_39 : decode cX8_isDigit 39 = .ok (.aload_n 0, 1) := dq_42 dp_cX8_isDigit rfl
theorem dX8_isDigit_40 : decode cX8_isDigit 40 = .ok (.getfield 152, 3) := dq_180 dp_cX8_isDigit rfl
theorem dX8_isDigit_43 : decode cX8_isDigit 43 = .ok (.iadd, 1) := dq_96 dp_cX8_isDigit rfl
theorem dX8_isDigit_44 : decode cX8_isDigit 44 = .ok (.laload, 1) := dq_47 dp_cX8_isDigit rfl
theorem dX8_isDigit_45 : decode cX8_isDigit 45 = .ok (.l2i, 1) := dq_136 dp_cX8_isDigit rfl
theorem dX8_isDigit_46 : decode cX8_isDigit 46 = .ok (.bipush 57, 2) := dq_16 (v := 57) dp_cX8_isDigit rfl rfl
theorem dX8_isDigit_48 : decode cX8_isDigit 48 = .ok (.if_icmp .gt 7, 3) := dq_163 (v := 7) dp_cX8_isDigit rfl rfl
theorem dX8_isDigit_51 : decode cX8_isDigit 51 = .ok (.iconst 1, 1) := dq_4 dp_cX8_isDigit rfl
theorem dX8_isDigit_52 : decode cX8_isDigit 52 = .ok (.goto 4, 3) := dq_167 (v := 4) dp_cX8_isDigit rfl rfl
theorem dX8_isDigit_55 : decode cX8_isDigit 55 = .ok (.iconst 0, 1) := dq_3 dp_cX8_isDigit rfl
theorem dX8_isDigit_56 : decode cX8_isDigit 56 = .ok (.ireturn, 1) := dq_172 dp_cX8_isDigit rfl
set_option maxRecDepth 20000 in
theorem gl_X8_reads_X80 : GoodIn wsX8_reads wsX80 := (dg_t (dg_t (dg_t (dg_t (dg_t (dg_t (dg_t (dg_t (dg_t (dg_t (dg_t (dg_t (dg_t (dg_t (dg_t (dg_t gw_wsX80))))))))))))))))
theorem ggX8_reads_X8_isDigit : GoodIn wsX8_reads wsX8_isDigit := (dg_c 9 rfl rfl (dg_c 2 rfl rfl (dg_c 10 rfl rfl (dg_c 3 rfl rfl (dg_c 4 rfl rfl gl_X8_reads_X80)))))
set_option maxRecDepth 20000 in
theorem gX8_reads_X8_isDigit : GoodIn wsX8_reads (wsV RX8 164 RX8 yX8_isDigit wsX8_isDigit) := goodIn_app (dg_c 5 rfl rfl (dg_c 6 rfl rfl (dg_c 7 rfl rfl (dg_c 8 rfl rfl dg_0)))) ggX8_reads_X8_isDigit
set_option maxRecDepth 20000 in
theorem ggX8_reads_X8_wrong : GoodIn wsX8_reads wsX8_wrong := (dg_c 14 rfl rfl (dg_c 15 rfl rfl gl_X8_reads_X80))
set_option maxRecDepth 20000 in
theorem gX8_reads_X8_wrong : GoodIn wsX8_reads (wsV RX8 168 RX8 yX8_wrong wsX8_wrong) := goodIn_app (dg_c 11 rfl rfl (dg_c 12 rfl rfl (dg_c 13 rfl rfl (dg_c 8 rfl rfl dg_0)))) ggX8_reads_X8_wrong
theorem dX8_reads_0 : decode cX8_reads 0 = .ok (.aload_n 0, 1) := dq_42 dp_cX8_reads rfl
theorem dX8_reads_1 : decode cX8_reads 1 = .ok (.iconst 0, 1) := dq_3 dp_cX8_reads rfl
theorem dX8_reads_2 : decode cX8_reads 2 = .ok (.putfield 161, 3) := dq_181 dp_cX8_reads rfl
theorem dX8_reads_5 : decode cX8_reads 5 = .ok (.aload_n 0, 1) := dq_42 dp_cX8_reads rfl
theorem dX8_reads_6 : decode cX8_reads 6 = .ok (.invokevirtual 164, 3) := dq_182 dp_cX8_reads rfl
theorem dX8_reads_9 : decode cX8_reads 9 = .ok (.ifCond .ne 12, 3) := dq_154 (v := 12) dp_cX8_reads rfl rfl
theorem dX8_reads_12 : decode cX8_reads 12 = .ok (.aload_n 0, 1) := dq_42 dp_cX8_reads rfl
theorem dX8_reads_13 : decode cX8_reads 13 = .ok (.aload_n 0, 1) := dq_42 dp_cX8_reads rfl
theorem dX8_reads_14 : decode cX8_reads 14 = .ok (.getfield 152, 3) := dq_180 dp_cX8_reads rfl
theorem dX8_reads_17 : decode cX8_reads 17 = .ok (.invokevirtual 168, 3) := dq_182 dp_cX8_reads rfl
theorem dX8_reads_20 : decode cX8_reads 20 = .ok (.ireturn, 1) := dq_172 dp_cX8_reads rfl
theorem dX8_reads_21 : decode cX8_reads 21 = .ok (.iconst 0, 1) := dq_3 dp_cX8_reads rfl
theorem dX8_reads_22 : decode cX8_reads 22 = .ok (.istore_n 1, 1) := dq_60 dp_cX8_reads rfl
theorem dX8_reads_23 : decode cX8_reads 23 = .ok (.iload_n 1, 1) := dq_27 dp_cX8_reads rfl
theorem dX8_reads_24 : decode cX8_reads 24 = .ok (.iconst 3, 1) := dq_6 dp_cX8_reads rfl
theorem dX8_reads_25 : decode cX8_reads 25 = .ok (.if_icmp .ge 56, 3) := dq_162 (v := 56) dp_cX8_reads rfl rfl
theorem dX8_reads_28 : decode cX8_reads 28 = .ok (.aload_n 0, 1) := dq_42 dp_cX8_reads rfl
theorem dX8_reads_29 : decode cX8_reads 29 = .ok (.invokevirtual 164, 3) := dq_182 dp_cX8_reads rfl
theorem dX8_reads_32 : decode cX8_reads 32 = .ok (.ifCond .eq 49, 3) := dq_153 (v := 49) dp_cX8_reads rfl rfl
theorem dX8_reads_35 : decode cX8_reads 35 = .ok (.aload_n 0, 1) := dq_42 dp_cX8_reads rfl
theorem dX8_reads_36 : decode cX8_reads 36 = .ok (.bipush 10, 2) := dq_16 (v := 10) dp_cX8_reads rfl rfl
theorem dX8_reads_38 : decode cX8_reads 38 = .ok (.aload_n 0, 1) := dq_42 dp_cX8_reads rfl
theorem dX8_reads_39 : decode cX8_reads 39 = .ok (.getfield 161, 3) := dq_180 dp_cX8_reads rfl
theorem dX8_reads_42 : decode cX8_reads 42 = .ok (.imul, 1) := dq_104 dp_cX8_reads rfl
theorem dX8_reads_43 : decode cX8_reads 43 = .ok (.aload_n 0, 1) := dq_42 dp_cX8_reads rfl
theorem dX8_reads_44 : decode cX8_reads 44 = .ok (.getfield 59, 3) := dq_180 dp_cX8_reads rfl
theorem dX8_reads_47 : decode cX8_reads 47 = .ok (.aload_n 0, 1) := dq_42 dp_cX8_reads rfl
theorem dX8_reads_48 : decode cX8_reads 48 = .ok (.getfield 158, 3) := dq_180 dp_cX8_reads rfl
theorem dX8_reads_51 : decode cX8_reads 51 = .ok (.aload_n 0, 1) := dq_42 dp_cX8_reads rfl
theorem dX8_reads_52 : decode cX8_reads 52 = .ok (.getfield 152, 3) := dq_180 dp_cX8_reads rfl
theorem dX8_reads_55 : decode cX8_reads 55 = .ok (.iadd, 1) := dq_96 dp_cX8_reads rfl
theorem dX8_reads_56 : decode cX8_reads 56 = .ok (.laload, 1) := dq_47 dp_cX8_reads rfl
theorem dX8_reads_57 : decode cX8_reads 57 = .ok (.l2i, 1) := dq_136 dp_cX8_reads rfl
theorem dX8_reads_58 : decode cX8_reads 58 = .ok (.iadd, 1) := dq_96 dp_cX8_reads rfl
theorem dX8_reads_59 : decode cX8_reads 59 = .ok (.bipush 48, 2) := dq_16 (v := 48) dp_cX8_reads rfl rfl
theorem dX8_reads_61 : decode cX8_reads 61 = .ok (.isub, 1) := dq_100 dp_cX8_reads rfl
theorem dX8_reads_62 : decode cX8_reads 62 = .ok (.putfield 161, 3) := dq_181 dp_cX8_reads rfl
theorem dX8_reads_65 : decode cX8_reads 65 = .ok (.aload_n 0, 1) := dq_42 dp_cX8_reads rfl
theorem dX8_reads_66 : decode cX8_reads 66 = .ok (.dup, 1) := dq_89 dp_cX8_reads rfl
theorem dX8_reads_67 : decode cX8_reads 67 = .ok (.getfield 152, 3) := dq_180 dp_cX8_reads rfl
theorem dX8_reads_70 : decode cX8_reads 70 = .ok (.iconst 1, 1) := dq_4 dp_cX8_reads rfl
theorem dX8_reads_71 : decode cX8_reads 71 = .ok (.iadd, 1) := dq_96 dp_cX8_reads rfl
theorem dX8_reads_72 : decode cX8_reads 72 = .ok (.putfield 152, 3) := dq_181 dp_cX8_reads rfl
theorem dX8_reads_75 : decode cX8_reads 75 = .ok (.iinc 1 1, 3) := dq_132 (v := 1) dp_cX8_reads rfl (by decide) rfl
theorem dX8_reads_78 : decode cX8_reads 78 = .ok (.goto (-55), 3) := dq_167 (v := 65481) dp_cX8_reads rfl rfl
theorem dX8_reads_81 : decode cX8_reads 81 = .ok (.iconst 1, 1) := dq_4 dp_cX8_reads rfl
theorem dX8_reads_82 : decode cX8_reads 82 = .ok (.ireturn, 1) := dq_172 dp_cX8_reads rfl
set_option maxRecDepth 20000 in
theorem gl_X8_isSo_X80 : GoodIn wsX8_isSo wsX80 := (dg_t (dg_t (dg_t (dg_t (dg_t (dg_t (dg_t (dg_t (dg_t (dg_t (dg_t (dg_t gw_wsX80))))))))))))
theorem ggX8_isSo_X8_isAsked : GoodIn wsX8_isSo wsX8_isAsked := (dg_c 7 rfl rfl (dg_c 8 rfl rfl (dg_c 9 rfl rfl (dg_c 10 rfl rfl (dg_c 6 rfl rfl (dg_c 11 rfl rfl (dg_c 2 rfl rfl gl_X8_isSo_X80)))))))
set_option maxRecDepth 20000 in
theorem gX8_isSo_X8_isAsked : GoodIn wsX8_isSo (wsV RX8 138 RX8 yX8_isAsked wsX8_isAsked) := goodIn_app (dg_c 3 rfl rfl (dg_c 4 rfl rfl (dg_c 5 rfl rfl (dg_c 6 rfl rfl dg_0)))) ggX8_isSo_X8_isAsked
theorem dX8_isSo_0 : decode cX8_isSo 0 = .ok (.iload_n 1, 1) := dq_27 dp_cX8_isSo rfl
theorem dX8_isSo_1 : decode cX8_isSo 1 = .ok (.tableswitch 233 0 9 #[55, 78, 95, 133, 233, 233, 233, 233, 199, 222], 55) := by decide +kernel
theorem dX8_isSo_56 : decode cX8_isSo 56 = .ok (.aload_n 0, 1) := dq_42 dp_cX8_isSo rfl
theorem dX8_isSo_57 : decode cX8_isSo 57 = .ok (.getfield 161, 3) := dq_180 dp_cX8_isSo rfl
theorem dX8_isSo_60 : decode cX8_isSo 60 = .ok (.iconst 4, 1) := dq_7 dp_cX8_isSo rfl
theorem dX8_isSo_61 : decode cX8_isSo 61 = .ok (.if_icmp .lt 16, 3) := dq_161 (v := 16) dp_cX8_isSo rfl rfl
theorem dX8_isSo_64 : decode cX8_isSo 64 = .ok (.aload_n 0, 1) := dq_42 dp_cX8_isSo rfl
theorem dX8_isSo_65 : decode cX8_isSo 65 = .ok (.getfield 161, 3) := dq_180 dp_cX8_isSo rfl
theorem dX8_isSo_68 : decode cX8_isSo 68 = .ok (.bipush 40, 2) := dq_16 (v := 40) dp_cX8_isSo rfl rfl
theorem dX8_isSo_70 : decode cX8_isSo 70 = .ok (.if_icmp .gt 7, 3) := dq_163 (v := 7) dp_cX8_isSo rfl rfl
theorem dX8_isSo_73 : decode cX8_isSo 73 = .ok (.iconst 1, 1) := dq_4 dp_cX8_isSo rfl
theorem dX8_isSo_74 : decode cX8_isSo 74 = .ok (.goto 4, 3) := dq_167 (v := 4) dp_cX8_isSo rfl rfl
theorem dX8_isSo_77 : decode cX8_isSo 77 = .ok (.iconst 0, 1) := dq_3 dp_cX8_isSo rfl
theorem dX8_isSo_78 : decode cX8_isSo 78 = .ok (.ireturn, 1) := dq_172 dp_cX8_isSo rfl
theorem dX8_isSo_79 : decode cX8_isSo 79 = .ok (.aload_n 0, 1) := dq_42 dp_cX8_isSo rfl
theorem dX8_isSo_80 : decode cX8_isSo 80 = .ok (.getfield 161, 3) := dq_180 dp_cX8_isSo rfl
theorem dX8_isSo_83 : decode cX8_isSo 83 = .ok (.aload_n 0, 1) := dq_42 dp_cX8_isSo rfl
theorem dX8_isSo_84 : decode cX8_isSo 84 = .ok (.getfield 7, 3) := dq_180 dp_cX8_isSo rfl
theorem dX8_isSo_87 : decode cX8_isSo 87 = .ok (.if_icmp .ge 7, 3) := dq_162 (v := 7) dp_cX8_isSo rfl rfl
theorem dX8_isSo_90 : decode cX8_isSo 90 = .ok (.iconst 1, 1) := dq_4 dp_cX8_isSo rfl
theorem dX8_isSo_91 : decode cX8_isSo 91 = .ok (.goto 4, 3) := dq_167 (v := 4) dp_cX8_isSo rfl rfl
theorem dX8_isSo_94 : decode cX8_isSo 94 = .ok (.iconst 0, 1) := dq_3 dp_cX8_isSo rfl
theorem dX8_isSo_95 : decode cX8_isSo 95 = .ok (.ireturn, 1) := dq_172 dp_cX8_isSo rfl
theorem dX8_isSo_96 : decode cX8_isSo 96 = .ok (.iload_n 2, 1) := dq_28 dp_cX8_isSo rfl
theorem dX8_isSo_97 : decode cX8_isSo 97 = .ok (.ifCond .ne 22, 3) := dq_154 (v := 22) dp_cX8_isSo rfl rfl
theorem dX8_isSo_100 : decode cX8_isSo 100 = .ok (.aload_n 0, 1) := dq_42 dp_cX8_isSo rfl
theorem dX8_isSo_101 : decode cX8_isSo 101 = .ok (.getfield 161, 3) := dq_180 dp_cX8_isSo rfl
theorem dX8_isSo_104 : decode cX8_isSo 104 = .ok (.aload_n 0, 1) := dq_42 dp_cX8_isSo rfl
theorem dX8_isSo_105 : decode cX8_isSo 105 = .ok (.getfield 7, 3) := dq_180 dp_cX8_isSo rfl
theorem dX8_isSo_108 : decode cX8_isSo 108 = .ok (.if_icmp .ge 7, 3) := dq_162 (v := 7) dp_cX8_isSo rfl rfl
theorem dX8_isSo_111 : decode cX8_isSo 111 = .ok (.iconst 1, 1) := dq_4 dp_cX8_isSo rfl
theorem dX8_isSo_112 : decode cX8_isSo 112 = .ok (.goto 21, 3) := dq_167 (v := 21) dp_cX8_isSo rfl rfl
theorem dX8_isSo_115 : decode cX8_isSo 115 = .ok (.iconst 0, 1) := dq_3 dp_cX8_isSo rfl
theorem dX8_isSo_116 : decode cX8_isSo 116 = .ok (.goto 17, 3) := dq_167 (v := 17) dp_cX8_isSo rfl rfl
theorem dX8_isSo_119 : decode cX8_isSo 119 = .ok (.aload_n 0, 1) := dq_42 dp_cX8_isSo rfl
theorem dX8_isSo_120 : decode cX8_isSo 120 = .ok (.getfield 161, 3) := dq_180 dp_cX8_isSo rfl
theorem dX8_isSo_123 : decode cX8_isSo 123 = .ok (.bipush 9, 2) := dq_16 (v := 9) dp_cX8_isSo rfl rfl
theorem dX8_isSo_125 : decode cX8_isSo 125 = .ok (.if_icmp .gt 7, 3) := dq_163 (v := 7) dp_cX8_isSo rfl rfl
theorem dX8_isSo_128 : decode cX8_isSo 128 = .ok (.iconst 1, 1) := dq_4 dp_cX8_isSo rfl
theorem dX8_isSo_129 : decode cX8_isSo 129 = .ok (.goto 4, 3) := dq_167 (v := 4) dp_cX8_isSo rfl rfl
theorem dX8_isSo_132 : decode cX8_isSo 132 = .ok (.iconst 0, 1) := dq_3 dp_cX8_isSo rfl
theorem dX8_isSo_133 : decode cX8_isSo 133 = .ok (.ireturn, 1) := dq_172 dp_cX8_isSo rfl
theorem dX8_isSo_134 : decode cX8_isSo 134 = .ok (.iload_n 2, 1) := dq_28 dp_cX8_isSo rfl
theorem dX8_isSo_135 : decode cX8_isSo 135 = .ok (.ifCond .ne 20, 3) := dq_154 (v := 20) dp_cX8_isSo rfl rfl
theorem dX8_isSo_138 : decode cX8_isSo 138 = .ok (.aload_n 0, 1) := dq_42 dp_cX8_isSo rfl
theorem dX8_isSo_139 : decode cX8_isSo 139 = .ok (.getfield 161, 3) := dq_180 dp_cX8_isSo rfl
theorem dX8_isSo_142 : decode cX8_isSo 142 = .ok (.bipush 6, 2) := dq_16 (v := 6) dp_cX8_isSo rfl rfl
theorem dX8_isSo_144 : decode cX8_isSo 144 = .ok (.if_icmp .gt 7, 3) := dq_163 (v := 7) dp_cX8_isSo rfl rfl
theorem dX8_isSo_147 : decode cX8_isSo 147 = .ok (.iconst 1, 1) := dq_4 dp_cX8_isSo rfl
theorem dX8_isSo_148 : decode cX8_isSo 148 = .ok (.goto 51, 3) := dq_167 (v := 51) dp_cX8_isSo rfl rfl
theorem dX8_isSo_151 : decode cX8_isSo 151 = .ok (.iconst 0, 1) := dq_3 dp_cX8_isSo rfl
theorem dX8_isSo_152 : decode cX8_isSo 152 = .ok (.goto 47, 3) := dq_167 (v := 47) dp_cX8_isSo rfl rfl
theorem dX8_isSo_155 : decode cX8_isSo 155 = .ok (.iload_n 2, 1) := dq_28 dp_cX8_isSo rfl
theorem dX8_isSo_156 : decode cX8_isSo 156 = .ok (.iconst 1, 1) := dq_4 dp_cX8_isSo rfl
theorem dX8_isSo_157 : decode cX8_isSo 157 = .ok (.if_icmp .ne 20, 3) := dq_160 (v := 20) dp_cX8_isSo rfl rfl
theorem dX8_isSo_160 : decode cX8_isSo 160 = .ok (.aload_n 0, 1) := dq_42 dp_cX8_isSo rfl
theorem dX8_isSo_161 : decode cX8_isSo 161 = .ok (.getfield 161, 3) := dq_180 dp_cX8_isSo rfl
theorem dX8_isSo_164 : decode cX8_isSo 164 = .ok (.bipush 9, 2) := dq_16 (v := 9) dp_cX8_isSo rfl rfl
theorem dX8_isSo_166 : decode cX8_isSo 166 = .ok (.if_icmp .gt 7, 3) := dq_163 (v := 7) dp_cX8_isSo rfl rfl
theorem dX8_isSo_169 : decode cX8_isSo 169 = .ok (.iconst 1, 1) := dq_4 dp_cX8_isSo rfl
theorem dX8_isSo_170 : decode cX8_isSo 170 = .ok (.goto 29, 3) := dq_167 (v := 29) dp_cX8_isSo rfl rfl
theorem dX8_isSo_173 : decode cX8_isSo 173 = .ok (.iconst 0, 1) := dq_3 dp_cX8_isSo rfl
theorem dX8_isSo_174 : decode cX8_isSo 174 = .ok (.goto 25, 3) := dq_167 (v := 25) dp_cX8_isSo rfl rfl
theorem dX8_isSo_177 : decode cX8_isSo 177 = .ok (.aload_n 0, 1) := dq_42 dp_cX8_isSo rfl
theorem dX8_isSo_178 : decode cX8_isSo 178 = .ok (.getfield 161, 3) := dq_180 dp_cX8_isSo rfl
theorem dX8_isSo_181 : decode cX8_isSo 181 = .ok (.iconst 1, 1) := dq_4 dp_cX8_isSo rfl
theorem dX8_isSo_182 : decode cX8_isSo 182 = .ok (.if_icmp .lt 16, 3) := dq_161 (v := 16) dp_cX8_isSo rfl rfl
theorem dX8_isSo_185 : decode cX8_isSo 185 = .ok (.aload_n 0, 1) := dq_42 dp_cX8_isSo rfl
theorem dX8_isSo_186 : decode cX8_isSo 186 = .ok (.getfield 161, 3) := dq_180 dp_cX8_isSo rfl
theorem dX8_isSo_189 : decode cX8_isSo 189 = .ok (.bipush 60, 2) := dq_16 (v := 60) dp_cX8_isSo rfl rfl
theorem dX8_isSo_191 : decode cX8_isSo 191 = .ok (.if_icmp .gt 7, 3) := dq_163 (v := 7) dp_cX8_isSo rfl rfl
theorem dX8_isSo_194 : decode cX8_isSo 194 = .ok (.iconst 1, 1) := dq_4 dp_cX8_isSo rfl
theorem dX8_isSo_195 : decode cX8_isSo 195 = .ok (.goto 4, 3) := dq_167 (v := 4) dp_cX8_isSo rfl rfl
theorem dX8_isSo_198 : decode cX8_isSo 198 = .ok (.iconst 0, 1) := dq_3 dp_cX8_isSo rfl
theorem dX8_isSo_199 : decode cX8_isSo 199 = .ok (.ireturn, 1) := dq_172 dp_cX8_isSo rfl
theorem dX8_isSo_200 : decode cX8_isSo 200 = .ok (.aload_n 0, 1) := dq_42 dp_cX8_isSo rfl
theorem dX8_isSo_201 : decode cX8_isSo 201 = .ok (.getfield 161, 3) := dq_180 dp_cX8_isSo rfl
theorem dX8_isSo_204 : decode cX8_isSo 204 = .ok (.iload_n 2, 1) := dq_28 dp_cX8_isSo rfl
theorem dX8_isSo_205 : decode cX8_isSo 205 = .ok (.ifCond .ne 7, 3) := dq_154 (v := 7) dp_cX8_isSo rfl rfl
theorem dX8_isSo_208 : decode cX8_isSo 208 = .ok (.iconst 2, 1) := dq_5 dp_cX8_isSo rfl
theorem dX8_isSo_209 : decode cX8_isSo 209 = .ok (.goto 5, 3) := dq_167 (v := 5) dp_cX8_isSo rfl rfl
theorem dX8_isSo_212 : decode cX8_isSo 212 = .ok (.bipush 99, 2) := dq_16 (v := 99) dp_cX8_isSo rfl rfl
theorem dX8_isSo_214 : decode cX8_isSo 214 = .ok (.if_icmp .gt 7, 3) := dq_163 (v := 7) dp_cX8_isSo rfl rfl
theorem dX8_isSo_217 : decode cX8_isSo 217 = .ok (.iconst 1, 1) := dq_4 dp_cX8_isSo rfl
theorem dX8_isSo_218 : decode cX8_isSo 218 = .ok (.goto 4, 3) := dq_167 (v := 4) dp_cX8_isSo rfl rfl
theorem dX8_isSo_221 : decode cX8_isSo 221 = .ok (.iconst 0, 1) := dq_3 dp_cX8_isSo rfl
theorem dX8_isSo_222 : decode cX8_isSo 222 = .ok (.ireturn, 1) := dq_172 dp_cX8_isSo rfl
theorem dX8_isSo_223 : decode cX8_isSo 223 = .ok (.aload_n 0, 1) := dq_42 dp_cX8_isSo rfl
theorem dX8_isSo_224 : decode cX8_isSo 224 = .ok (.bipush 7, 2) := dq_16 (v := 7) dp_cX8_isSo rfl rfl
theorem dX8_isSo_226 : decode cX8_isSo 226 = .ok (.aload_n 0, 1) := dq_42 dp_cX8_isSo rfl
theorem dX8_isSo_227 : decode cX8_isSo 227 = .ok (.getfield 161, 3) := dq_180 dp_cX8_isSo rfl
theorem dX8_isSo_230 : decode cX8_isSo 230 = .ok (.invokevirtual 138, 3) := dq_182 dp_cX8_isSo rfl
theorem dX8_isSo_233 : decode cX8_isSo 233 = .ok (.ireturn, 1) := dq_172 dp_cX8_isSo rfl
theorem dX8_isSo_234 : decode cX8_isSo 234 = .ok (.aload_n 0, 1) := dq_42 dp_cX8_isSo rfl
theorem dX8_isSo_235 : decode cX8_isSo 235 = .ok (.iload_n 1, 1) := dq_27 dp_cX8_isSo rfl
theorem dX8_isSo_236 : decode cX8_isSo 236 = .ok (.iconst 4, 1) := dq_7 dp_cX8_isSo rfl
theorem dX8_isSo_237 : decode cX8_isSo 237 = .ok (.isub, 1) := dq_100 dp_cX8_isSo rfl
theorem dX8_isSo_238 : decode cX8_isSo 238 = .ok (.aload_n 0, 1) := dq_42 dp_cX8_isSo rfl
theorem dX8_isSo_239 : decode cX8_isSo 239 = .ok (.getfield 161, 3) := dq_180 dp_cX8_isSo rfl
theorem dX8_isSo_242 : decode cX8_isSo 242 = .ok (.invokevirtual 138, 3) := dq_182 dp_cX8_isSo rfl
theorem dX8_isSo_245 : decode cX8_isSo 245 = .ok (.ireturn, 1) := dq_172 dp_cX8_isSo rfl
theorem dX8_fault_0 : decode cX8_fault 0 = .ok (.aload_n 0, 1) := dq_42 dp_cX8_fault rfl
theorem dX8_fault_1 : decode cX8_fault 1 = .ok (.getfield 22, 3) := dq_180 dp_cX8_fault rfl
theorem dX8_fault_4 : decode cX8_fault 4 = .ok (.ireturn, 1) := dq_172 dp_cX8_fault rfl
theorem dX8_ways_0 : decode cX8_ways 0 = .ok (.bipush 6, 2) := dq_16 (v := 6) dp_cX8_ways rfl rfl
theorem dX8_ways_2 : decode cX8_ways 2 = .ok (.iload_n 2, 1) := dq_28 dp_cX8_ways rfl
theorem dX8_ways_3 : decode cX8_ways 3 = .ok (.iconst 4, 1) := dq_7 dp_cX8_ways rfl
theorem dX8_ways_4 : decode cX8_ways 4 = .ok (.idiv, 1) := dq_108 dp_cX8_ways rfl
theorem dX8_ways_5 : decode cX8_ways 5 = .ok (.isub, 1) := dq_100 dp_cX8_ways rfl
theorem dX8_ways_6 : decode cX8_ways 6 = .ok (.istore_n 3, 1) := dq_62 dp_cX8_ways rfl
theorem dX8_ways_7 : decode cX8_ways 7 = .ok (.aload_n 0, 1) := dq_42 dp_cX8_ways rfl
theorem dX8_ways_8 : decode cX8_ways 8 = .ok (.getfield 29, 3) := dq_180 dp_cX8_ways rfl
theorem dX8_ways_11 : decode cX8_ways 11 = .ok (.iload_n 1, 1) := dq_27 dp_cX8_ways rfl
theorem dX8_ways_12 : decode cX8_ways 12 = .ok (.iaload, 1) := dq_46 dp_cX8_ways rfl
theorem dX8_ways_13 : decode cX8_ways 13 = .ok (.tableswitch 100 1 6 #[39, 61, 45, 75, 97, 86], 39) := by decide +kernel
theorem dX8_ways_52 : decode cX8_ways 52 = .ok (.iinc 3 2, 3) := dq_132 (v := 2) dp_cX8_ways rfl (by decide) rfl
theorem dX8_ways_55 : decode cX8_ways 55 = .ok (.goto 58, 3) := dq_167 (v := 58) dp_cX8_ways rfl rfl
theorem dX8_ways_58 : decode cX8_ways 58 = .ok (.iload_n 3, 1) := dq_29 dp_cX8_ways rfl
theorem dX8_ways_59 : decode cX8_ways 59 = .ok (.iconst 2, 1) := dq_5 dp_cX8_ways rfl
theorem dX8_ways_60 : decode cX8_ways 60 = .ok (.aload_n 0, 1) := dq_42 dp_cX8_ways rfl
theorem dX8_ways_61 : decode cX8_ways 61 = .ok (.getfield 32, 3) := dq_180 dp_cX8_ways rfl
theorem dX8_ways_64 : decode cX8_ways 64 = .ok (.iload_n 1, 1) := dq_27 dp_cX8_ways rfl
theorem dX8_ways_65 : decode cX8_ways 65 = .ok (.iaload, 1) := dq_46 dp_cX8_ways rfl
theorem dX8_ways_66 : decode cX8_ways 66 = .ok (.iconst 2, 1) := dq_5 dp_cX8_ways rfl
theorem dX8_ways_67 : decode cX8_ways 67 = .ok (.idiv, 1) := dq_108 dp_cX8_ways rfl
theorem dX8_ways_68 : decode cX8_ways 68 = .ok (.iadd, 1) := dq_96 dp_cX8_ways rfl
theorem dX8_ways_69 : decode cX8_ways 69 = .ok (.iadd, 1) := dq_96 dp_cX8_ways rfl
theorem dX8_ways_70 : decode cX8_ways 70 = .ok (.istore_n 3, 1) := dq_62 dp_cX8_ways rfl
theorem dX8_ways_71 : decode cX8_ways 71 = .ok (.goto 42, 3) := dq_167 (v := 42) dp_cX8_ways rfl rfl
theorem dX8_ways_74 : decode cX8_ways 74 = .ok (.iload_n 3, 1) := dq_29 dp_cX8_ways rfl
theorem dX8_ways_75 : decode cX8_ways 75 = .ok (.aload_n 0, 1) := dq_42 dp_cX8_ways rfl
theorem dX8_ways_76 : decode cX8_ways 76 = .ok (.getfield 32, 3) := dq_180 dp_cX8_ways rfl
theorem dX8_ways_79 : decode cX8_ways 79 = .ok (.iload_n 1, 1) := dq_27 dp_cX8_ways rfl
theorem dX8_ways_80 : decode cX8_ways 80 = .ok (.iaload, 1) := dq_46 dp_cX8_ways rfl
theorem dX8_ways_81 : decode cX8_ways 81 = .ok (.iconst 3, 1) := dq_6 dp_cX8_ways rfl
theorem dX8_ways_82 : decode cX8_ways 82 = .ok (.idiv, 1) := dq_108 dp_cX8_ways rfl
theorem dX8_ways_83 : decode cX8_ways 83 = .ok (.iadd, 1) := dq_96 dp_cX8_ways rfl
theorem dX8_ways_84 : decode cX8_ways 84 = .ok (.istore_n 3, 1) := dq_62 dp_cX8_ways rfl
theorem dX8_ways_85 : decode cX8_ways 85 = .ok (.goto 28, 3) := dq_167 (v := 28) dp_cX8_ways rfl rfl
theorem dX8_ways_88 : decode cX8_ways 88 = .ok (.bipush 8, 2) := dq_16 (v := 8) dp_cX8_ways rfl rfl
theorem dX8_ways_90 : decode cX8_ways 90 = .ok (.iload_n 2, 1) := dq_28 dp_cX8_ways rfl
theorem dX8_ways_91 : decode cX8_ways 91 = .ok (.bipush 6, 2) := dq_16 (v := 6) dp_cX8_ways rfl rfl
theorem dX8_ways_93 : decode cX8_ways 93 = .ok (.idiv, 1) := dq_108 dp_cX8_ways rfl
theorem dX8_ways_94 : decode cX8_ways 94 = .ok (.isub, 1) := dq_100 dp_cX8_ways rfl
theorem dX8_ways_95 : decode cX8_ways 95 = .ok (.istore_n 3, 1) := dq_62 dp_cX8_ways rfl
theorem dX8_ways_96 : decode cX8_ways 96 = .ok (.goto 17, 3) := dq_167 (v := 17) dp_cX8_ways rfl rfl
theorem dX8_ways_99 : decode cX8_ways 99 = .ok (.bipush 10, 2) := dq_16 (v := 10) dp_cX8_ways rfl rfl
theorem dX8_ways_101 : decode cX8_ways 101 = .ok (.iload_n 2, 1) := dq_28 dp_cX8_ways rfl
theorem dX8_ways_102 : decode cX8_ways 102 = .ok (.bipush 6, 2) := dq_16 (v := 6) dp_cX8_ways rfl rfl
theorem dX8_ways_104 : decode cX8_ways 104 = .ok (.idiv, 1) := dq_108 dp_cX8_ways rfl
theorem dX8_ways_105 : decode cX8_ways 105 = .ok (.isub, 1) := dq_100 dp_cX8_ways rfl
theorem dX8_ways_106 : decode cX8_ways 106 = .ok (.istore_n 3, 1) := dq_62 dp_cX8_ways rfl
theorem dX8_ways_107 : decode cX8_ways 107 = .ok (.goto 6, 3) := dq_167 (v := 6) dp_cX8_ways rfl rfl
theorem dX8_ways_110 : decode cX8_ways 110 = .ok (.bipush 12, 2) := dq_16 (v := 12) dp_cX8_ways rfl rfl
theorem dX8_ways_112 : decode cX8_ways 112 = .ok (.ireturn, 1) := dq_172 dp_cX8_ways rfl
theorem dX8_ways_113 : decode cX8_ways 113 = .ok (.iload_n 3, 1) := dq_29 dp_cX8_ways rfl
theorem dX8_ways_114 : decode cX8_ways 114 = .ok (.aload_n 0, 1) := dq_42 dp_cX8_ways rfl
theorem dX8_ways_115 : decode cX8_ways 115 = .ok (.getfield 135, 3) := dq_180 dp_cX8_ways rfl
theorem dX8_ways_118 : decode cX8_ways 118 = .ok (.iconst 3, 1) := dq_6 dp_cX8_ways rfl
theorem dX8_ways_119 : decode cX8_ways 119 = .ok (.idiv, 1) := dq_108 dp_cX8_ways rfl
theorem dX8_ways_120 : decode cX8_ways 120 = .ok (.isub, 1) := dq_100 dp_cX8_ways rfl
theorem dX8_ways_121 : decode cX8_ways 121 = .ok (.istore_n 3, 1) := dq_62 dp_cX8_ways rfl
theorem dX8_ways_122 : decode cX8_ways 122 = .ok (.iload_n 3, 1) := dq_29 dp_cX8_ways rfl
theorem dX8_ways_123 : decode cX8_ways 123 = .ok (.ifCond .ge 7, 3) := dq_156 (v := 7) dp_cX8_ways rfl rfl
theorem dX8_ways_126 : decode cX8_ways 126 = .ok (.iconst 0, 1) := dq_3 dp_cX8_ways rfl
theorem dX8_ways_127 : decode cX8_ways 127 = .ok (.goto 15, 3) := dq_167 (v := 15) dp_cX8_ways rfl rfl
theorem dX8_ways_130 : decode cX8_ways 130 = .ok (.iload_n 3, 1) := dq_29 dp_cX8_ways rfl
theorem dX8_ways_131 : decode cX8_ways 131 = .ok (.bipush 12, 2) := dq_16 (v := 12) dp_cX8_ways rfl rfl
theorem dX8_ways_133 : decode cX8_ways 133 = .ok (.if_icmp .le 8, 3) := dq_164 (v := 8) dp_cX8_ways rfl rfl
theorem dX8_ways_136 : decode cX8_ways 136 = .ok (.bipush 12, 2) := dq_16 (v := 12) dp_cX8_ways rfl rfl
theorem dX8_ways_138 : decode cX8_ways 138 = .ok (.goto 4, 3) := dq_167 (v := 4) dp_cX8_ways rfl rfl
theorem dX8_ways_141 : decode cX8_ways 141 = .ok (.iload_n 3, 1) := dq_29 dp_cX8_ways rfl
theorem dX8_ways_142 : decode cX8_ways 142 = .ok (.ireturn, 1) := dq_172 dp_cX8_ways rfl
theorem dX8_step_0 : decode cX8_step 0 = .ok (.aload_n 0, 1) := dq_42 dp_cX8_step rfl
theorem dX8_step_1 : decode cX8_step 1 = .ok (.getfield 29, 3) := dq_180 dp_cX8_step rfl
theorem dX8_step_4 : decode cX8_step 4 = .ok (.iload_n 1, 1) := dq_27 dp_cX8_step rfl
theorem dX8_step_5 : decode cX8_step 5 = .ok (.iaload, 1) := dq_46 dp_cX8_step rfl
theorem dX8_step_6 : decode cX8_step 6 = .ok (.tableswitch 49 2 6 #[34, 49, 45, 47, 45], 34) := by decide +kernel
theorem dX8_step_40 : decode cX8_step 40 = .ok (.iconst 2, 1) := dq_5 dp_cX8_step rfl
theorem dX8_step_41 : decode cX8_step 41 = .ok (.aload_n 0, 1) := dq_42 dp_cX8_step rfl
theorem dX8_step_42 : decode cX8_step 42 = .ok (.getfield 32, 3) := dq_180 dp_cX8_step rfl
theorem dX8_step_45 : decode cX8_step 45 = .ok (.iload_n 1, 1) := dq_27 dp_cX8_step rfl
theorem dX8_step_46 : decode cX8_step 46 = .ok (.iaload, 1) := dq_46 dp_cX8_step rfl
theorem dX8_step_47 : decode cX8_step 47 = .ok (.iconst 3, 1) := dq_6 dp_cX8_step rfl
theorem dX8_step_48 : decode cX8_step 48 = .ok (.idiv, 1) := dq_108 dp_cX8_step rfl
theorem dX8_step_49 : decode cX8_step 49 = .ok (.iadd, 1) := dq_96 dp_cX8_step rfl
theorem dX8_step_50 : decode cX8_step 50 = .ok (.ireturn, 1) := dq_172 dp_cX8_step rfl
theorem dX8_step_51 : decode cX8_step 51 = .ok (.iconst 2, 1) := dq_5 dp_cX8_step rfl
theorem dX8_step_52 : decode cX8_step 52 = .ok (.ireturn, 1) := dq_172 dp_cX8_step rfl
theorem dX8_step_53 : decode cX8_step 53 = .ok (.iconst 4, 1) := dq_7 dp_cX8_step rfl
theorem dX8_step_54 : decode cX8_step 54 = .ok (.ireturn, 1) := dq_172 dp_cX8_step rfl
theorem dX8_step_55 : decode cX8_step 55 = .ok (.iconst 1, 1) := dq_4 dp_cX8_step rfl
theorem dX8_step_56 : decode cX8_step 56 = .ok (.ireturn, 1) := dq_172 dp_cX8_step rfl
set_option maxRecDepth 20000 in
theorem gl_X8_deep_X80 : GoodIn wsX8_deep wsX80 := (dg_t (dg_t (dg_t (dg_t (dg_t (dg_t (dg_t (dg_t (dg_t gw_wsX80)))))))))
theorem ggX8_deep_X8_step : GoodIn wsX8_deep wsX8_step := (dg_c 8 rfl rfl (dg_c 1 rfl rfl (dg_c 2 rfl rfl gl_X8_deep_X80)))
set_option maxRecDepth 20000 in
theorem gX8_deep_X8_step : GoodIn wsX8_deep (wsV RX8 104 RX8 yX8_step wsX8_step) := goodIn_app (dg_c 4 rfl rfl (dg_c 5 rfl rfl (dg_c 6 rfl rfl (dg_c 7 rfl rfl dg_0)))) ggX8_deep_X8_step
theorem dX8_deep_0 : decode cX8_deep 0 = .ok (.iload_n 3, 1) := dq_29 dp_cX8_deep rfl
theorem dX8_deep_1 : decode cX8_deep 1 = .ok (.ifCond .eq 24, 3) := dq_153 (v := 24) dp_cX8_deep rfl rfl
theorem dX8_deep_4 : decode cX8_deep 4 = .ok (.iload_n 2, 1) := dq_28 dp_cX8_deep rfl
theorem dX8_deep_5 : decode cX8_deep 5 = .ok (.aload_n 0, 1) := dq_42 dp_cX8_deep rfl
theorem dX8_deep_6 : decode cX8_deep 6 = .ok (.iload_n 1, 1) := dq_27 dp_cX8_deep rfl
theorem dX8_deep_7 : decode cX8_deep 7 = .ok (.invokevirtual 104, 3) := dq_182 dp_cX8_deep rfl
theorem dX8_deep_10 : decode cX8_deep 10 = .ok (.if_icmp .le 13, 3) := dq_164 (v := 13) dp_cX8_deep rfl rfl
theorem dX8_deep_13 : decode cX8_deep 13 = .ok (.iload_n 2, 1) := dq_28 dp_cX8_deep rfl
theorem dX8_deep_14 : decode cX8_deep 14 = .ok (.aload_n 0, 1) := dq_42 dp_cX8_deep rfl
theorem dX8_deep_15 : decode cX8_deep 15 = .ok (.iload_n 1, 1) := dq_27 dp_cX8_deep rfl
theorem dX8_deep_16 : decode cX8_deep 16 = .ok (.invokevirtual 104, 3) := dq_182 dp_cX8_deep rfl
theorem dX8_deep_19 : decode cX8_deep 19 = .ok (.isub, 1) := dq_100 dp_cX8_deep rfl
theorem dX8_deep_20 : decode cX8_deep 20 = .ok (.goto 4, 3) := dq_167 (v := 4) dp_cX8_deep rfl rfl
theorem dX8_deep_23 : decode cX8_deep 23 = .ok (.iconst 0, 1) := dq_3 dp_cX8_deep rfl
theorem dX8_deep_24 : decode cX8_deep 24 = .ok (.ireturn, 1) := dq_172 dp_cX8_deep rfl
theorem dX8_deep_25 : decode cX8_deep 25 = .ok (.aload_n 0, 1) := dq_42 dp_cX8_deep rfl
theorem dX8_deep_26 : decode cX8_deep 26 = .ok (.getfield 29, 3) := dq_180 dp_cX8_deep rfl
theorem dX8_deep_29 : decode cX8_deep 29 = .ok (.iload_n 1, 1) := dq_27 dp_cX8_deep rfl
theorem dX8_deep_30 : decode cX8_deep 30 = .ok (.iaload, 1) := dq_46 dp_cX8_deep rfl
theorem dX8_deep_31 : decode cX8_deep 31 = .ok (.iconst 5, 1) := dq_8 dp_cX8_deep rfl
theorem dX8_deep_32 : decode cX8_deep 32 = .ok (.if_icmp .ne 5, 3) := dq_160 (v := 5) dp_cX8_deep rfl rfl
theorem dX8_deep_35 : decode cX8_deep 35 = .ok (.iload_n 2, 1) := dq_28 dp_cX8_deep rfl
theorem dX8_deep_36 : decode cX8_deep 36 = .ok (.ireturn, 1) := dq_172 dp_cX8_deep rfl
theorem dX8_deep_37 : decode cX8_deep 37 = .ok (.iload_n 2, 1) := dq_28 dp_cX8_deep rfl
theorem dX8_deep_38 : decode cX8_deep 38 = .ok (.aload_n 0, 1) := dq_42 dp_cX8_deep rfl
theorem dX8_deep_39 : decode cX8_deep 39 = .ok (.getfield 29, 3) := dq_180 dp_cX8_deep rfl
theorem dX8_deep_42 : decode cX8_deep 42 = .ok (.iload_n 1, 1) := dq_27 dp_cX8_deep rfl
theorem dX8_deep_43 : decode cX8_deep 43 = .ok (.iaload, 1) := dq_46 dp_cX8_deep rfl
theorem dX8_deep_44 : decode cX8_deep 44 = .ok (.iconst 2, 1) := dq_5 dp_cX8_deep rfl
theorem dX8_deep_45 : decode cX8_deep 45 = .ok (.if_icmp .ne 16, 3) := dq_160 (v := 16) dp_cX8_deep rfl rfl
theorem dX8_deep_48 : decode cX8_deep 48 = .ok (.iconst 1, 1) := dq_4 dp_cX8_deep rfl
theorem dX8_deep_49 : decode cX8_deep 49 = .ok (.aload_n 0, 1) := dq_42 dp_cX8_deep rfl
theorem dX8_deep_50 : decode cX8_deep 50 = .ok (.getfield 32, 3) := dq_180 dp_cX8_deep rfl
theorem dX8_deep_53 : decode cX8_deep 53 = .ok (.iload_n 1, 1) := dq_27 dp_cX8_deep rfl
theorem dX8_deep_54 : decode cX8_deep 54 = .ok (.iaload, 1) := dq_46 dp_cX8_deep rfl
theorem dX8_deep_55 : decode cX8_deep 55 = .ok (.iconst 3, 1) := dq_6 dp_cX8_deep rfl
theorem dX8_deep_56 : decode cX8_deep 56 = .ok (.idiv, 1) := dq_108 dp_cX8_deep rfl
theorem dX8_deep_57 : decode cX8_deep 57 = .ok (.iadd, 1) := dq_96 dp_cX8_deep rfl
theorem dX8_deep_58 : decode cX8_deep 58 = .ok (.goto 4, 3) := dq_167 (v := 4) dp_cX8_deep rfl rfl
theorem dX8_deep_61 : decode cX8_deep 61 = .ok (.iconst 0, 1) := dq_3 dp_cX8_deep rfl
theorem dX8_deep_62 : decode cX8_deep 62 = .ok (.iadd, 1) := dq_96 dp_cX8_deep rfl
theorem dX8_deep_63 : decode cX8_deep 63 = .ok (.aload_n 0, 1) := dq_42 dp_cX8_deep rfl
theorem dX8_deep_64 : decode cX8_deep 64 = .ok (.getfield 135, 3) := dq_180 dp_cX8_deep rfl
theorem dX8_deep_67 : decode cX8_deep 67 = .ok (.bipush 6, 2) := dq_16 (v := 6) dp_cX8_deep rfl rfl
theorem dX8_deep_69 : decode cX8_deep 69 = .ok (.if_icmp .lt 7, 3) := dq_161 (v := 7) dp_cX8_deep rfl rfl
theorem dX8_deep_72 : decode cX8_deep 72 = .ok (.iconst 1, 1) := dq_4 dp_cX8_deep rfl
theorem dX8_deep_73 : decode cX8_deep 73 = .ok (.goto 4, 3) := dq_167 (v := 4) dp_cX8_deep rfl rfl
theorem dX8_deep_76 : decode cX8_deep 76 = .ok (.iconst 0, 1) := dq_3 dp_cX8_deep rfl
theorem dX8_deep_77 : decode cX8_deep 77 = .ok (.iadd, 1) := dq_96 dp_cX8_deep rfl
theorem dX8_deep_78 : decode cX8_deep 78 = .ok (.istore 4, 2) := dq_54 dp_cX8_deep rfl
theorem dX8_deep_80 : decode cX8_deep 80 = .ok (.iload 4, 2) := dq_21 dp_cX8_deep rfl
theorem dX8_deep_82 : decode cX8_deep 82 = .ok (.bipush 24, 2) := dq_16 (v := 24) dp_cX8_deep rfl rfl
theorem dX8_deep_84 : decode cX8_deep 84 = .ok (.if_icmp .le 8, 3) := dq_164 (v := 8) dp_cX8_deep rfl rfl
theorem dX8_deep_87 : decode cX8_deep 87 = .ok (.bipush 24, 2) := dq_16 (v := 24) dp_cX8_deep rfl rfl
theorem dX8_deep_89 : decode cX8_deep 89 = .ok (.goto 5, 3) := dq_167 (v := 5) dp_cX8_deep rfl rfl
theorem dX8_deep_92 : decode cX8_deep 92 = .ok (.iload 4, 2) := dq_21 dp_cX8_deep rfl
theorem dX8_deep_94 : decode cX8_deep 94 = .ok (.ireturn, 1) := dq_172 dp_cX8_deep rfl
theorem dX8_mayBe_0 : decode cX8_mayBe 0 = .ok (.iload_n 2, 1) := dq_28 dp_cX8_mayBe rfl
theorem dX8_mayBe_1 : decode cX8_mayBe 1 = .ok (.iconst 1, 1) := dq_4 dp_cX8_mayBe rfl
theorem dX8_mayBe_2 : decode cX8_mayBe 2 = .ok (.if_icmp .lt 17, 3) := dq_161 (v := 17) dp_cX8_mayBe rfl rfl
theorem dX8_mayBe_5 : decode cX8_mayBe 5 = .ok (.iload_n 3, 1) := dq_29 dp_cX8_mayBe rfl
theorem dX8_mayBe_6 : decode cX8_mayBe 6 = .ok (.aload_n 0, 1) := dq_42 dp_cX8_mayBe rfl
theorem dX8_mayBe_7 : decode cX8_mayBe 7 = .ok (.getfield 35, 3) := dq_180 dp_cX8_mayBe rfl
theorem dX8_mayBe_10 : decode cX8_mayBe 10 = .ok (.iload_n 1, 1) := dq_27 dp_cX8_mayBe rfl
theorem dX8_mayBe_11 : decode cX8_mayBe 11 = .ok (.iaload, 1) := dq_46 dp_cX8_mayBe rfl
theorem dX8_mayBe_12 : decode cX8_mayBe 12 = .ok (.if_icmp .lt 7, 3) := dq_161 (v := 7) dp_cX8_mayBe rfl rfl
theorem dX8_mayBe_15 : decode cX8_mayBe 15 = .ok (.iconst 1, 1) := dq_4 dp_cX8_mayBe rfl
theorem dX8_mayBe_16 : decode cX8_mayBe 16 = .ok (.goto 4, 3) := dq_167 (v := 4) dp_cX8_mayBe rfl rfl
theorem dX8_mayBe_19 : decode cX8_mayBe 19 = .ok (.iconst 0, 1) := dq_3 dp_cX8_mayBe rfl
theorem dX8_mayBe_20 : decode cX8_mayBe 20 = .ok (.ireturn, 1) := dq_172 dp_cX8_mayBe rfl
set_option maxRecDepth 20000 in
theorem gl_X8_frees_X80 : GoodIn wsX8_frees wsX80 := (dg_t (dg_r gw_wsX80))
theorem ggX8_frees_X8_isPull : GoodIn wsX8_frees wsX8_isPull := (dg_c 5 rfl rfl (dg_c 6 rfl rfl gl_X8_frees_X80))
set_option maxRecDepth 20000 in
theorem gX8_frees_X8_isPull : GoodIn wsX8_frees (wsV RX8 101 RX8 yX8_isPull wsX8_isPull) := goodIn_app (dg_c 1 rfl rfl (dg_c 2 rfl rfl (dg_c 3 rfl rfl (dg_c 4 rfl rfl dg_0)))) ggX8_frees_X8_isPull
set_option maxRecDepth 20000 in
theorem ggX8_frees_X8_no : GoodIn wsX8_frees wsX8_no := (dg_c 10 rfl rfl (dg_c 11 rfl rfl gl_X8_frees_X80))
set_option maxRecDepth 20000 in
theorem gX8_frees_X8_no : GoodIn wsX8_frees (wsV RX8 97 RX8 yX8_no wsX8_no) := goodIn_app (dg_c 7 rfl rfl (dg_c 8 rfl rfl (dg_c 9 rfl rfl (dg_c 4 rfl rfl dg_0)))) ggX8_frees_X8_no
set_option maxRecDepth 20000 in
theorem ggX8_frees_X8_ways : GoodIn wsX8_frees wsX8_ways := (dg_c 15 rfl rfl (dg_c 16 rfl rfl (dg_c 17 rfl rfl (dg_c 18 rfl rfl gl_X8_frees_X80))))
set_option maxRecDepth 20000 in
theorem gX8_frees_X8_ways : GoodIn wsX8_frees (wsV RX8 107 RX8 yX8_ways wsX8_ways) := goodIn_app (dg_c 12 rfl rfl (dg_c 13 rfl rfl (dg_c 14 rfl rfl (dg_c 4 rfl rfl dg_0)))) ggX8_frees_X8_ways
set_option maxRecDepth 20000 in
theorem ggX8_frees_X8_deep : GoodIn wsX8_frees wsX8_deep := (dg_c 22 rfl rfl (dg_c 16 rfl rfl (dg_c 17 rfl rfl (dg_c 18 rfl rfl (dg_c 23 rfl rfl (dg_c 24 rfl rfl (dg_c 25 rfl rfl (dg_c 4 rfl rfl (dg_c 26 rfl rfl gl_X8_frees_X80)))))))))
set_option maxRecDepth 20000 in
theorem gX8_frees_X8_deep : GoodIn wsX8_frees (wsV RX8 201 RX8 yX8_deep wsX8_deep) := goodIn_app (dg_c 19 rfl rfl (dg_c 20 rfl rfl (dg_c 21 rfl rfl (dg_c 4 rfl rfl dg_0)))) ggX8_frees_X8_deep
theorem dX8_frees_0 : decode cX8_frees 0 = .ok (.aload_n 0, 1) := dq_42 dp_cX8_frees rfl
theorem dX8_frees_1 : decode cX8_frees 1 = .ok (.iload_n 1, 1) := dq_27 dp_cX8_frees rfl
theorem dX8_frees_2 : decode cX8_frees 2 = .ok (.invokevirtual 101, 3) := dq_182 dp_cX8_frees rfl
theorem dX8_frees_5 : decode cX8_frees 5 = .ok (.ifCond .ne 9, 3) := dq_154 (v := 9) dp_cX8_frees rfl rfl
theorem dX8_frees_8 : decode cX8_frees 8 = .ok (.aload_n 0, 1) := dq_42 dp_cX8_frees rfl
theorem dX8_frees_9 : decode cX8_frees 9 = .ok (.iconst (-1), 1) := dq_2 dp_cX8_frees rfl
theorem dX8_frees_10 : decode cX8_frees 10 = .ok (.invokevirtual 97, 3) := dq_182 dp_cX8_frees rfl
theorem dX8_frees_13 : decode cX8_frees 13 = .ok (.ireturn, 1) := dq_172 dp_cX8_frees rfl
theorem dX8_frees_14 : decode cX8_frees 14 = .ok (.iload_n 3, 1) := dq_29 dp_cX8_frees rfl
theorem dX8_frees_15 : decode cX8_frees 15 = .ok (.ifCond .lt 8, 3) := dq_155 (v := 8) dp_cX8_frees rfl rfl
theorem dX8_frees_18 : decode cX8_frees 18 = .ok (.iload_n 3, 1) := dq_29 dp_cX8_frees rfl
theorem dX8_frees_19 : decode cX8_frees 19 = .ok (.iconst 2, 1) := dq_5 dp_cX8_frees rfl
theorem dX8_frees_20 : decode cX8_frees 20 = .ok (.if_icmp .le 10, 3) := dq_164 (v := 10) dp_cX8_frees rfl rfl
theorem dX8_frees_23 : decode cX8_frees 23 = .ok (.aload_n 0, 1) := dq_42 dp_cX8_frees rfl
theorem dX8_frees_24 : decode cX8_frees 24 = .ok (.bipush (-5), 2) := dq_16 (v := 251) dp_cX8_frees rfl rfl
theorem dX8_frees_26 : decode cX8_frees 26 = .ok (.invokevirtual 97, 3) := dq_182 dp_cX8_frees rfl
theorem dX8_frees_29 : decode cX8_frees 29 = .ok (.ireturn, 1) := dq_172 dp_cX8_frees rfl
theorem dX8_frees_30 : decode cX8_frees 30 = .ok (.iload_n 2, 1) := dq_28 dp_cX8_frees rfl
theorem dX8_frees_31 : decode cX8_frees 31 = .ok (.iconst 1, 1) := dq_4 dp_cX8_frees rfl
theorem dX8_frees_32 : decode cX8_frees 32 = .ok (.if_icmp .lt 9, 3) := dq_161 (v := 9) dp_cX8_frees rfl rfl
theorem dX8_frees_35 : decode cX8_frees 35 = .ok (.iload_n 2, 1) := dq_28 dp_cX8_frees rfl
theorem dX8_frees_36 : decode cX8_frees 36 = .ok (.bipush 24, 2) := dq_16 (v := 24) dp_cX8_frees rfl rfl
theorem dX8_frees_38 : decode cX8_frees 38 = .ok (.if_icmp .le 10, 3) := dq_164 (v := 10) dp_cX8_frees rfl rfl
theorem dX8_frees_41 : decode cX8_frees 41 = .ok (.aload_n 0, 1) := dq_42 dp_cX8_frees rfl
theorem dX8_frees_42 : decode cX8_frees 42 = .ok (.bipush (-6), 2) := dq_16 (v := 250) dp_cX8_frees rfl rfl
theorem dX8_frees_44 : decode cX8_frees 44 = .ok (.invokevirtual 97, 3) := dq_182 dp_cX8_frees rfl
theorem dX8_frees_47 : decode cX8_frees 47 = .ok (.ireturn, 1) := dq_172 dp_cX8_frees rfl
theorem dX8_frees_48 : decode cX8_frees 48 = .ok (.iload_n 3, 1) := dq_29 dp_cX8_frees rfl
theorem dX8_frees_49 : decode cX8_frees 49 = .ok (.ifCond .ne 12, 3) := dq_154 (v := 12) dp_cX8_frees rfl rfl
theorem dX8_frees_52 : decode cX8_frees 52 = .ok (.aload_n 0, 1) := dq_42 dp_cX8_frees rfl
theorem dX8_frees_53 : decode cX8_frees 53 = .ok (.iload_n 1, 1) := dq_27 dp_cX8_frees rfl
theorem dX8_frees_54 : decode cX8_frees 54 = .ok (.iload_n 2, 1) := dq_28 dp_cX8_frees rfl
theorem dX8_frees_55 : decode cX8_frees 55 = .ok (.invokevirtual 107, 3) := dq_182 dp_cX8_frees rfl
theorem dX8_frees_58 : decode cX8_frees 58 = .ok (.goto 19, 3) := dq_167 (v := 19) dp_cX8_frees rfl rfl
theorem dX8_frees_61 : decode cX8_frees 61 = .ok (.aload_n 0, 1) := dq_42 dp_cX8_frees rfl
theorem dX8_frees_62 : decode cX8_frees 62 = .ok (.iload_n 1, 1) := dq_27 dp_cX8_frees rfl
theorem dX8_frees_63 : decode cX8_frees 63 = .ok (.iload_n 2, 1) := dq_28 dp_cX8_frees rfl
theorem dX8_frees_64 : decode cX8_frees 64 = .ok (.iload_n 3, 1) := dq_29 dp_cX8_frees rfl
theorem dX8_frees_65 : decode cX8_frees 65 = .ok (.iconst 1, 1) := dq_4 dp_cX8_frees rfl
theorem dX8_frees_66 : decode cX8_frees 66 = .ok (.if_icmp .ne 7, 3) := dq_160 (v := 7) dp_cX8_frees rfl rfl
theorem dX8_frees_69 : decode cX8_frees 69 = .ok (.iconst 1, 1) := dq_4 dp_cX8_frees rfl
theorem dX8_frees_70 : decode cX8_frees 70 = .ok (.goto 4, 3) := dq_167 (v := 4) dp_cX8_frees rfl rfl
theorem dX8_frees_73 : decode cX8_frees 73 = .ok (.iconst 0, 1) := dq_3 dp_cX8_frees rfl
theorem dX8_frees_74 : decode cX8_frees 74 = .ok (.invokevirtual 201, 3) := dq_182 dp_cX8_frees rfl
theorem dX8_frees_77 : decode cX8_frees 77 = .ok (.ireturn, 1) := dq_172 dp_cX8_frees rfl
set_option maxRecDepth 20000 in
theorem ggX8_power_X8_power : GoodIn wsX8_power wsX8_power := (dg_c 0 rfl rfl (dg_c 1 rfl rfl (dg_c 2 rfl rfl (dg_c 3 rfl rfl (dg_c 4 rfl rfl dg_0)))))
set_option maxRecDepth 20000 in
theorem gX8_power_X8_power : GoodIn wsX8_power (wsV RX8 205 RX8 yX8_power wsX8_power) := goodIn_app (dg_c 1 rfl rfl (dg_c 2 rfl rfl (dg_c 3 rfl rfl (dg_c 4 rfl rfl dg_0)))) ggX8_power_X8_power
theorem dX8_power_0 : decode cX8_power 0 = .ok (.iload_n 1, 1) := dq_27 dp_cX8_power rfl
theorem dX8_power_1 : decode cX8_power 1 = .ok (.ifCond .ne 7, 3) := dq_154 (v := 7) dp_cX8_power rfl rfl
theorem dX8_power_4 : decode cX8_power 4 = .ok (.iconst 1, 1) := dq_4 dp_cX8_power rfl
theorem dX8_power_5 : decode cX8_power 5 = .ok (.goto 13, 3) := dq_167 (v := 13) dp_cX8_power rfl rfl
theorem dX8_power_8 : decode cX8_power 8 = .ok (.bipush 12, 2) := dq_16 (v := 12) dp_cX8_power rfl rfl
theorem dX8_power_10 : decode cX8_power 10 = .ok (.aload_n 0, 1) := dq_42 dp_cX8_power rfl
theorem dX8_power_11 : decode cX8_power 11 = .ok (.iload_n 1, 1) := dq_27 dp_cX8_power rfl
theorem dX8_power_12 : decode cX8_power 12 = .ok (.iconst 1, 1) := dq_4 dp_cX8_power rfl
theorem dX8_power_13 : decode cX8_power 13 = .ok (.isub, 1) := dq_100 dp_cX8_power rfl
theorem dX8_power_14 : decode cX8_power 14 = .ok (.invokevirtual 205, 3) := dq_182 dp_cX8_power rfl
theorem dX8_power_17 : decode cX8_power 17 = .ok (.imul, 1) := dq_104 dp_cX8_power rfl
theorem dX8_power_18 : decode cX8_power 18 = .ok (.ireturn, 1) := dq_172 dp_cX8_power rfl
set_option maxRecDepth 20000 in
theorem ggX8_mostCases_X8_power : GoodIn wsX8_mostCases wsX8_power := (dg_c 7 rfl rfl (dg_c 3 rfl rfl (dg_c 4 rfl rfl (dg_c 5 rfl rfl (dg_c 6 rfl rfl dg_0)))))
set_option maxRecDepth 20000 in
theorem gX8_mostCases_X8_power : GoodIn wsX8_mostCases (wsV RX8 205 RX8 yX8_power wsX8_power) := goodIn_app (dg_c 3 rfl rfl (dg_c 4 rfl rfl (dg_c 5 rfl rfl (dg_c 6 rfl rfl dg_0)))) ggX8_mostCases_X8_power
set_option maxRecDepth 20000 in
theorem gl_X8_mostCases_X80 : GoodIn wsX8_mostCases wsX80 := (dg_t (dg_r gw_wsX80))
theorem ggX8_mostCases_X8_mostCases : GoodIn wsX8_mostCases wsX8_mostCases := (dg_c 0 rfl rfl (goodIn_app (goodIn_app (dg_c 1 rfl rfl (dg_c 2 rfl rfl (dg_c 3 rfl rfl (dg_c 4 rfl rfl (dg_c 5 rfl rfl (dg_c 6 rfl rfl (dg_c 7 rfl rfl (dg_c 8 rfl rfl (dg_c 9 rfl rfl (dg_c 10 rfl rfl (dg_c 11 rfl rfl (dg_c 12 rfl rfl (dg_c 13 rfl rfl (dg_c 14 rfl rfl (dg_c 15 rfl rfl (dg_c 16 rfl rfl (dg_c 17 rfl rfl (dg_c 18 rfl rfl (dg_c 19 rfl rfl (dg_c 20 rfl rfl (dg_c 21 rfl rfl (dg_c 22 rfl rfl (dg_c 23 rfl rfl (dg_c 24 rfl rfl dg_0)))))))))))))))))))))))) (dg_c 25 rfl rfl (dg_c 26 rfl rfl (dg_c 27 rfl rfl (dg_c 28 rfl rfl (dg_c 29 rfl rfl (dg_c 30 rfl rfl (dg_c 31 rfl rfl (dg_c 32 rfl rfl (dg_c 33 rfl rfl dg_0)))))))))) gl_X8_mostCases_X80))
set_option maxRecDepth 20000 in
theorem gX8_mostCases_X8_mostCases : GoodIn wsX8_mostCases (wsV RX8 208 RX8 yX8_mostCases wsX8_mostCases) := goodIn_app (dg_c 8 rfl rfl (dg_c 9 rfl rfl (dg_c 10 rfl rfl (dg_c 6 rfl rfl dg_0)))) ggX8_mostCases_X8_mostCases
set_option maxRecDepth 20000 in
theorem ggX8_mostCases_X8_mayBe : GoodIn wsX8_mostCases wsX8_mayBe := (dg_c 14 rfl rfl (dg_c 15 rfl rfl gl_X8_mostCases_X80))
set_option maxRecDepth 20000 in
theorem gX8_mostCases_X8_mayBe : GoodIn wsX8_mostCases (wsV RX8 118 RX8 yX8_mayBe wsX8_mayBe) := goodIn_app (dg_c 11 rfl rfl (dg_c 12 rfl rfl (dg_c 13 rfl rfl (dg_c 6 rfl rfl dg_0)))) ggX8_mostCases_X8_mayBe
set_option maxRecDepth 20000 in
theorem ggX8_mostCases_X8_casesBy : GoodIn wsX8_mostCases wsX8_casesBy := (dg_c 19 rfl rfl (goodIn_app (goodIn_app (dg_c 15 rfl rfl (dg_c 20 rfl rfl (dg_c 21 rfl rfl (dg_c 22 rfl rfl (dg_c 6 rfl rfl (dg_c 23 rfl rfl (dg_c 2 rfl rfl (dg_c 24 rfl rfl (dg_c 25 rfl rfl (dg_c 26 rfl rfl (dg_c 27 rfl rfl (dg_c 28 rfl rfl (dg_c 29 rfl rfl (dg_c 30 rfl rfl (dg_c 31 rfl rfl (dg_c 32 rfl rfl (dg_c 33 rfl rfl (dg_c 8 rfl rfl (dg_c 9 rfl rfl (dg_c 10 rfl rfl (dg_c 0 rfl rfl (dg_c 1 rfl rfl (dg_c 3 rfl rfl (dg_c 4 rfl rfl dg_0)))))))))))))))))))))))) (dg_c 5 rfl rfl (dg_c 7 rfl rfl (dg_c 11 rfl rfl (dg_c 12 rfl rfl (dg_c 13 rfl rfl (dg_c 14 rfl rfl (dg_c 16 rfl rfl (dg_c 17 rfl rfl (dg_c 18 rfl rfl dg_0)))))))))) gl_X8_mostCases_X80))
set_option maxRecDepth 20000 in
theorem gX8_mostCases_X8_casesBy : GoodIn wsX8_mostCases (wsV RX8 212 RX8 yX8_casesBy wsX8_casesBy) := goodIn_app (dg_c 16 rfl rfl (dg_c 17 rfl rfl (dg_c 18 rfl rfl (dg_c 6 rfl rfl dg_0)))) ggX8_mostCases_X8_casesBy
theorem dX8_mostCases_0 : decode cX8_mostCases 0 = .ok (.iload_n 2, 1) := dq_28 dp_cX8_mostCases rfl
theorem dX8_mostCases_1 : decode cX8_mostCases 1 = .ok (.ifCond .ne 9, 3) := dq_154 (v := 9) dp_cX8_mostCases rfl rfl
theorem dX8_mostCases_4 : decode cX8_mostCases 4 = .ok (.aload_n 0, 1) := dq_42 dp_cX8_mostCases rfl
theorem dX8_mostCases_5 : decode cX8_mostCases 5 = .ok (.iload_n 1, 1) := dq_27 dp_cX8_mostCases rfl
theorem dX8_mostCases_6 : decode cX8_mostCases 6 = .ok (.invokevirtual 205, 3) := dq_182 dp_cX8_mostCases rfl
theorem dX8_mostCases_9 : decode cX8_mostCases 9 = .ok (.ireturn, 1) := dq_172 dp_cX8_mostCases rfl
theorem dX8_mostCases_10 : decode cX8_mostCases 10 = .ok (.iload_n 1, 1) := dq_27 dp_cX8_mostCases rfl
theorem dX8_mostCases_11 : decode cX8_mostCases 11 = .ok (.ifCond .ne 5, 3) := dq_154 (v := 5) dp_cX8_mostCases rfl rfl
theorem dX8_mostCases_14 : decode cX8_mostCases 14 = .ok (.iconst 0, 1) := dq_3 dp_cX8_mostCases rfl
theorem dX8_mostCases_15 : decode cX8_mostCases 15 = .ok (.ireturn, 1) := dq_172 dp_cX8_mostCases rfl
theorem dX8_mostCases_16 : decode cX8_mostCases 16 = .ok (.bipush 12, 2) := dq_16 (v := 12) dp_cX8_mostCases rfl rfl
theorem dX8_mostCases_18 : decode cX8_mostCases 18 = .ok (.aload_n 0, 1) := dq_42 dp_cX8_mostCases rfl
theorem dX8_mostCases_19 : decode cX8_mostCases 19 = .ok (.iload_n 1, 1) := dq_27 dp_cX8_mostCases rfl
theorem dX8_mostCases_20 : decode cX8_mostCases 20 = .ok (.iconst 1, 1) := dq_4 dp_cX8_mostCases rfl
theorem dX8_mostCases_21 : decode cX8_mostCases 21 = .ok (.isub, 1) := dq_100 dp_cX8_mostCases rfl
theorem dX8_mostCases_22 : decode cX8_mostCases 22 = .ok (.iload_n 2, 1) := dq_28 dp_cX8_mostCases rfl
theorem dX8_mostCases_23 : decode cX8_mostCases 23 = .ok (.iload_n 3, 1) := dq_29 dp_cX8_mostCases rfl
theorem dX8_mostCases_24 : decode cX8_mostCases 24 = .ok (.iload 4, 2) := dq_21 dp_cX8_mostCases rfl
theorem dX8_mostCases_26 : decode cX8_mostCases 26 = .ok (.invokevirtual 208, 3) := dq_182 dp_cX8_mostCases rfl
theorem dX8_mostCases_29 : decode cX8_mostCases 29 = .ok (.imul, 1) := dq_104 dp_cX8_mostCases rfl
theorem dX8_mostCases_30 : decode cX8_mostCases 30 = .ok (.istore 5, 2) := dq_54 dp_cX8_mostCases rfl
theorem dX8_mostCases_32 : decode cX8_mostCases 32 = .ok (.iconst 0, 1) := dq_3 dp_cX8_mostCases rfl
theorem dX8_mostCases_33 : decode cX8_mostCases 33 = .ok (.istore 6, 2) := dq_54 dp_cX8_mostCases rfl
theorem dX8_mostCases_35 : decode cX8_mostCases 35 = .ok (.iload 6, 2) := dq_21 dp_cX8_mostCases rfl
theorem dX8_mostCases_37 : decode cX8_mostCases 37 = .ok (.aload_n 0, 1) := dq_42 dp_cX8_mostCases rfl
theorem dX8_mostCases_38 : decode cX8_mostCases 38 = .ok (.getfield 90, 3) := dq_180 dp_cX8_mostCases rfl
theorem dX8_mostCases_41 : decode cX8_mostCases 41 = .ok (.if_icmp .ge 68, 3) := dq_162 (v := 68) dp_cX8_mostCases rfl rfl
theorem dX8_mostCases_44 : decode cX8_mostCases 44 = .ok (.aload_n 0, 1) := dq_42 dp_cX8_mostCases rfl
theorem dX8_mostCases_45 : decode cX8_mostCases 45 = .ok (.iload 6, 2) := dq_21 dp_cX8_mostCases rfl
theorem dX8_mostCases_47 : decode cX8_mostCases 47 = .ok (.iload_n 2, 1) := dq_28 dp_cX8_mostCases rfl
theorem dX8_mostCases_48 : decode cX8_mostCases 48 = .ok (.iload_n 3, 1) := dq_29 dp_cX8_mostCases rfl
theorem dX8_mostCases_49 : decode cX8_mostCases 49 = .ok (.invokevirtual 118, 3) := dq_182 dp_cX8_mostCases rfl
theorem dX8_mostCases_52 : decode cX8_mostCases 52 = .ok (.ifCond .eq 51, 3) := dq_153 (v := 51) dp_cX8_mostCases rfl rfl
theorem dX8_mostCases_55 : decode cX8_mostCases 55 = .ok (.iload 4, 2) := dq_21 dp_cX8_mostCases rfl
theorem dX8_mostCases_57 : decode cX8_mostCases 57 = .ok (.ifCond .eq 17, 3) := dq_153 (v := 17) dp_cX8_mostCases rfl rfl
theorem dX8_mostCases_60 : decode cX8_mostCases 60 = .ok (.aload_n 0, 1) := dq_42 dp_cX8_mostCases rfl
theorem dX8_mostCases_61 : decode cX8_mostCases 61 = .ok (.getfield 29, 3) := dq_180 dp_cX8_mostCases rfl
theorem dX8_mostCases_64 : decode cX8_mostCases 64 = .ok (.iload 6, 2) := dq_21 dp_cX8_mostCases rfl
theorem dX8_mostCases_66 : decode cX8_mostCases 66 = .ok (.iaload, 1) := dq_46 dp_cX8_mostCases rfl
theorem dX8_mostCases_67 : decode cX8_mostCases 67 = .ok (.iconst 5, 1) := dq_8 dp_cX8_mostCases rfl
theorem dX8_mostCases_68 : decode cX8_mostCases 68 = .ok (.if_icmp .ne 6, 3) := dq_160 (v := 6) dp_cX8_mostCases rfl rfl
theorem dX8_mostCases_71 : decode cX8_mostCases 71 = .ok (.goto 32, 3) := dq_167 (v := 32) dp_cX8_mostCases rfl rfl
theorem dX8_mostCases_74 : decode cX8_mostCases 74 = .ok (.aload_n 0, 1) := dq_42 dp_cX8_mostCases rfl
theorem dX8_mostCases_75 : decode cX8_mostCases 75 = .ok (.iload 6, 2) := dq_21 dp_cX8_mostCases rfl
theorem dX8_mostCases_77 : decode cX8_mostCases 77 = .ok (.iload_n 1, 1) := dq_27 dp_cX8_mostCases rfl
theorem dX8_mostCases_78 : decode cX8_mostCases 78 = .ok (.iload_n 2, 1) := dq_28 dp_cX8_mostCases rfl
theorem dX8_mostCases_79 : decode cX8_mostCases 79 = .ok (.iload_n 3, 1) := dq_29 dp_cX8_mostCases rfl
theorem dX8_mostCases_80 : decode cX8_mostCases 80 = .ok (.iload 4, 2) := dq_21 dp_cX8_mostCases rfl
theorem dX8_mostCases_82 : decode cX8_mostCases 82 = .ok (.invokevirtual 212, 3) := dq_182 dp_cX8_mostCases rfl
theorem dX8_mostCases_85 : decode cX8_mostCases 85 = .ok (.istore 7, 2) := dq_54 dp_cX8_mostCases rfl
theorem dX8_mostCases_87 : decode cX8_mostCases 87 = .ok (.iload 7, 2) := dq_21 dp_cX8_mostCases rfl
theorem dX8_mostCases_89 : decode cX8_mostCases 89 = .ok (.iload 5, 2) := dq_21 dp_cX8_mostCases rfl
theorem dX8_mostCases_91 : decode cX8_mostCases 91 = .ok (.if_icmp .le 8, 3) := dq_164 (v := 8) dp_cX8_mostCases rfl rfl
theorem dX8_mostCases_94 : decode cX8_mostCases 94 = .ok (.iload 7, 2) := dq_21 dp_cX8_mostCases rfl
theorem dX8_mostCases_96 : decode cX8_mostCases 96 = .ok (.goto 5, 3) := dq_167 (v := 5) dp_cX8_mostCases rfl rfl
theorem dX8_mostCases_99 : decode cX8_mostCases 99 = .ok (.iload 5, 2) := dq_21 dp_cX8_mostCases rfl
theorem dX8_mostCases_101 : decode cX8_mostCases 101 = .ok (.istore 5, 2) := dq_54 dp_cX8_mostCases rfl
theorem dX8_mostCases_103 : decode cX8_mostCases 103 = .ok (.iinc 6 1, 3) := dq_132 (v := 1) dp_cX8_mostCases rfl (by decide) rfl
theorem dX8_mostCases_106 : decode cX8_mostCases 106 = .ok (.goto (-71), 3) := dq_167 (v := 65465) dp_cX8_mostCases rfl rfl
theorem dX8_mostCases_109 : decode cX8_mostCases 109 = .ok (.iload 5, 2) := dq_21 dp_cX8_mostCases rfl
theorem dX8_mostCases_111 : decode cX8_mostCases 111 = .ok (.ireturn, 1) := dq_172 dp_cX8_mostCases rfl
set_option maxRecDepth 20000 in
theorem gl_X8_casesBy_X80 : GoodIn wsX8_casesBy wsX80 := (dg_t (dg_r gw_wsX80))
theorem ggX8_casesBy_X8_ways : GoodIn wsX8_casesBy wsX8_ways := (dg_c 6 rfl rfl (dg_c 7 rfl rfl (dg_c 8 rfl rfl (dg_c 9 rfl rfl gl_X8_casesBy_X80))))
set_option maxRecDepth 20000 in
theorem gX8_casesBy_X8_ways : GoodIn wsX8_casesBy (wsV RX8 107 RX8 yX8_ways wsX8_ways) := goodIn_app (dg_c 2 rfl rfl (dg_c 3 rfl rfl (dg_c 4 rfl rfl (dg_c 5 rfl rfl dg_0)))) ggX8_casesBy_X8_ways
set_option maxRecDepth 20000 in
theorem ggX8_casesBy_X8_deep : GoodIn wsX8_casesBy wsX8_deep := (dg_c 13 rfl rfl (dg_c 7 rfl rfl (dg_c 8 rfl rfl (dg_c 9 rfl rfl (dg_c 14 rfl rfl (dg_c 15 rfl rfl (dg_c 16 rfl rfl (dg_c 5 rfl rfl (dg_c 17 rfl rfl gl_X8_casesBy_X80)))))))))
set_option maxRecDepth 20000 in
theorem gX8_casesBy_X8_deep : GoodIn wsX8_casesBy (wsV RX8 201 RX8 yX8_deep wsX8_deep) := goodIn_app (dg_c 10 rfl rfl (dg_c 11 rfl rfl (dg_c 12 rfl rfl (dg_c 5 rfl rfl dg_0)))) ggX8_casesBy_X8_deep
set_option maxRecDepth 20000 in
theorem ggX8_casesBy_X8_mostCases : GoodIn wsX8_casesBy wsX8_mostCases := (dg_c 21 rfl rfl (goodIn_app (goodIn_app (dg_c 22 rfl rfl (dg_c 7 rfl rfl (dg_c 23 rfl rfl (dg_c 24 rfl rfl (dg_c 25 rfl rfl (dg_c 5 rfl rfl (dg_c 26 rfl rfl (dg_c 18 rfl rfl (dg_c 19 rfl rfl (dg_c 20 rfl rfl (dg_c 27 rfl rfl (dg_c 28 rfl rfl (dg_c 29 rfl rfl (dg_c 30 rfl rfl (dg_c 1 rfl rfl (dg_c 31 rfl rfl (dg_c 32 rfl rfl (dg_c 33 rfl rfl (dg_c 0 rfl rfl (dg_c 2 rfl rfl (dg_c 3 rfl rfl (dg_c 4 rfl rfl (dg_c 6 rfl rfl (dg_c 8 rfl rfl dg_0)))))))))))))))))))))))) (dg_c 9 rfl rfl (dg_c 10 rfl rfl (dg_c 11 rfl rfl (dg_c 12 rfl rfl (dg_c 13 rfl rfl (dg_c 14 rfl rfl (dg_c 15 rfl rfl (dg_c 16 rfl rfl (dg_c 17 rfl rfl dg_0)))))))))) gl_X8_casesBy_X80))
set_option maxRecDepth 20000 in
theorem gX8_casesBy_X8_mostCases : GoodIn wsX8_casesBy (wsV RX8 208 RX8 yX8_mostCases wsX8_mostCases) := goodIn_app (dg_c 18 rfl rfl (dg_c 19 rfl rfl (dg_c 20 rfl rfl (dg_c 5 rfl rfl dg_0)))) ggX8_casesBy_X8_mostCases
theorem dX8_casesBy_0 : decode cX8_casesBy 0 = .ok (.aload_n 0, 1) := dq_42 dp_cX8_casesBy rfl
theorem dX8_casesBy_1 : decode cX8_casesBy 1 = .ok (.iload_n 1, 1) := dq_27 dp_cX8_casesBy rfl
theorem dX8_casesBy_2 : decode cX8_casesBy 2 = .ok (.iload_n 3, 1) := dq_29 dp_cX8_casesBy rfl
theorem dX8_casesBy_3 : decode cX8_casesBy 3 = .ok (.invokevirtual 107, 3) := dq_182 dp_cX8_casesBy rfl
theorem dX8_casesBy_6 : decode cX8_casesBy 6 = .ok (.istore 6, 2) := dq_54 dp_cX8_casesBy rfl
theorem dX8_casesBy_8 : decode cX8_casesBy 8 = .ok (.iload 6, 2) := dq_21 dp_cX8_casesBy rfl
theorem dX8_casesBy_10 : decode cX8_casesBy 10 = .ok (.ifCond .ne 7, 3) := dq_154 (v := 7) dp_cX8_casesBy rfl rfl
theorem dX8_casesBy_13 : decode cX8_casesBy 13 = .ok (.iconst 0, 1) := dq_3 dp_cX8_casesBy rfl
theorem dX8_casesBy_14 : decode cX8_casesBy 14 = .ok (.goto 31, 3) := dq_167 (v := 31) dp_cX8_casesBy rfl rfl
theorem dX8_casesBy_17 : decode cX8_casesBy 17 = .ok (.iload 6, 2) := dq_21 dp_cX8_casesBy rfl
theorem dX8_casesBy_19 : decode cX8_casesBy 19 = .ok (.aload_n 0, 1) := dq_42 dp_cX8_casesBy rfl
theorem dX8_casesBy_20 : decode cX8_casesBy 20 = .ok (.iload_n 2, 1) := dq_28 dp_cX8_casesBy rfl
theorem dX8_casesBy_21 : decode cX8_casesBy 21 = .ok (.iconst 1, 1) := dq_4 dp_cX8_casesBy rfl
theorem dX8_casesBy_22 : decode cX8_casesBy 22 = .ok (.isub, 1) := dq_100 dp_cX8_casesBy rfl
theorem dX8_casesBy_23 : decode cX8_casesBy 23 = .ok (.aload_n 0, 1) := dq_42 dp_cX8_casesBy rfl
theorem dX8_casesBy_24 : decode cX8_casesBy 24 = .ok (.iload_n 1, 1) := dq_27 dp_cX8_casesBy rfl
theorem dX8_casesBy_25 : decode cX8_casesBy 25 = .ok (.iload_n 3, 1) := dq_29 dp_cX8_casesBy rfl
theorem dX8_casesBy_26 : decode cX8_casesBy 26 = .ok (.iconst 1, 1) := dq_4 dp_cX8_casesBy rfl
theorem dX8_casesBy_27 : decode cX8_casesBy 27 = .ok (.invokevirtual 201, 3) := dq_182 dp_cX8_casesBy rfl
theorem dX8_casesBy_30 : decode cX8_casesBy 30 = .ok (.iload 4, 2) := dq_21 dp_cX8_casesBy rfl
theorem dX8_casesBy_32 : decode cX8_casesBy 32 = .ok (.aload_n 0, 1) := dq_42 dp_cX8_casesBy rfl
theorem dX8_casesBy_33 : decode cX8_casesBy 33 = .ok (.getfield 35, 3) := dq_180 dp_cX8_casesBy rfl
theorem dX8_casesBy_36 : decode cX8_casesBy 36 = .ok (.iload_n 1, 1) := dq_27 dp_cX8_casesBy rfl
theorem dX8_casesBy_37 : decode cX8_casesBy 37 = .ok (.iaload, 1) := dq_46 dp_cX8_casesBy rfl
theorem dX8_casesBy_38 : decode cX8_casesBy 38 = .ok (.isub, 1) := dq_100 dp_cX8_casesBy rfl
theorem dX8_casesBy_39 : decode cX8_casesBy 39 = .ok (.iload 5, 2) := dq_21 dp_cX8_casesBy rfl
theorem dX8_casesBy_41 : decode cX8_casesBy 41 = .ok (.invokevirtual 208, 3) := dq_182 dp_cX8_casesBy rfl
theorem dX8_casesBy_44 : decode cX8_casesBy 44 = .ok (.imul, 1) := dq_104 dp_cX8_casesBy rfl
theorem dX8_casesBy_45 : decode cX8_casesBy 45 = .ok (.istore 7, 2) := dq_54 dp_cX8_casesBy rfl
theorem dX8_casesBy_47 : decode cX8_casesBy 47 = .ok (.iload 6, 2) := dq_21 dp_cX8_casesBy rfl
theorem dX8_casesBy_49 : decode cX8_casesBy 49 = .ok (.bipush 12, 2) := dq_16 (v := 12) dp_cX8_casesBy rfl rfl
theorem dX8_casesBy_51 : decode cX8_casesBy 51 = .ok (.if_icmp .ne 8, 3) := dq_160 (v := 8) dp_cX8_casesBy rfl rfl
theorem dX8_casesBy_54 : decode cX8_casesBy 54 = .ok (.iload 7, 2) := dq_21 dp_cX8_casesBy rfl
theorem dX8_casesBy_56 : decode cX8_casesBy 56 = .ok (.goto 37, 3) := dq_167 (v := 37) dp_cX8_casesBy rfl rfl
theorem dX8_casesBy_59 : decode cX8_casesBy 59 = .ok (.iload 7, 2) := dq_21 dp_cX8_casesBy rfl
theorem dX8_casesBy_61 : decode cX8_casesBy 61 = .ok (.bipush 12, 2) := dq_16 (v := 12) dp_cX8_casesBy rfl rfl
theorem dX8_casesBy_63 : decode cX8_casesBy 63 = .ok (.iload 6, 2) := dq_21 dp_cX8_casesBy rfl
theorem dX8_casesBy_65 : decode cX8_casesBy 65 = .ok (.isub, 1) := dq_100 dp_cX8_casesBy rfl
theorem dX8_casesBy_66 : decode cX8_casesBy 66 = .ok (.aload_n 0, 1) := dq_42 dp_cX8_casesBy rfl
theorem dX8_casesBy_67 : decode cX8_casesBy 67 = .ok (.iload_n 2, 1) := dq_28 dp_cX8_casesBy rfl
theorem dX8_casesBy_68 : decode cX8_casesBy 68 = .ok (.iconst 1, 1) := dq_4 dp_cX8_casesBy rfl
theorem dX8_casesBy_69 : decode cX8_casesBy 69 = .ok (.isub, 1) := dq_100 dp_cX8_casesBy rfl
theorem dX8_casesBy_70 : decode cX8_casesBy 70 = .ok (.aload_n 0, 1) := dq_42 dp_cX8_casesBy rfl
theorem dX8_casesBy_71 : decode cX8_casesBy 71 = .ok (.iload_n 1, 1) := dq_27 dp_cX8_casesBy rfl
theorem dX8_casesBy_72 : decode cX8_casesBy 72 = .ok (.iload_n 3, 1) := dq_29 dp_cX8_casesBy rfl
theorem dX8_casesBy_73 : decode cX8_casesBy 73 = .ok (.iconst 0, 1) := dq_3 dp_cX8_casesBy rfl
theorem dX8_casesBy_74 : decode cX8_casesBy 74 = .ok (.invokevirtual 201, 3) := dq_182 dp_cX8_casesBy rfl
theorem dX8_casesBy_77 : decode cX8_casesBy 77 = .ok (.iload 4, 2) := dq_21 dp_cX8_casesBy rfl
theorem dX8_casesBy_79 : decode cX8_casesBy 79 = .ok (.aload_n 0, 1) := dq_42 dp_cX8_casesBy rfl
theorem dX8_casesBy_80 : decode cX8_casesBy 80 = .ok (.getfield 35, 3) := dq_180 dp_cX8_casesBy rfl
theorem dX8_casesBy_83 : decode cX8_casesBy 83 = .ok (.iload_n 1, 1) := dq_27 dp_cX8_casesBy rfl
theorem dX8_casesBy_84 : decode cX8_casesBy 84 = .ok (.iaload, 1) := dq_46 dp_cX8_casesBy rfl
theorem dX8_casesBy_85 : decode cX8_casesBy 85 = .ok (.isub, 1) := dq_100 dp_cX8_casesBy rfl
theorem dX8_casesBy_86 : decode cX8_casesBy 86 = .ok (.iload 5, 2) := dq_21 dp_cX8_casesBy rfl
theorem dX8_casesBy_88 : decode cX8_casesBy 88 = .ok (.invokevirtual 208, 3) := dq_182 dp_cX8_casesBy rfl
theorem dX8_casesBy_91 : decode cX8_casesBy 91 = .ok (.imul, 1) := dq_104 dp_cX8_casesBy rfl
theorem dX8_casesBy_92 : decode cX8_casesBy 92 = .ok (.iadd, 1) := dq_96 dp_cX8_casesBy rfl
theorem dX8_casesBy_93 : decode cX8_casesBy 93 = .ok (.ireturn, 1) := dq_172 dp_cX8_casesBy rfl
set_option maxRecDepth 20000 in
theorem gl_X8_nextOf_X80 : GoodIn wsX8_nextOf wsX80 := (dg_t (dg_r gw_wsX80))
theorem ggX8_nextOf_X8_mayBe : GoodIn wsX8_nextOf wsX8_mayBe := (dg_c 8 rfl rfl (dg_c 9 rfl rfl gl_X8_nextOf_X80))
set_option maxRecDepth 20000 in
theorem gX8_nextOf_X8_mayBe : GoodIn wsX8_nextOf (wsV RX8 118 RX8 yX8_mayBe wsX8_mayBe) := goodIn_app (dg_c 4 rfl rfl (dg_c 5 rfl rfl (dg_c 6 rfl rfl (dg_c 7 rfl rfl dg_0)))) ggX8_nextOf_X8_mayBe
set_option maxRecDepth 20000 in
theorem ggX8_nextOf_X8_casesBy : GoodIn wsX8_nextOf wsX8_casesBy := (dg_c 13 rfl rfl (goodIn_app (goodIn_app (dg_c 9 rfl rfl (dg_c 14 rfl rfl (dg_c 15 rfl rfl (dg_c 16 rfl rfl (dg_c 7 rfl rfl (dg_c 17 rfl rfl (dg_c 18 rfl rfl (dg_c 19 rfl rfl (dg_c 20 rfl rfl (dg_c 21 rfl rfl (dg_c 22 rfl rfl (dg_c 23 rfl rfl (dg_c 24 rfl rfl (dg_c 25 rfl rfl (dg_c 26 rfl rfl (dg_c 27 rfl rfl (dg_c 28 rfl rfl (dg_c 29 rfl rfl (dg_c 30 rfl rfl (dg_c 31 rfl rfl (dg_c 32 rfl rfl (dg_c 1 rfl rfl (dg_c 33 rfl rfl (dg_c 34 rfl rfl dg_0)))))))))))))))))))))))) (dg_c 35 rfl rfl (dg_c 36 rfl rfl (dg_c 4 rfl rfl (dg_c 5 rfl rfl (dg_c 6 rfl rfl (dg_c 8 rfl rfl (dg_c 10 rfl rfl (dg_c 11 rfl rfl (dg_c 12 rfl rfl dg_0)))))))))) gl_X8_nextOf_X80))
set_option maxRecDepth 20000 in
theorem gX8_nextOf_X8_casesBy : GoodIn wsX8_nextOf (wsV RX8 212 RX8 yX8_casesBy wsX8_casesBy) := goodIn_app (dg_c 10 rfl rfl (dg_c 11 rfl rfl (dg_c 12 rfl rfl (dg_c 7 rfl rfl dg_0)))) ggX8_nextOf_X8_casesBy
theorem dX8_nextOf_0 : decode cX8_nextOf 0 = .ok (.iconst (-1), 1) := dq_2 dp_cX8_nextOf rfl
theorem dX8_nextOf_1 : decode cX8_nextOf 1 = .ok (.istore_n 2, 1) := dq_61 dp_cX8_nextOf rfl
theorem dX8_nextOf_2 : decode cX8_nextOf 2 = .ok (.iconst 0, 1) := dq_3 dp_cX8_nextOf rfl
theorem dX8_nextOf_3 : decode cX8_nextOf 3 = .ok (.istore_n 3, 1) := dq_62 dp_cX8_nextOf rfl
theorem dX8_nextOf_4 : decode cX8_nextOf 4 = .ok (.iconst 0, 1) := dq_3 dp_cX8_nextOf rfl
theorem dX8_nextOf_5 : decode cX8_nextOf 5 = .ok (.istore 4, 2) := dq_54 dp_cX8_nextOf rfl
theorem dX8_nextOf_7 : decode cX8_nextOf 7 = .ok (.iload 4, 2) := dq_21 dp_cX8_nextOf rfl
theorem dX8_nextOf_9 : decode cX8_nextOf 9 = .ok (.aload_n 0, 1) := dq_42 dp_cX8_nextOf rfl
theorem dX8_nextOf_10 : decode cX8_nextOf 10 = .ok (.getfield 90, 3) := dq_180 dp_cX8_nextOf rfl
theorem dX8_nextOf_13 : decode cX8_nextOf 13 = .ok (.if_icmp .ge 71, 3) := dq_162 (v := 71) dp_cX8_nextOf rfl rfl
theorem dX8_nextOf_16 : decode cX8_nextOf 16 = .ok (.iload_n 1, 1) := dq_27 dp_cX8_nextOf rfl
theorem dX8_nextOf_17 : decode cX8_nextOf 17 = .ok (.ifCond .le 67, 3) := dq_158 (v := 67) dp_cX8_nextOf rfl rfl
theorem dX8_nextOf_20 : decode cX8_nextOf 20 = .ok (.aload_n 0, 1) := dq_42 dp_cX8_nextOf rfl
theorem dX8_nextOf_21 : decode cX8_nextOf 21 = .ok (.iload 4, 2) := dq_21 dp_cX8_nextOf rfl
theorem dX8_nextOf_23 : decode cX8_nextOf 23 = .ok (.aload_n 0, 1) := dq_42 dp_cX8_nextOf rfl
theorem dX8_nextOf_24 : decode cX8_nextOf 24 = .ok (.getfield 115, 3) := dq_180 dp_cX8_nextOf rfl
theorem dX8_nextOf_27 : decode cX8_nextOf 27 = .ok (.aload_n 0, 1) := dq_42 dp_cX8_nextOf rfl
theorem dX8_nextOf_28 : decode cX8_nextOf 28 = .ok (.getfield 13, 3) := dq_180 dp_cX8_nextOf rfl
theorem dX8_nextOf_31 : decode cX8_nextOf 31 = .ok (.invokevirtual 118, 3) := dq_182 dp_cX8_nextOf rfl
theorem dX8_nextOf_34 : decode cX8_nextOf 34 = .ok (.ifCond .ne 6, 3) := dq_154 (v := 6) dp_cX8_nextOf rfl rfl
theorem dX8_nextOf_37 : decode cX8_nextOf 37 = .ok (.goto 41, 3) := dq_167 (v := 41) dp_cX8_nextOf rfl rfl
theorem dX8_nextOf_40 : decode cX8_nextOf 40 = .ok (.aload_n 0, 1) := dq_42 dp_cX8_nextOf rfl
theorem dX8_nextOf_41 : decode cX8_nextOf 41 = .ok (.iload 4, 2) := dq_21 dp_cX8_nextOf rfl
theorem dX8_nextOf_43 : decode cX8_nextOf 43 = .ok (.iload_n 1, 1) := dq_27 dp_cX8_nextOf rfl
theorem dX8_nextOf_44 : decode cX8_nextOf 44 = .ok (.aload_n 0, 1) := dq_42 dp_cX8_nextOf rfl
theorem dX8_nextOf_45 : decode cX8_nextOf 45 = .ok (.getfield 115, 3) := dq_180 dp_cX8_nextOf rfl
theorem dX8_nextOf_48 : decode cX8_nextOf 48 = .ok (.aload_n 0, 1) := dq_42 dp_cX8_nextOf rfl
theorem dX8_nextOf_49 : decode cX8_nextOf 49 = .ok (.getfield 13, 3) := dq_180 dp_cX8_nextOf rfl
theorem dX8_nextOf_52 : decode cX8_nextOf 52 = .ok (.iconst 0, 1) := dq_3 dp_cX8_nextOf rfl
theorem dX8_nextOf_53 : decode cX8_nextOf 53 = .ok (.invokevirtual 212, 3) := dq_182 dp_cX8_nextOf rfl
theorem dX8_nextOf_56 : decode cX8_nextOf 56 = .ok (.istore 5, 2) := dq_54 dp_cX8_nextOf rfl
theorem dX8_nextOf_58 : decode cX8_nextOf 58 = .ok (.iload_n 2, 1) := dq_28 dp_cX8_nextOf rfl
theorem dX8_nextOf_59 : decode cX8_nextOf 59 = .ok (.iconst (-1), 1) := dq_2 dp_cX8_nextOf rfl
theorem dX8_nextOf_60 : decode cX8_nextOf 60 = .ok (.if_icmp .eq 12, 3) := dq_159 (v := 12) dp_cX8_nextOf rfl rfl
theorem dX8_nextOf_63 : decode cX8_nextOf 63 = .ok (.iload 5, 2) := dq_21 dp_cX8_nextOf rfl
theorem dX8_nextOf_65 : decode cX8_nextOf 65 = .ok (.iload_n 3, 1) := dq_29 dp_cX8_nextOf rfl
theorem dX8_nextOf_66 : decode cX8_nextOf 66 = .ok (.if_icmp .gt 6, 3) := dq_163 (v := 6) dp_cX8_nextOf rfl rfl
theorem dX8_nextOf_69 : decode cX8_nextOf 69 = .ok (.goto 9, 3) := dq_167 (v := 9) dp_cX8_nextOf rfl rfl
theorem dX8_nextOf_72 : decode cX8_nextOf 72 = .ok (.iload 4, 2) := dq_21 dp_cX8_nextOf rfl
theorem dX8_nextOf_74 : decode cX8_nextOf 74 = .ok (.istore_n 2, 1) := dq_61 dp_cX8_nextOf rfl
theorem dX8_nextOf_75 : decode cX8_nextOf 75 = .ok (.iload 5, 2) := dq_21 dp_cX8_nextOf rfl
theorem dX8_nextOf_77 : decode cX8_nextOf 77 = .ok (.istore_n 3, 1) := dq_62 dp_cX8_nextOf rfl
theorem dX8_nextOf_78 : decode cX8_nextOf 78 = .ok (.iinc 4 1, 3) := dq_132 (v := 1) dp_cX8_nextOf rfl (by decide) rfl
theorem dX8_nextOf_81 : decode cX8_nextOf 81 = .ok (.goto (-74), 3) := dq_167 (v := 65462) dp_cX8_nextOf rfl rfl
theorem dX8_nextOf_84 : decode cX8_nextOf 84 = .ok (.iload_n 2, 1) := dq_28 dp_cX8_nextOf rfl
theorem dX8_nextOf_85 : decode cX8_nextOf 85 = .ok (.ireturn, 1) := dq_172 dp_cX8_nextOf rfl
theorem dX8_isFew_0 : decode cX8_isFew 0 = .ok (.iload_n 1, 1) := dq_27 dp_cX8_isFew rfl
theorem dX8_isFew_1 : decode cX8_isFew 1 = .ok (.ifCond .lt 12, 3) := dq_155 (v := 12) dp_cX8_isFew rfl rfl
theorem dX8_isFew_4 : decode cX8_isFew 4 = .ok (.iload_n 1, 1) := dq_27 dp_cX8_isFew rfl
theorem dX8_isFew_5 : decode cX8_isFew 5 = .ok (.iconst 4, 1) := dq_7 dp_cX8_isFew rfl
theorem dX8_isFew_6 : decode cX8_isFew 6 = .ok (.if_icmp .gt 7, 3) := dq_163 (v := 7) dp_cX8_isFew rfl rfl
theorem dX8_isFew_9 : decode cX8_isFew 9 = .ok (.iconst 1, 1) := dq_4 dp_cX8_isFew rfl
theorem dX8_isFew_10 : decode cX8_isFew 10 = .ok (.goto 4, 3) := dq_167 (v := 4) dp_cX8_isFew rfl rfl
theorem dX8_isFew_13 : decode cX8_isFew 13 = .ok (.iconst 0, 1) := dq_3 dp_cX8_isFew rfl
theorem dX8_isFew_14 : decode cX8_isFew 14 = .ok (.ireturn, 1) := dq_172 dp_cX8_isFew rfl
set_option maxRecDepth 20000 in
theorem gl_X8_cases_X80 : GoodIn wsX8_cases wsX80 := (dg_t (dg_r gw_wsX80))
theorem ggX8_cases_X8_noTen : GoodIn wsX8_cases wsX8_noTen := (dg_c 7 rfl rfl (dg_c 8 rfl rfl gl_X8_cases_X80))
set_option maxRecDepth 20000 in
theorem gX8_cases_X8_noTen : GoodIn wsX8_cases (wsV RX8 216 RX8 yX8_noTen wsX8_noTen) := goodIn_app (dg_c 3 rfl rfl (dg_c 4 rfl rfl (dg_c 5 rfl rfl (dg_c 6 rfl rfl dg_0)))) ggX8_cases_X8_noTen
set_option maxRecDepth 20000 in
theorem ggX8_cases_X8_isFew : GoodIn wsX8_cases wsX8_isFew := (dg_c 12 rfl rfl dg_0)
set_option maxRecDepth 20000 in
theorem gX8_cases_X8_isFew : GoodIn wsX8_cases (wsV RX8 219 RX8 yX8_isFew wsX8_isFew) := goodIn_app (dg_c 9 rfl rfl (dg_c 10 rfl rfl (dg_c 11 rfl rfl (dg_c 6 rfl rfl dg_0)))) ggX8_cases_X8_isFew
set_option maxRecDepth 20000 in
theorem ggX8_cases_X8_nextOf : GoodIn wsX8_cases wsX8_nextOf := (dg_c 16 rfl rfl (goodIn_app (goodIn_app (dg_c 17 rfl rfl (dg_c 1 rfl rfl (dg_c 2 rfl rfl (dg_c 18 rfl rfl (dg_c 19 rfl rfl (dg_c 20 rfl rfl (dg_c 6 rfl rfl (dg_c 21 rfl rfl (dg_c 22 rfl rfl (dg_c 23 rfl rfl (dg_c 24 rfl rfl (dg_c 25 rfl rfl (dg_c 26 rfl rfl (dg_c 27 rfl rfl (dg_c 28 rfl rfl (dg_c 29 rfl rfl (dg_c 30 rfl rfl (dg_c 31 rfl rfl (dg_c 32 rfl rfl (dg_c 33 rfl rfl (dg_c 34 rfl rfl (dg_c 35 rfl rfl (dg_c 36 rfl rfl (dg_c 37 rfl rfl dg_0)))))))))))))))))))))))) (dg_c 38 rfl rfl (dg_c 39 rfl rfl (dg_c 40 rfl rfl (dg_c 41 rfl rfl (dg_c 42 rfl rfl (dg_c 43 rfl rfl (dg_c 44 rfl rfl (dg_c 45 rfl rfl (dg_c 46 rfl rfl (dg_c 47 rfl rfl (dg_c 48 rfl rfl (dg_c 49 rfl rfl dg_0))))))))))))) gl_X8_cases_X80))
set_option maxRecDepth 20000 in
theorem gX8_cases_X8_nextOf : GoodIn wsX8_cases (wsV RX8 222 RX8 yX8_nextOf wsX8_nextOf) := goodIn_app (dg_c 13 rfl rfl (dg_c 14 rfl rfl (dg_c 15 rfl rfl (dg_c 6 rfl rfl dg_0)))) ggX8_cases_X8_nextOf
set_option maxRecDepth 20000 in
theorem ggX8_cases_X8_mostCases : GoodIn wsX8_cases wsX8_mostCases := (dg_c 45 rfl rfl (goodIn_app (goodIn_app (dg_c 17 rfl rfl (dg_c 31 rfl rfl (dg_c 46 rfl rfl (dg_c 47 rfl rfl (dg_c 48 rfl rfl (dg_c 6 rfl rfl (dg_c 49 rfl rfl (dg_c 42 rfl rfl (dg_c 43 rfl rfl (dg_c 44 rfl rfl (dg_c 18 rfl rfl (dg_c 19 rfl rfl (dg_c 20 rfl rfl (dg_c 21 rfl rfl (dg_c 22 rfl rfl (dg_c 23 rfl rfl (dg_c 24 rfl rfl (dg_c 25 rfl rfl (dg_c 26 rfl rfl (dg_c 27 rfl rfl (dg_c 28 rfl rfl (dg_c 29 rfl rfl (dg_c 30 rfl rfl (dg_c 32 rfl rfl dg_0)))))))))))))))))))))))) (dg_c 33 rfl rfl (dg_c 34 rfl rfl (dg_c 35 rfl rfl (dg_c 36 rfl rfl (dg_c 37 rfl rfl (dg_c 38 rfl rfl (dg_c 39 rfl rfl (dg_c 40 rfl rfl (dg_c 41 rfl rfl dg_0)))))))))) gl_X8_cases_X80))
set_option maxRecDepth 20000 in
theorem gX8_cases_X8_mostCases : GoodIn wsX8_cases (wsV RX8 208 RX8 yX8_mostCases wsX8_mostCases) := goodIn_app (dg_c 42 rfl rfl (dg_c 43 rfl rfl (dg_c 44 rfl rfl (dg_c 6 rfl rfl dg_0)))) ggX8_cases_X8_mostCases
theorem dX8_cases_0 : decode cX8_cases 0 = .ok (.iload_n 2, 1) := dq_28 dp_cX8_cases rfl
theorem dX8_cases_1 : decode cX8_cases 1 = .ok (.ifCond .lt 8, 3) := dq_155 (v := 8) dp_cX8_cases rfl rfl
theorem dX8_cases_4 : decode cX8_cases 4 = .ok (.iload_n 2, 1) := dq_28 dp_cX8_cases rfl
theorem dX8_cases_5 : decode cX8_cases 5 = .ok (.iconst 2, 1) := dq_5 dp_cX8_cases rfl
theorem dX8_cases_6 : decode cX8_cases 6 = .ok (.if_icmp .le 10, 3) := dq_164 (v := 10) dp_cX8_cases rfl rfl
theorem dX8_cases_9 : decode cX8_cases 9 = .ok (.aload_n 0, 1) := dq_42 dp_cX8_cases rfl
theorem dX8_cases_10 : decode cX8_cases 10 = .ok (.bipush (-5), 2) := dq_16 (v := 251) dp_cX8_cases rfl rfl
theorem dX8_cases_12 : decode cX8_cases 12 = .ok (.invokevirtual 216, 3) := dq_182 dp_cX8_cases rfl
theorem dX8_cases_15 : decode cX8_cases 15 = .ok (.ireturn, 1) := dq_172 dp_cX8_cases rfl
theorem dX8_cases_16 : decode cX8_cases 16 = .ok (.aload_n 0, 1) := dq_42 dp_cX8_cases rfl
theorem dX8_cases_17 : decode cX8_cases 17 = .ok (.iload_n 1, 1) := dq_27 dp_cX8_cases rfl
theorem dX8_cases_18 : decode cX8_cases 18 = .ok (.invokevirtual 219, 3) := dq_182 dp_cX8_cases rfl
theorem dX8_cases_21 : decode cX8_cases 21 = .ok (.ifCond .ne 10, 3) := dq_154 (v := 10) dp_cX8_cases rfl rfl
theorem dX8_cases_24 : decode cX8_cases 24 = .ok (.aload_n 0, 1) := dq_42 dp_cX8_cases rfl
theorem dX8_cases_25 : decode cX8_cases 25 = .ok (.bipush (-6), 2) := dq_16 (v := 250) dp_cX8_cases rfl rfl
theorem dX8_cases_27 : decode cX8_cases 27 = .ok (.invokevirtual 216, 3) := dq_182 dp_cX8_cases rfl
theorem dX8_cases_30 : decode cX8_cases 30 = .ok (.ireturn, 1) := dq_172 dp_cX8_cases rfl
theorem dX8_cases_31 : decode cX8_cases 31 = .ok (.iload_n 2, 1) := dq_28 dp_cX8_cases rfl
theorem dX8_cases_32 : decode cX8_cases 32 = .ok (.iconst 1, 1) := dq_4 dp_cX8_cases rfl
theorem dX8_cases_33 : decode cX8_cases 33 = .ok (.if_icmp .ne 11, 3) := dq_160 (v := 11) dp_cX8_cases rfl rfl
theorem dX8_cases_36 : decode cX8_cases 36 = .ok (.aload_n 0, 1) := dq_42 dp_cX8_cases rfl
theorem dX8_cases_37 : decode cX8_cases 37 = .ok (.iload_n 1, 1) := dq_27 dp_cX8_cases rfl
theorem dX8_cases_38 : decode cX8_cases 38 = .ok (.invokevirtual 222, 3) := dq_182 dp_cX8_cases rfl
theorem dX8_cases_41 : decode cX8_cases 41 = .ok (.goto 26, 3) := dq_167 (v := 26) dp_cX8_cases rfl rfl
theorem dX8_cases_44 : decode cX8_cases 44 = .ok (.aload_n 0, 1) := dq_42 dp_cX8_cases rfl
theorem dX8_cases_45 : decode cX8_cases 45 = .ok (.iload_n 1, 1) := dq_27 dp_cX8_cases rfl
theorem dX8_cases_46 : decode cX8_cases 46 = .ok (.aload_n 0, 1) := dq_42 dp_cX8_cases rfl
theorem dX8_cases_47 : decode cX8_cases 47 = .ok (.getfield 115, 3) := dq_180 dp_cX8_cases rfl
theorem dX8_cases_50 : decode cX8_cases 50 = .ok (.aload_n 0, 1) := dq_42 dp_cX8_cases rfl
theorem dX8_cases_51 : decode cX8_cases 51 = .ok (.getfield 13, 3) := dq_180 dp_cX8_cases rfl
theorem dX8_cases_54 : decode cX8_cases 54 = .ok (.iload_n 2, 1) := dq_28 dp_cX8_cases rfl
theorem dX8_cases_55 : decode cX8_cases 55 = .ok (.iconst 2, 1) := dq_5 dp_cX8_cases rfl
theorem dX8_cases_56 : decode cX8_cases 56 = .ok (.if_icmp .ne 7, 3) := dq_160 (v := 7) dp_cX8_cases rfl rfl
theorem dX8_cases_59 : decode cX8_cases 59 = .ok (.iconst 1, 1) := dq_4 dp_cX8_cases rfl
theorem dX8_cases_60 : decode cX8_cases 60 = .ok (.goto 4, 3) := dq_167 (v := 4) dp_cX8_cases rfl rfl
theorem dX8_cases_63 : decode cX8_cases 63 = .ok (.iconst 0, 1) := dq_3 dp_cX8_cases rfl
theorem dX8_cases_64 : decode cX8_cases 64 = .ok (.invokevirtual 208, 3) := dq_182 dp_cX8_cases rfl
theorem dX8_cases_67 : decode cX8_cases 67 = .ok (.ireturn, 1) := dq_172 dp_cX8_cases rfl
set_option maxRecDepth 20000 in
theorem ggX8_leastCost_X8_power : GoodIn wsX8_leastCost wsX8_power := (dg_c 7 rfl rfl (dg_c 3 rfl rfl (dg_c 4 rfl rfl (dg_c 5 rfl rfl (dg_c 6 rfl rfl dg_0)))))
set_option maxRecDepth 20000 in
theorem gX8_leastCost_X8_power : GoodIn wsX8_leastCost (wsV RX8 205 RX8 yX8_power wsX8_power) := goodIn_app (dg_c 3 rfl rfl (dg_c 4 rfl rfl (dg_c 5 rfl rfl (dg_c 6 rfl rfl dg_0)))) ggX8_leastCost_X8_power
set_option maxRecDepth 20000 in
theorem gl_X8_leastCost_X80 : GoodIn wsX8_leastCost wsX80 := (dg_t (dg_r gw_wsX80))
theorem ggX8_leastCost_X8_mayBe : GoodIn wsX8_leastCost wsX8_mayBe := (dg_c 11 rfl rfl (dg_c 12 rfl rfl gl_X8_leastCost_X80))
set_option maxRecDepth 20000 in
theorem gX8_leastCost_X8_mayBe : GoodIn wsX8_leastCost (wsV RX8 118 RX8 yX8_mayBe wsX8_mayBe) := goodIn_app (dg_c 8 rfl rfl (dg_c 9 rfl rfl (dg_c 10 rfl rfl (dg_c 6 rfl rfl dg_0)))) ggX8_leastCost_X8_mayBe
set_option maxRecDepth 20000 in
theorem ggX8_leastCost_X8_costBy : GoodIn wsX8_leastCost wsX8_costBy := (dg_c 16 rfl rfl (goodIn_app (goodIn_app (dg_c 17 rfl rfl (dg_c 1 rfl rfl (dg_c 12 rfl rfl (dg_c 18 rfl rfl (dg_c 19 rfl rfl (dg_c 20 rfl rfl (dg_c 6 rfl rfl (dg_c 21 rfl rfl (dg_c 22 rfl rfl (dg_c 23 rfl rfl (dg_c 3 rfl rfl (dg_c 4 rfl rfl (dg_c 5 rfl rfl (dg_c 7 rfl rfl (dg_c 24 rfl rfl (dg_c 25 rfl rfl (dg_c 26 rfl rfl (dg_c 27 rfl rfl (dg_c 28 rfl rfl (dg_c 29 rfl rfl (dg_c 30 rfl rfl (dg_c 31 rfl rfl (dg_c 32 rfl rfl (dg_c 33 rfl rfl dg_0)))))))))))))))))))))))) (dg_c 34 rfl rfl (dg_c 0 rfl rfl (dg_c 2 rfl rfl (dg_c 8 rfl rfl (dg_c 9 rfl rfl (dg_c 10 rfl rfl (dg_c 11 rfl rfl (dg_c 13 rfl rfl (dg_c 14 rfl rfl (dg_c 15 rfl rfl dg_0))))))))))) gl_X8_leastCost_X80))
set_option maxRecDepth 20000 in
theorem gX8_leastCost_X8_costBy : GoodIn wsX8_leastCost (wsV RX8 225 RX8 yX8_costBy wsX8_costBy) := goodIn_app (dg_c 13 rfl rfl (dg_c 14 rfl rfl (dg_c 15 rfl rfl (dg_c 6 rfl rfl dg_0)))) ggX8_leastCost_X8_costBy
theorem dX8_leastCost_0 : decode cX8_leastCost 0 = .ok (.iload_n 2, 1) := dq_28 dp_cX8_leastCost rfl
theorem dX8_leastCost_1 : decode cX8_leastCost 1 = .ok (.ifCond .ne 5, 3) := dq_154 (v := 5) dp_cX8_leastCost rfl rfl
theorem dX8_leastCost_4 : decode cX8_leastCost 4 = .ok (.iconst 0, 1) := dq_3 dp_cX8_leastCost rfl
theorem dX8_leastCost_5 : decode cX8_leastCost 5 = .ok (.ireturn, 1) := dq_172 dp_cX8_leastCost rfl
theorem dX8_leastCost_6 : decode cX8_leastCost 6 = .ok (.aload_n 0, 1) := dq_42 dp_cX8_leastCost rfl
theorem dX8_leastCost_7 : decode cX8_leastCost 7 = .ok (.getfield 44, 3) := dq_180 dp_cX8_leastCost rfl
theorem dX8_leastCost_10 : decode cX8_leastCost 10 = .ok (.iconst 2, 1) := dq_5 dp_cX8_leastCost rfl
theorem dX8_leastCost_11 : decode cX8_leastCost 11 = .ok (.iaload, 1) := dq_46 dp_cX8_leastCost rfl
theorem dX8_leastCost_12 : decode cX8_leastCost 12 = .ok (.aload_n 0, 1) := dq_42 dp_cX8_leastCost rfl
theorem dX8_leastCost_13 : decode cX8_leastCost 13 = .ok (.iload_n 1, 1) := dq_27 dp_cX8_leastCost rfl
theorem dX8_leastCost_14 : decode cX8_leastCost 14 = .ok (.invokevirtual 205, 3) := dq_182 dp_cX8_leastCost rfl
theorem dX8_leastCost_17 : decode cX8_leastCost 17 = .ok (.imul, 1) := dq_104 dp_cX8_leastCost rfl
theorem dX8_leastCost_18 : decode cX8_leastCost 18 = .ok (.istore 4, 2) := dq_54 dp_cX8_leastCost rfl
theorem dX8_leastCost_20 : decode cX8_leastCost 20 = .ok (.iload_n 3, 1) := dq_29 dp_cX8_leastCost rfl
theorem dX8_leastCost_21 : decode cX8_leastCost 21 = .ok (.bipush 30, 2) := dq_16 (v := 30) dp_cX8_leastCost rfl rfl
theorem dX8_leastCost_23 : decode cX8_leastCost 23 = .ok (.if_icmp .lt 34, 3) := dq_161 (v := 34) dp_cX8_leastCost rfl rfl
theorem dX8_leastCost_26 : decode cX8_leastCost 26 = .ok (.aload_n 0, 1) := dq_42 dp_cX8_leastCost rfl
theorem dX8_leastCost_27 : decode cX8_leastCost 27 = .ok (.getfield 44, 3) := dq_180 dp_cX8_leastCost rfl
theorem dX8_leastCost_30 : decode cX8_leastCost 30 = .ok (.iconst 1, 1) := dq_4 dp_cX8_leastCost rfl
theorem dX8_leastCost_31 : decode cX8_leastCost 31 = .ok (.iaload, 1) := dq_46 dp_cX8_leastCost rfl
theorem dX8_leastCost_32 : decode cX8_leastCost 32 = .ok (.aload_n 0, 1) := dq_42 dp_cX8_leastCost rfl
theorem dX8_leastCost_33 : decode cX8_leastCost 33 = .ok (.iload_n 1, 1) := dq_27 dp_cX8_leastCost rfl
theorem dX8_leastCost_34 : decode cX8_leastCost 34 = .ok (.invokevirtual 205, 3) := dq_182 dp_cX8_leastCost rfl
theorem dX8_leastCost_37 : decode cX8_leastCost 37 = .ok (.imul, 1) := dq_104 dp_cX8_leastCost rfl
theorem dX8_leastCost_38 : decode cX8_leastCost 38 = .ok (.iload 4, 2) := dq_21 dp_cX8_leastCost rfl
theorem dX8_leastCost_40 : decode cX8_leastCost 40 = .ok (.if_icmp .ge 17, 3) := dq_162 (v := 17) dp_cX8_leastCost rfl rfl
theorem dX8_leastCost_43 : decode cX8_leastCost 43 = .ok (.aload_n 0, 1) := dq_42 dp_cX8_leastCost rfl
theorem dX8_leastCost_44 : decode cX8_leastCost 44 = .ok (.getfield 44, 3) := dq_180 dp_cX8_leastCost rfl
theorem dX8_leastCost_47 : decode cX8_leastCost 47 = .ok (.iconst 1, 1) := dq_4 dp_cX8_leastCost rfl
theorem dX8_leastCost_48 : decode cX8_leastCost 48 = .ok (.iaload, 1) := dq_46 dp_cX8_leastCost rfl
theorem dX8_leastCost_49 : decode cX8_leastCost 49 = .ok (.aload_n 0, 1) := dq_42 dp_cX8_leastCost rfl
theorem dX8_leastCost_50 : decode cX8_leastCost 50 = .ok (.iload_n 1, 1) := dq_27 dp_cX8_leastCost rfl
theorem dX8_leastCost_51 : decode cX8_leastCost 51 = .ok (.invokevirtual 205, 3) := dq_182 dp_cX8_leastCost rfl
theorem dX8_leastCost_54 : decode cX8_leastCost 54 = .ok (.imul, 1) := dq_104 dp_cX8_leastCost rfl
theorem dX8_leastCost_55 : decode cX8_leastCost 55 = .ok (.istore 4, 2) := dq_54 dp_cX8_leastCost rfl
theorem dX8_leastCost_57 : decode cX8_leastCost 57 = .ok (.iconst 0, 1) := dq_3 dp_cX8_leastCost rfl
theorem dX8_leastCost_58 : decode cX8_leastCost 58 = .ok (.istore 5, 2) := dq_54 dp_cX8_leastCost rfl
theorem dX8_leastCost_60 : decode cX8_leastCost 60 = .ok (.iload 5, 2) := dq_21 dp_cX8_leastCost rfl
theorem dX8_leastCost_62 : decode cX8_leastCost 62 = .ok (.aload_n 0, 1) := dq_42 dp_cX8_leastCost rfl
theorem dX8_leastCost_63 : decode cX8_leastCost 63 = .ok (.getfield 90, 3) := dq_180 dp_cX8_leastCost rfl
theorem dX8_leastCost_66 : decode cX8_leastCost 66 = .ok (.if_icmp .ge 54, 3) := dq_162 (v := 54) dp_cX8_leastCost rfl rfl
theorem dX8_leastCost_69 : decode cX8_leastCost 69 = .ok (.iload_n 1, 1) := dq_27 dp_cX8_leastCost rfl
theorem dX8_leastCost_70 : decode cX8_leastCost 70 = .ok (.ifCond .le 50, 3) := dq_158 (v := 50) dp_cX8_leastCost rfl rfl
theorem dX8_leastCost_73 : decode cX8_leastCost 73 = .ok (.aload_n 0, 1) := dq_42 dp_cX8_leastCost rfl
theorem dX8_leastCost_74 : decode cX8_leastCost 74 = .ok (.iload 5, 2) := dq_21 dp_cX8_leastCost rfl
theorem dX8_leastCost_76 : decode cX8_leastCost 76 = .ok (.iload_n 2, 1) := dq_28 dp_cX8_leastCost rfl
theorem dX8_leastCost_77 : decode cX8_leastCost 77 = .ok (.iload_n 3, 1) := dq_29 dp_cX8_leastCost rfl
theorem dX8_leastCost_78 : decode cX8_leastCost 78 = .ok (.invokevirtual 118, 3) := dq_182 dp_cX8_leastCost rfl
theorem dX8_leastCost_81 : decode cX8_leastCost 81 = .ok (.ifCond .ne 6, 3) := dq_154 (v := 6) dp_cX8_leastCost rfl rfl
theorem dX8_leastCost_84 : decode cX8_leastCost 84 = .ok (.goto 30, 3) := dq_167 (v := 30) dp_cX8_leastCost rfl rfl
theorem dX8_leastCost_87 : decode cX8_leastCost 87 = .ok (.aload_n 0, 1) := dq_42 dp_cX8_leastCost rfl
theorem dX8_leastCost_88 : decode cX8_leastCost 88 = .ok (.iload 5, 2) := dq_21 dp_cX8_leastCost rfl
theorem dX8_leastCost_90 : decode cX8_leastCost 90 = .ok (.iload_n 1, 1) := dq_27 dp_cX8_leastCost rfl
theorem dX8_leastCost_91 : decode cX8_leastCost 91 = .ok (.iload_n 2, 1) := dq_28 dp_cX8_leastCost rfl
theorem dX8_leastCost_92 : decode cX8_leastCost 92 = .ok (.iload_n 3, 1) := dq_29 dp_cX8_leastCost rfl
theorem dX8_leastCost_93 : decode cX8_leastCost 93 = .ok (.invokevirtual 225, 3) := dq_182 dp_cX8_leastCost rfl
theorem dX8_leastCost_96 : decode cX8_leastCost 96 = .ok (.istore 6, 2) := dq_54 dp_cX8_leastCost rfl
theorem dX8_leastCost_98 : decode cX8_leastCost 98 = .ok (.iload 6, 2) := dq_21 dp_cX8_leastCost rfl
theorem dX8_leastCost_100 : decode cX8_leastCost 100 = .ok (.iload 4, 2) := dq_21 dp_cX8_leastCost rfl
theorem dX8_leastCost_102 : decode cX8_leastCost 102 = .ok (.if_icmp .ge 8, 3) := dq_162 (v := 8) dp_cX8_leastCost rfl rfl
theorem dX8_leastCost_105 : decode cX8_leastCost 105 = .ok (.iload 6, 2) := dq_21 dp_cX8_leastCost rfl
theorem dX8_leastCost_107 : decode cX8_leastCost 107 = .ok (.goto 5, 3) := dq_167 (v := 5) dp_cX8_leastCost rfl rfl
theorem dX8_leastCost_110 : decode cX8_leastCost 110 = .ok (.iload 4, 2) := dq_21 dp_cX8_leastCost rfl
theorem dX8_leastCost_112 : decode cX8_leastCost 112 = .ok (.istore 4, 2) := dq_54 dp_cX8_leastCost rfl
theorem dX8_leastCost_114 : decode cX8_leastCost 114 = .ok (.iinc 5 1, 3) := dq_132 (v := 1) dp_cX8_leastCost rfl (by decide) rfl
theorem dX8_leastCost_117 : decode cX8_leastCost 117 = .ok (.goto (-57), 3) := dq_167 (v := 65479) dp_cX8_leastCost rfl rfl
theorem dX8_leastCost_120 : decode cX8_leastCost 120 = .ok (.iload 4, 2) := dq_21 dp_cX8_leastCost rfl
theorem dX8_leastCost_122 : decode cX8_leastCost 122 = .ok (.ireturn, 1) := dq_172 dp_cX8_leastCost rfl
set_option maxRecDepth 20000 in
theorem gl_X8_costBy_X80 : GoodIn wsX8_costBy wsX80 := (dg_t (dg_r gw_wsX80))
theorem ggX8_costBy_X8_ways : GoodIn wsX8_costBy wsX8_ways := (dg_c 8 rfl rfl (dg_c 1 rfl rfl (dg_c 9 rfl rfl (dg_c 10 rfl rfl gl_X8_costBy_X80))))
set_option maxRecDepth 20000 in
theorem gX8_costBy_X8_ways : GoodIn wsX8_costBy (wsV RX8 107 RX8 yX8_ways wsX8_ways) := goodIn_app (dg_c 4 rfl rfl (dg_c 5 rfl rfl (dg_c 6 rfl rfl (dg_c 7 rfl rfl dg_0)))) ggX8_costBy_X8_ways
set_option maxRecDepth 20000 in
theorem ggX8_costBy_X8_power : GoodIn wsX8_costBy wsX8_power := (dg_c 14 rfl rfl (dg_c 11 rfl rfl (dg_c 12 rfl rfl (dg_c 13 rfl rfl (dg_c 7 rfl rfl dg_0)))))
set_option maxRecDepth 20000 in
theorem gX8_costBy_X8_power : GoodIn wsX8_costBy (wsV RX8 205 RX8 yX8_power wsX8_power) := goodIn_app (dg_c 11 rfl rfl (dg_c 12 rfl rfl (dg_c 13 rfl rfl (dg_c 7 rfl rfl dg_0)))) ggX8_costBy_X8_power
set_option maxRecDepth 20000 in
theorem ggX8_costBy_X8_deep : GoodIn wsX8_costBy wsX8_deep := (dg_c 18 rfl rfl (dg_c 1 rfl rfl (dg_c 9 rfl rfl (dg_c 10 rfl rfl (dg_c 19 rfl rfl (dg_c 20 rfl rfl (dg_c 21 rfl rfl (dg_c 7 rfl rfl (dg_c 22 rfl rfl gl_X8_costBy_X80)))))))))
set_option maxRecDepth 20000 in
theorem gX8_costBy_X8_deep : GoodIn wsX8_costBy (wsV RX8 201 RX8 yX8_deep wsX8_deep) := goodIn_app (dg_c 15 rfl rfl (dg_c 16 rfl rfl (dg_c 17 rfl rfl (dg_c 7 rfl rfl dg_0)))) ggX8_costBy_X8_deep
set_option maxRecDepth 20000 in
theorem ggX8_costBy_X8_leastCost : GoodIn wsX8_costBy wsX8_leastCost := (dg_c 26 rfl rfl (goodIn_app (goodIn_app (dg_c 2 rfl rfl (dg_c 27 rfl rfl (dg_c 11 rfl rfl (dg_c 12 rfl rfl (dg_c 13 rfl rfl (dg_c 7 rfl rfl (dg_c 14 rfl rfl (dg_c 28 rfl rfl (dg_c 29 rfl rfl (dg_c 30 rfl rfl (dg_c 31 rfl rfl (dg_c 3 rfl rfl (dg_c 32 rfl rfl (dg_c 33 rfl rfl (dg_c 34 rfl rfl (dg_c 0 rfl rfl (dg_c 1 rfl rfl (dg_c 4 rfl rfl (dg_c 5 rfl rfl (dg_c 6 rfl rfl (dg_c 8 rfl rfl (dg_c 9 rfl rfl (dg_c 10 rfl rfl (dg_c 15 rfl rfl dg_0)))))))))))))))))))))))) (dg_c 16 rfl rfl (dg_c 17 rfl rfl (dg_c 18 rfl rfl (dg_c 19 rfl rfl (dg_c 20 rfl rfl (dg_c 21 rfl rfl (dg_c 22 rfl rfl (dg_c 23 rfl rfl (dg_c 24 rfl rfl (dg_c 25 rfl rfl dg_0))))))))))) gl_X8_costBy_X80))
set_option maxRecDepth 20000 in
theorem gX8_costBy_X8_leastCost : GoodIn wsX8_costBy (wsV RX8 229 RX8 yX8_leastCost wsX8_leastCost) := goodIn_app (dg_c 23 rfl rfl (dg_c 24 rfl rfl (dg_c 25 rfl rfl (dg_c 7 rfl rfl dg_0)))) ggX8_costBy_X8_leastCost
theorem dX8_costBy_0 : decode cX8_costBy 0 = .ok (.aload_n 0, 1) := dq_42 dp_cX8_costBy rfl
theorem dX8_costBy_1 : decode cX8_costBy 1 = .ok (.iload_n 1, 1) := dq_27 dp_cX8_costBy rfl
theorem dX8_costBy_2 : decode cX8_costBy 2 = .ok (.iload_n 3, 1) := dq_29 dp_cX8_costBy rfl
theorem dX8_costBy_3 : decode cX8_costBy 3 = .ok (.invokevirtual 107, 3) := dq_182 dp_cX8_costBy rfl
theorem dX8_costBy_6 : decode cX8_costBy 6 = .ok (.istore 5, 2) := dq_54 dp_cX8_costBy rfl
theorem dX8_costBy_8 : decode cX8_costBy 8 = .ok (.aload_n 0, 1) := dq_42 dp_cX8_costBy rfl
theorem dX8_costBy_9 : decode cX8_costBy 9 = .ok (.getfield 29, 3) := dq_180 dp_cX8_costBy rfl
theorem dX8_costBy_12 : decode cX8_costBy 12 = .ok (.iload_n 1, 1) := dq_27 dp_cX8_costBy rfl
theorem dX8_costBy_13 : decode cX8_costBy 13 = .ok (.iaload, 1) := dq_46 dp_cX8_costBy rfl
theorem dX8_costBy_14 : decode cX8_costBy 14 = .ok (.iconst 5, 1) := dq_8 dp_cX8_costBy rfl
theorem dX8_costBy_15 : decode cX8_costBy 15 = .ok (.if_icmp .ne 18, 3) := dq_160 (v := 18) dp_cX8_costBy rfl rfl
theorem dX8_costBy_18 : decode cX8_costBy 18 = .ok (.aload_n 0, 1) := dq_42 dp_cX8_costBy rfl
theorem dX8_costBy_19 : decode cX8_costBy 19 = .ok (.getfield 44, 3) := dq_180 dp_cX8_costBy rfl
theorem dX8_costBy_22 : decode cX8_costBy 22 = .ok (.iconst 0, 1) := dq_3 dp_cX8_costBy rfl
theorem dX8_costBy_23 : decode cX8_costBy 23 = .ok (.iaload, 1) := dq_46 dp_cX8_costBy rfl
theorem dX8_costBy_24 : decode cX8_costBy 24 = .ok (.aload_n 0, 1) := dq_42 dp_cX8_costBy rfl
theorem dX8_costBy_25 : decode cX8_costBy 25 = .ok (.iload_n 2, 1) := dq_28 dp_cX8_costBy rfl
theorem dX8_costBy_26 : decode cX8_costBy 26 = .ok (.invokevirtual 205, 3) := dq_182 dp_cX8_costBy rfl
theorem dX8_costBy_29 : decode cX8_costBy 29 = .ok (.imul, 1) := dq_104 dp_cX8_costBy rfl
theorem dX8_costBy_30 : decode cX8_costBy 30 = .ok (.goto 4, 3) := dq_167 (v := 4) dp_cX8_costBy rfl rfl
theorem dX8_costBy_33 : decode cX8_costBy 33 = .ok (.iconst 0, 1) := dq_3 dp_cX8_costBy rfl
theorem dX8_costBy_34 : decode cX8_costBy 34 = .ok (.istore 6, 2) := dq_54 dp_cX8_costBy rfl
theorem dX8_costBy_36 : decode cX8_costBy 36 = .ok (.iload 5, 2) := dq_21 dp_cX8_costBy rfl
theorem dX8_costBy_38 : decode cX8_costBy 38 = .ok (.ifCond .le 34, 3) := dq_158 (v := 34) dp_cX8_costBy rfl rfl
theorem dX8_costBy_41 : decode cX8_costBy 41 = .ok (.iload 6, 2) := dq_21 dp_cX8_costBy rfl
theorem dX8_costBy_43 : decode cX8_costBy 43 = .ok (.iload 5, 2) := dq_21 dp_cX8_costBy rfl
theorem dX8_costBy_45 : decode cX8_costBy 45 = .ok (.aload_n 0, 1) := dq_42 dp_cX8_costBy rfl
theorem dX8_costBy_46 : decode cX8_costBy 46 = .ok (.iload_n 2, 1) := dq_28 dp_cX8_costBy rfl
theorem dX8_costBy_47 : decode cX8_costBy 47 = .ok (.iconst 1, 1) := dq_4 dp_cX8_costBy rfl
theorem dX8_costBy_48 : decode cX8_costBy 48 = .ok (.isub, 1) := dq_100 dp_cX8_costBy rfl
theorem dX8_costBy_49 : decode cX8_costBy 49 = .ok (.aload_n 0, 1) := dq_42 dp_cX8_costBy rfl
theorem dX8_costBy_50 : decode cX8_costBy 50 = .ok (.iload_n 1, 1) := dq_27 dp_cX8_costBy rfl
theorem dX8_costBy_51 : decode cX8_costBy 51 = .ok (.iload_n 3, 1) := dq_29 dp_cX8_costBy rfl
theorem dX8_costBy_52 : decode cX8_costBy 52 = .ok (.iconst 1, 1) := dq_4 dp_cX8_costBy rfl
theorem dX8_costBy_53 : decode cX8_costBy 53 = .ok (.invokevirtual 201, 3) := dq_182 dp_cX8_costBy rfl
theorem dX8_costBy_56 : decode cX8_costBy 56 = .ok (.iload 4, 2) := dq_21 dp_cX8_costBy rfl
theorem dX8_costBy_58 : decode cX8_costBy 58 = .ok (.aload_n 0, 1) := dq_42 dp_cX8_costBy rfl
theorem dX8_costBy_59 : decode cX8_costBy 59 = .ok (.getfield 35, 3) := dq_180 dp_cX8_costBy rfl
theorem dX8_costBy_62 : decode cX8_costBy 62 = .ok (.iload_n 1, 1) := dq_27 dp_cX8_costBy rfl
theorem dX8_costBy_63 : decode cX8_costBy 63 = .ok (.iaload, 1) := dq_46 dp_cX8_costBy rfl
theorem dX8_costBy_64 : decode cX8_costBy 64 = .ok (.isub, 1) := dq_100 dp_cX8_costBy rfl
theorem dX8_costBy_65 : decode cX8_costBy 65 = .ok (.invokevirtual 229, 3) := dq_182 dp_cX8_costBy rfl
theorem dX8_costBy_68 : decode cX8_costBy 68 = .ok (.imul, 1) := dq_104 dp_cX8_costBy rfl
theorem dX8_costBy_69 : decode cX8_costBy 69 = .ok (.iadd, 1) := dq_96 dp_cX8_costBy rfl
theorem dX8_costBy_70 : decode cX8_costBy 70 = .ok (.istore 6, 2) := dq_54 dp_cX8_costBy rfl
theorem dX8_costBy_72 : decode cX8_costBy 72 = .ok (.iload 5, 2) := dq_21 dp_cX8_costBy rfl
theorem dX8_costBy_74 : decode cX8_costBy 74 = .ok (.bipush 12, 2) := dq_16 (v := 12) dp_cX8_costBy rfl rfl
theorem dX8_costBy_76 : decode cX8_costBy 76 = .ok (.if_icmp .ge 37, 3) := dq_162 (v := 37) dp_cX8_costBy rfl rfl
theorem dX8_costBy_79 : decode cX8_costBy 79 = .ok (.iload 6, 2) := dq_21 dp_cX8_costBy rfl
theorem dX8_costBy_81 : decode cX8_costBy 81 = .ok (.bipush 12, 2) := dq_16 (v := 12) dp_cX8_costBy rfl rfl
theorem dX8_costBy_83 : decode cX8_costBy 83 = .ok (.iload 5, 2) := dq_21 dp_cX8_costBy rfl
theorem dX8_costBy_85 : decode cX8_costBy 85 = .ok (.isub, 1) := dq_100 dp_cX8_costBy rfl
theorem dX8_costBy_86 : decode cX8_costBy 86 = .ok (.aload_n 0, 1) := dq_42 dp_cX8_costBy rfl
theorem dX8_costBy_87 : decode cX8_costBy 87 = .ok (.iload_n 2, 1) := dq_28 dp_cX8_costBy rfl
theorem dX8_costBy_88 : decode cX8_costBy 88 = .ok (.iconst 1, 1) := dq_4 dp_cX8_costBy rfl
theorem dX8_costBy_89 : decode cX8_costBy 89 = .ok (.isub, 1) := dq_100 dp_cX8_costBy rfl
theorem dX8_costBy_90 : decode cX8_costBy 90 = .ok (.aload_n 0, 1) := dq_42 dp_cX8_costBy rfl
theorem dX8_costBy_91 : decode cX8_costBy 91 = .ok (.iload_n 1, 1) := dq_27 dp_cX8_costBy rfl
theorem dX8_costBy_92 : decode cX8_costBy 92 = .ok (.iload_n 3, 1) := dq_29 dp_cX8_costBy rfl
theorem dX8_costBy_93 : decode cX8_costBy 93 = .ok (.iconst 0, 1) := dq_3 dp_cX8_costBy rfl
theorem dX8_costBy_94 : decode cX8_costBy 94 = .ok (.invokevirtual 201, 3) := dq_182 dp_cX8_costBy rfl
theorem dX8_costBy_97 : decode cX8_costBy 97 = .ok (.iload 4, 2) := dq_21 dp_cX8_costBy rfl
theorem dX8_costBy_99 : decode cX8_costBy 99 = .ok (.aload_n 0, 1) := dq_42 dp_cX8_costBy rfl
theorem dX8_costBy_100 : decode cX8_costBy 100 = .ok (.getfield 35, 3) := dq_180 dp_cX8_costBy rfl
theorem dX8_costBy_103 : decode cX8_costBy 103 = .ok (.iload_n 1, 1) := dq_27 dp_cX8_costBy rfl
theorem dX8_costBy_104 : decode cX8_costBy 104 = .ok (.iaload, 1) := dq_46 dp_cX8_costBy rfl
theorem dX8_costBy_105 : decode cX8_costBy 105 = .ok (.isub, 1) := dq_100 dp_cX8_costBy rfl
theorem dX8_costBy_106 : decode cX8_costBy 106 = .ok (.invokevirtual 229, 3) := dq_182 dp_cX8_costBy rfl
theorem dX8_costBy_109 : decode cX8_costBy 109 = .ok (.imul, 1) := dq_104 dp_cX8_costBy rfl
theorem dX8_costBy_110 : decode cX8_costBy 110 = .ok (.iadd, 1) := dq_96 dp_cX8_costBy rfl
theorem dX8_costBy_111 : decode cX8_costBy 111 = .ok (.istore 6, 2) := dq_54 dp_cX8_costBy rfl
theorem dX8_costBy_113 : decode cX8_costBy 113 = .ok (.iload 6, 2) := dq_21 dp_cX8_costBy rfl
theorem dX8_costBy_115 : decode cX8_costBy 115 = .ok (.ireturn, 1) := dq_172 dp_cX8_costBy rfl
set_option maxRecDepth 20000 in
theorem gl_X8_firstOf_X80 : GoodIn wsX8_firstOf wsX80 := (dg_t (dg_r gw_wsX80))
theorem ggX8_firstOf_X8_leastCost : GoodIn wsX8_firstOf wsX8_leastCost := (dg_c 9 rfl rfl (goodIn_app (goodIn_app (dg_c 4 rfl rfl (dg_c 3 rfl rfl (dg_c 10 rfl rfl (dg_c 11 rfl rfl (dg_c 12 rfl rfl (dg_c 8 rfl rfl (dg_c 13 rfl rfl (dg_c 14 rfl rfl (dg_c 15 rfl rfl (dg_c 16 rfl rfl (dg_c 17 rfl rfl (dg_c 18 rfl rfl (dg_c 19 rfl rfl (dg_c 20 rfl rfl (dg_c 21 rfl rfl (dg_c 22 rfl rfl (dg_c 23 rfl rfl (dg_c 24 rfl rfl (dg_c 25 rfl rfl (dg_c 26 rfl rfl (dg_c 27 rfl rfl (dg_c 28 rfl rfl (dg_c 29 rfl rfl (dg_c 30 rfl rfl dg_0)))))))))))))))))))))))) (dg_c 31 rfl rfl (dg_c 32 rfl rfl (dg_c 33 rfl rfl (dg_c 34 rfl rfl (dg_c 35 rfl rfl (dg_c 36 rfl rfl (dg_c 37 rfl rfl (dg_c 5 rfl rfl (dg_c 6 rfl rfl (dg_c 7 rfl rfl dg_0))))))))))) gl_X8_firstOf_X80))
set_option maxRecDepth 20000 in
theorem gX8_firstOf_X8_leastCost : GoodIn wsX8_firstOf (wsV RX8 229 RX8 yX8_leastCost wsX8_leastCost) := goodIn_app (dg_c 5 rfl rfl (dg_c 6 rfl rfl (dg_c 7 rfl rfl (dg_c 8 rfl rfl dg_0)))) ggX8_firstOf_X8_leastCost
set_option maxRecDepth 20000 in
theorem ggX8_firstOf_X8_mayBe : GoodIn wsX8_firstOf wsX8_mayBe := (dg_c 17 rfl rfl (dg_c 18 rfl rfl gl_X8_firstOf_X80))
set_option maxRecDepth 20000 in
theorem gX8_firstOf_X8_mayBe : GoodIn wsX8_firstOf (wsV RX8 118 RX8 yX8_mayBe wsX8_mayBe) := goodIn_app (dg_c 14 rfl rfl (dg_c 15 rfl rfl (dg_c 16 rfl rfl (dg_c 8 rfl rfl dg_0)))) ggX8_firstOf_X8_mayBe
set_option maxRecDepth 20000 in
theorem ggX8_firstOf_X8_costBy : GoodIn wsX8_firstOf wsX8_costBy := (dg_c 22 rfl rfl (goodIn_app (goodIn_app (dg_c 23 rfl rfl (dg_c 4 rfl rfl (dg_c 18 rfl rfl (dg_c 24 rfl rfl (dg_c 25 rfl rfl (dg_c 26 rfl rfl (dg_c 8 rfl rfl (dg_c 27 rfl rfl (dg_c 28 rfl rfl (dg_c 29 rfl rfl (dg_c 10 rfl rfl (dg_c 11 rfl rfl (dg_c 12 rfl rfl (dg_c 13 rfl rfl (dg_c 30 rfl rfl (dg_c 31 rfl rfl (dg_c 32 rfl rfl (dg_c 33 rfl rfl (dg_c 34 rfl rfl (dg_c 35 rfl rfl (dg_c 36 rfl rfl (dg_c 37 rfl rfl (dg_c 5 rfl rfl (dg_c 6 rfl rfl dg_0)))))))))))))))))))))))) (dg_c 7 rfl rfl (dg_c 9 rfl rfl (dg_c 3 rfl rfl (dg_c 14 rfl rfl (dg_c 15 rfl rfl (dg_c 16 rfl rfl (dg_c 17 rfl rfl (dg_c 19 rfl rfl (dg_c 20 rfl rfl (dg_c 21 rfl rfl dg_0))))))))))) gl_X8_firstOf_X80))
set_option maxRecDepth 20000 in
theorem gX8_firstOf_X8_costBy : GoodIn wsX8_firstOf (wsV RX8 225 RX8 yX8_costBy wsX8_costBy) := goodIn_app (dg_c 19 rfl rfl (dg_c 20 rfl rfl (dg_c 21 rfl rfl (dg_c 8 rfl rfl dg_0)))) ggX8_firstOf_X8_costBy
set_option maxRecDepth 20000 in
theorem ggX8_firstOf_X8_power : GoodIn wsX8_firstOf wsX8_power := (dg_c 13 rfl rfl (dg_c 10 rfl rfl (dg_c 11 rfl rfl (dg_c 12 rfl rfl (dg_c 8 rfl rfl dg_0)))))
set_option maxRecDepth 20000 in
theorem gX8_firstOf_X8_power : GoodIn wsX8_firstOf (wsV RX8 205 RX8 yX8_power wsX8_power) := goodIn_app (dg_c 10 rfl rfl (dg_c 11 rfl rfl (dg_c 12 rfl rfl (dg_c 8 rfl rfl dg_0)))) ggX8_firstOf_X8_power
theorem dX8_firstOf_0 : decode cX8_firstOf 0 = .ok (.aload_n 0, 1) := dq_42 dp_cX8_firstOf rfl
theorem dX8_firstOf_1 : decode cX8_firstOf 1 = .ok (.getfield 115, 3) := dq_180 dp_cX8_firstOf rfl
theorem dX8_firstOf_4 : decode cX8_firstOf 4 = .ok (.ifCond .ne 5, 3) := dq_154 (v := 5) dp_cX8_firstOf rfl rfl
theorem dX8_firstOf_7 : decode cX8_firstOf 7 = .ok (.iconst (-1), 1) := dq_2 dp_cX8_firstOf rfl
theorem dX8_firstOf_8 : decode cX8_firstOf 8 = .ok (.ireturn, 1) := dq_172 dp_cX8_firstOf rfl
theorem dX8_firstOf_9 : decode cX8_firstOf 9 = .ok (.aload_n 0, 1) := dq_42 dp_cX8_firstOf rfl
theorem dX8_firstOf_10 : decode cX8_firstOf 10 = .ok (.iload_n 1, 1) := dq_27 dp_cX8_firstOf rfl
theorem dX8_firstOf_11 : decode cX8_firstOf 11 = .ok (.aload_n 0, 1) := dq_42 dp_cX8_firstOf rfl
theorem dX8_firstOf_12 : decode cX8_firstOf 12 = .ok (.getfield 115, 3) := dq_180 dp_cX8_firstOf rfl
theorem dX8_firstOf_15 : decode cX8_firstOf 15 = .ok (.aload_n 0, 1) := dq_42 dp_cX8_firstOf rfl
theorem dX8_firstOf_16 : decode cX8_firstOf 16 = .ok (.getfield 13, 3) := dq_180 dp_cX8_firstOf rfl
theorem dX8_firstOf_19 : decode cX8_firstOf 19 = .ok (.invokevirtual 229, 3) := dq_182 dp_cX8_firstOf rfl
theorem dX8_firstOf_22 : decode cX8_firstOf 22 = .ok (.istore_n 2, 1) := dq_61 dp_cX8_firstOf rfl
theorem dX8_firstOf_23 : decode cX8_firstOf 23 = .ok (.iconst 0, 1) := dq_3 dp_cX8_firstOf rfl
theorem dX8_firstOf_24 : decode cX8_firstOf 24 = .ok (.istore_n 3, 1) := dq_62 dp_cX8_firstOf rfl
theorem dX8_firstOf_25 : decode cX8_firstOf 25 = .ok (.iload_n 3, 1) := dq_29 dp_cX8_firstOf rfl
theorem dX8_firstOf_26 : decode cX8_firstOf 26 = .ok (.aload_n 0, 1) := dq_42 dp_cX8_firstOf rfl
theorem dX8_firstOf_27 : decode cX8_firstOf 27 = .ok (.getfield 90, 3) := dq_180 dp_cX8_firstOf rfl
theorem dX8_firstOf_30 : decode cX8_firstOf 30 = .ok (.if_icmp .ge 49, 3) := dq_162 (v := 49) dp_cX8_firstOf rfl rfl
theorem dX8_firstOf_33 : decode cX8_firstOf 33 = .ok (.iload_n 1, 1) := dq_27 dp_cX8_firstOf rfl
theorem dX8_firstOf_34 : decode cX8_firstOf 34 = .ok (.ifCond .le 45, 3) := dq_158 (v := 45) dp_cX8_firstOf rfl rfl
theorem dX8_firstOf_37 : decode cX8_firstOf 37 = .ok (.aload_n 0, 1) := dq_42 dp_cX8_firstOf rfl
theorem dX8_firstOf_38 : decode cX8_firstOf 38 = .ok (.iload_n 3, 1) := dq_29 dp_cX8_firstOf rfl
theorem dX8_firstOf_39 : decode cX8_firstOf 39 = .ok (.aload_n 0, 1) := dq_42 dp_cX8_firstOf rfl
theorem dX8_firstOf_40 : decode cX8_firstOf 40 = .ok (.getfield 115, 3) := dq_180 dp_cX8_firstOf rfl
theorem dX8_firstOf_43 : decode cX8_firstOf 43 = .ok (.aload_n 0, 1) := dq_42 dp_cX8_firstOf rfl
theorem dX8_firstOf_44 : decode cX8_firstOf 44 = .ok (.getfield 13, 3) := dq_180 dp_cX8_firstOf rfl
theorem dX8_firstOf_47 : decode cX8_firstOf 47 = .ok (.invokevirtual 118, 3) := dq_182 dp_cX8_firstOf rfl
theorem dX8_firstOf_50 : decode cX8_firstOf 50 = .ok (.ifCond .eq 23, 3) := dq_153 (v := 23) dp_cX8_firstOf rfl rfl
theorem dX8_firstOf_53 : decode cX8_firstOf 53 = .ok (.aload_n 0, 1) := dq_42 dp_cX8_firstOf rfl
theorem dX8_firstOf_54 : decode cX8_firstOf 54 = .ok (.iload_n 3, 1) := dq_29 dp_cX8_firstOf rfl
theorem dX8_firstOf_55 : decode cX8_firstOf 55 = .ok (.iload_n 1, 1) := dq_27 dp_cX8_firstOf rfl
theorem dX8_firstOf_56 : decode cX8_firstOf 56 = .ok (.aload_n 0, 1) := dq_42 dp_cX8_firstOf rfl
theorem dX8_firstOf_57 : decode cX8_firstOf 57 = .ok (.getfield 115, 3) := dq_180 dp_cX8_firstOf rfl
theorem dX8_firstOf_60 : decode cX8_firstOf 60 = .ok (.aload_n 0, 1) := dq_42 dp_cX8_firstOf rfl
theorem dX8_firstOf_61 : decode cX8_firstOf 61 = .ok (.getfield 13, 3) := dq_180 dp_cX8_firstOf rfl
theorem dX8_firstOf_64 : decode cX8_firstOf 64 = .ok (.invokevirtual 225, 3) := dq_182 dp_cX8_firstOf rfl
theorem dX8_firstOf_67 : decode cX8_firstOf 67 = .ok (.iload_n 2, 1) := dq_28 dp_cX8_firstOf rfl
theorem dX8_firstOf_68 : decode cX8_firstOf 68 = .ok (.if_icmp .ne 5, 3) := dq_160 (v := 5) dp_cX8_firstOf rfl rfl
theorem dX8_firstOf_71 : decode cX8_firstOf 71 = .ok (.iload_n 3, 1) := dq_29 dp_cX8_firstOf rfl
theorem dX8_firstOf_72 : decode cX8_firstOf 72 = .ok (.ireturn, 1) := dq_172 dp_cX8_firstOf rfl
theorem dX8_firstOf_73 : decode cX8_firstOf 73 = .ok (.iinc 3 1, 3) := dq_132 (v := 1) dp_cX8_firstOf rfl (by decide) rfl
theorem dX8_firstOf_76 : decode cX8_firstOf 76 = .ok (.goto (-51), 3) := dq_167 (v := 65485) dp_cX8_firstOf rfl rfl
theorem dX8_firstOf_79 : decode cX8_firstOf 79 = .ok (.aload_n 0, 1) := dq_42 dp_cX8_firstOf rfl
theorem dX8_firstOf_80 : decode cX8_firstOf 80 = .ok (.getfield 13, 3) := dq_180 dp_cX8_firstOf rfl
theorem dX8_firstOf_83 : decode cX8_firstOf 83 = .ok (.bipush 30, 2) := dq_16 (v := 30) dp_cX8_firstOf rfl rfl
theorem dX8_firstOf_85 : decode cX8_firstOf 85 = .ok (.if_icmp .lt 24, 3) := dq_161 (v := 24) dp_cX8_firstOf rfl rfl
theorem dX8_firstOf_88 : decode cX8_firstOf 88 = .ok (.aload_n 0, 1) := dq_42 dp_cX8_firstOf rfl
theorem dX8_firstOf_89 : decode cX8_firstOf 89 = .ok (.getfield 44, 3) := dq_180 dp_cX8_firstOf rfl
theorem dX8_firstOf_92 : decode cX8_firstOf 92 = .ok (.iconst 1, 1) := dq_4 dp_cX8_firstOf rfl
theorem dX8_firstOf_93 : decode cX8_firstOf 93 = .ok (.iaload, 1) := dq_46 dp_cX8_firstOf rfl
theorem dX8_firstOf_94 : decode cX8_firstOf 94 = .ok (.aload_n 0, 1) := dq_42 dp_cX8_firstOf rfl
theorem dX8_firstOf_95 : decode cX8_firstOf 95 = .ok (.iload_n 1, 1) := dq_27 dp_cX8_firstOf rfl
theorem dX8_firstOf_96 : decode cX8_firstOf 96 = .ok (.invokevirtual 205, 3) := dq_182 dp_cX8_firstOf rfl
theorem dX8_firstOf_99 : decode cX8_firstOf 99 = .ok (.imul, 1) := dq_104 dp_cX8_firstOf rfl
theorem dX8_firstOf_100 : decode cX8_firstOf 100 = .ok (.iload_n 2, 1) := dq_28 dp_cX8_firstOf rfl
theorem dX8_firstOf_101 : decode cX8_firstOf 101 = .ok (.if_icmp .ne 8, 3) := dq_160 (v := 8) dp_cX8_firstOf rfl rfl
theorem dX8_firstOf_104 : decode cX8_firstOf 104 = .ok (.bipush 101, 2) := dq_16 (v := 101) dp_cX8_firstOf rfl rfl
theorem dX8_firstOf_106 : decode cX8_firstOf 106 = .ok (.goto 5, 3) := dq_167 (v := 5) dp_cX8_firstOf rfl rfl
theorem dX8_firstOf_109 : decode cX8_firstOf 109 = .ok (.bipush 100, 2) := dq_16 (v := 100) dp_cX8_firstOf rfl rfl
theorem dX8_firstOf_111 : decode cX8_firstOf 111 = .ok (.ireturn, 1) := dq_172 dp_cX8_firstOf rfl
set_option maxRecDepth 20000 in
theorem gl_X8_line_X80 : GoodIn wsX8_line wsX80 := (dg_t (dg_r gw_wsX80))
theorem ggX8_line_X8_noTen : GoodIn wsX8_line wsX8_noTen := (dg_c 7 rfl rfl (dg_c 8 rfl rfl gl_X8_line_X80))
set_option maxRecDepth 20000 in
theorem gX8_line_X8_noTen : GoodIn wsX8_line (wsV RX8 216 RX8 yX8_noTen wsX8_noTen) := goodIn_app (dg_c 3 rfl rfl (dg_c 4 rfl rfl (dg_c 5 rfl rfl (dg_c 6 rfl rfl dg_0)))) ggX8_line_X8_noTen
set_option maxRecDepth 20000 in
theorem ggX8_line_X8_isFew : GoodIn wsX8_line wsX8_isFew := (dg_c 12 rfl rfl dg_0)
set_option maxRecDepth 20000 in
theorem gX8_line_X8_isFew : GoodIn wsX8_line (wsV RX8 219 RX8 yX8_isFew wsX8_isFew) := goodIn_app (dg_c 9 rfl rfl (dg_c 10 rfl rfl (dg_c 11 rfl rfl (dg_c 6 rfl rfl dg_0)))) ggX8_line_X8_isFew
set_option maxRecDepth 20000 in
theorem ggX8_line_X8_leastCost : GoodIn wsX8_line wsX8_leastCost := (dg_c 16 rfl rfl (goodIn_app (goodIn_app (dg_c 17 rfl rfl (dg_c 18 rfl rfl (dg_c 19 rfl rfl (dg_c 20 rfl rfl (dg_c 21 rfl rfl (dg_c 6 rfl rfl (dg_c 22 rfl rfl (dg_c 23 rfl rfl (dg_c 24 rfl rfl (dg_c 25 rfl rfl (dg_c 26 rfl rfl (dg_c 27 rfl rfl (dg_c 28 rfl rfl (dg_c 29 rfl rfl (dg_c 30 rfl rfl (dg_c 31 rfl rfl (dg_c 32 rfl rfl (dg_c 33 rfl rfl (dg_c 34 rfl rfl (dg_c 35 rfl rfl (dg_c 36 rfl rfl (dg_c 37 rfl rfl (dg_c 38 rfl rfl (dg_c 39 rfl rfl dg_0)))))))))))))))))))))))) (dg_c 40 rfl rfl (dg_c 41 rfl rfl (dg_c 42 rfl rfl (dg_c 43 rfl rfl (dg_c 44 rfl rfl (dg_c 45 rfl rfl (dg_c 46 rfl rfl (dg_c 13 rfl rfl (dg_c 14 rfl rfl (dg_c 15 rfl rfl dg_0))))))))))) gl_X8_line_X80))
set_option maxRecDepth 20000 in
theorem gX8_line_X8_leastCost : GoodIn wsX8_line (wsV RX8 229 RX8 yX8_leastCost wsX8_leastCost) := goodIn_app (dg_c 13 rfl rfl (dg_c 14 rfl rfl (dg_c 15 rfl rfl (dg_c 6 rfl rfl dg_0)))) ggX8_line_X8_leastCost
set_option maxRecDepth 20000 in
theorem ggX8_line_X8_firstOf : GoodIn wsX8_line wsX8_firstOf := (dg_c 50 rfl rfl (goodIn_app (goodIn_app (dg_c 1 rfl rfl (dg_c 2 rfl rfl (dg_c 18 rfl rfl (dg_c 17 rfl rfl (dg_c 13 rfl rfl (dg_c 14 rfl rfl (dg_c 15 rfl rfl (dg_c 6 rfl rfl (dg_c 16 rfl rfl (dg_c 19 rfl rfl (dg_c 20 rfl rfl (dg_c 21 rfl rfl (dg_c 22 rfl rfl (dg_c 23 rfl rfl (dg_c 24 rfl rfl (dg_c 25 rfl rfl (dg_c 26 rfl rfl (dg_c 27 rfl rfl (dg_c 28 rfl rfl (dg_c 29 rfl rfl (dg_c 30 rfl rfl (dg_c 31 rfl rfl (dg_c 32 rfl rfl (dg_c 33 rfl rfl dg_0)))))))))))))))))))))))) (dg_c 34 rfl rfl (dg_c 35 rfl rfl (dg_c 36 rfl rfl (dg_c 37 rfl rfl (dg_c 38 rfl rfl (dg_c 39 rfl rfl (dg_c 40 rfl rfl (dg_c 41 rfl rfl (dg_c 42 rfl rfl (dg_c 43 rfl rfl (dg_c 44 rfl rfl (dg_c 45 rfl rfl (dg_c 46 rfl rfl dg_0)))))))))))))) gl_X8_line_X80))
set_option maxRecDepth 20000 in
theorem gX8_line_X8_firstOf : GoodIn wsX8_line (wsV RX8 232 RX8 yX8_firstOf wsX8_firstOf) := goodIn_app (dg_c 47 rfl rfl (dg_c 48 rfl rfl (dg_c 49 rfl rfl (dg_c 6 rfl rfl dg_0)))) ggX8_line_X8_firstOf
theorem dX8_line_0 : decode cX8_line 0 = .ok (.iload_n 2, 1) := dq_28 dp_cX8_line rfl
theorem dX8_line_1 : decode cX8_line 1 = .ok (.ifCond .lt 8, 3) := dq_155 (v := 8) dp_cX8_line rfl rfl
theorem dX8_line_4 : decode cX8_line 4 = .ok (.iload_n 2, 1) := dq_28 dp_cX8_line rfl
theorem dX8_line_5 : decode cX8_line 5 = .ok (.iconst 1, 1) := dq_4 dp_cX8_line rfl
theorem dX8_line_6 : decode cX8_line 6 = .ok (.if_icmp .le 10, 3) := dq_164 (v := 10) dp_cX8_line rfl rfl
theorem dX8_line_9 : decode cX8_line 9 = .ok (.aload_n 0, 1) := dq_42 dp_cX8_line rfl
theorem dX8_line_10 : decode cX8_line 10 = .ok (.bipush (-5), 2) := dq_16 (v := 251) dp_cX8_line rfl rfl
theorem dX8_line_12 : decode cX8_line 12 = .ok (.invokevirtual 216, 3) := dq_182 dp_cX8_line rfl
theorem dX8_line_15 : decode cX8_line 15 = .ok (.ireturn, 1) := dq_172 dp_cX8_line rfl
theorem dX8_line_16 : decode cX8_line 16 = .ok (.aload_n 0, 1) := dq_42 dp_cX8_line rfl
theorem dX8_line_17 : decode cX8_line 17 = .ok (.iload_n 1, 1) := dq_27 dp_cX8_line rfl
theorem dX8_line_18 : decode cX8_line 18 = .ok (.invokevirtual 219, 3) := dq_182 dp_cX8_line rfl
theorem dX8_line_21 : decode cX8_line 21 = .ok (.ifCond .ne 10, 3) := dq_154 (v := 10) dp_cX8_line rfl rfl
theorem dX8_line_24 : decode cX8_line 24 = .ok (.aload_n 0, 1) := dq_42 dp_cX8_line rfl
theorem dX8_line_25 : decode cX8_line 25 = .ok (.bipush (-6), 2) := dq_16 (v := 250) dp_cX8_line rfl rfl
theorem dX8_line_27 : decode cX8_line 27 = .ok (.invokevirtual 216, 3) := dq_182 dp_cX8_line rfl
theorem dX8_line_30 : decode cX8_line 30 = .ok (.ireturn, 1) := dq_172 dp_cX8_line rfl
theorem dX8_line_31 : decode cX8_line 31 = .ok (.iload_n 2, 1) := dq_28 dp_cX8_line rfl
theorem dX8_line_32 : decode cX8_line 32 = .ok (.ifCond .ne 19, 3) := dq_154 (v := 19) dp_cX8_line rfl rfl
theorem dX8_line_35 : decode cX8_line 35 = .ok (.aload_n 0, 1) := dq_42 dp_cX8_line rfl
theorem dX8_line_36 : decode cX8_line 36 = .ok (.iload_n 1, 1) := dq_27 dp_cX8_line rfl
theorem dX8_line_37 : decode cX8_line 37 = .ok (.aload_n 0, 1) := dq_42 dp_cX8_line rfl
theorem dX8_line_38 : decode cX8_line 38 = .ok (.getfield 115, 3) := dq_180 dp_cX8_line rfl
theorem dX8_line_41 : decode cX8_line 41 = .ok (.aload_n 0, 1) := dq_42 dp_cX8_line rfl
theorem dX8_line_42 : decode cX8_line 42 = .ok (.getfield 13, 3) := dq_180 dp_cX8_line rfl
theorem dX8_line_45 : decode cX8_line 45 = .ok (.invokevirtual 229, 3) := dq_182 dp_cX8_line rfl
theorem dX8_line_48 : decode cX8_line 48 = .ok (.goto 8, 3) := dq_167 (v := 8) dp_cX8_line rfl rfl
theorem dX8_line_51 : decode cX8_line 51 = .ok (.aload_n 0, 1) := dq_42 dp_cX8_line rfl
theorem dX8_line_52 : decode cX8_line 52 = .ok (.iload_n 1, 1) := dq_27 dp_cX8_line rfl
theorem dX8_line_53 : decode cX8_line 53 = .ok (.invokevirtual 232, 3) := dq_182 dp_cX8_line rfl
theorem dX8_line_56 : decode cX8_line 56 = .ok (.ireturn, 1) := dq_172 dp_cX8_line rfl
set_option maxRecDepth 20000 in
theorem gl_X8_casesIn_X80 : GoodIn wsX8_casesIn wsX80 := (dg_t (dg_r gw_wsX80))
theorem ggX8_casesIn_X8_mostCases : GoodIn wsX8_casesIn wsX8_mostCases := (dg_c 8 rfl rfl (goodIn_app (goodIn_app (dg_c 9 rfl rfl (dg_c 10 rfl rfl (dg_c 11 rfl rfl (dg_c 12 rfl rfl (dg_c 13 rfl rfl (dg_c 7 rfl rfl (dg_c 14 rfl rfl (dg_c 4 rfl rfl (dg_c 5 rfl rfl (dg_c 6 rfl rfl (dg_c 15 rfl rfl (dg_c 16 rfl rfl (dg_c 17 rfl rfl (dg_c 18 rfl rfl (dg_c 19 rfl rfl (dg_c 20 rfl rfl (dg_c 21 rfl rfl (dg_c 22 rfl rfl (dg_c 23 rfl rfl (dg_c 24 rfl rfl (dg_c 25 rfl rfl (dg_c 26 rfl rfl (dg_c 27 rfl rfl (dg_c 28 rfl rfl dg_0)))))))))))))))))))))))) (dg_c 1 rfl rfl (dg_c 29 rfl rfl (dg_c 30 rfl rfl (dg_c 31 rfl rfl (dg_c 32 rfl rfl (dg_c 33 rfl rfl (dg_c 34 rfl rfl (dg_c 35 rfl rfl (dg_c 36 rfl rfl dg_0)))))))))) gl_X8_casesIn_X80))
set_option maxRecDepth 20000 in
theorem gX8_casesIn_X8_mostCases : GoodIn wsX8_casesIn (wsV RX8 208 RX8 yX8_mostCases wsX8_mostCases) := goodIn_app (dg_c 4 rfl rfl (dg_c 5 rfl rfl (dg_c 6 rfl rfl (dg_c 7 rfl rfl dg_0)))) ggX8_casesIn_X8_mostCases
theorem dX8_casesIn_0 : decode cX8_casesIn 0 = .ok (.aload_n 0, 1) := dq_42 dp_cX8_casesIn rfl
theorem dX8_casesIn_1 : decode cX8_casesIn 1 = .ok (.getfield 135, 3) := dq_180 dp_cX8_casesIn rfl
theorem dX8_casesIn_4 : decode cX8_casesIn 4 = .ok (.istore_n 3, 1) := dq_62 dp_cX8_casesIn rfl
theorem dX8_casesIn_5 : decode cX8_casesIn 5 = .ok (.aload_n 0, 1) := dq_42 dp_cX8_casesIn rfl
theorem dX8_casesIn_6 : decode cX8_casesIn 6 = .ok (.iload_n 2, 1) := dq_28 dp_cX8_casesIn rfl
theorem dX8_casesIn_7 : decode cX8_casesIn 7 = .ok (.putfield 135, 3) := dq_181 dp_cX8_casesIn rfl
theorem dX8_casesIn_10 : decode cX8_casesIn 10 = .ok (.aload_n 0, 1) := dq_42 dp_cX8_casesIn rfl
theorem dX8_casesIn_11 : decode cX8_casesIn 11 = .ok (.iload_n 1, 1) := dq_27 dp_cX8_casesIn rfl
theorem dX8_casesIn_12 : decode cX8_casesIn 12 = .ok (.aload_n 0, 1) := dq_42 dp_cX8_casesIn rfl
theorem dX8_casesIn_13 : decode cX8_casesIn 13 = .ok (.getfield 115, 3) := dq_180 dp_cX8_casesIn rfl
theorem dX8_casesIn_16 : decode cX8_casesIn 16 = .ok (.aload_n 0, 1) := dq_42 dp_cX8_casesIn rfl
theorem dX8_casesIn_17 : decode cX8_casesIn 17 = .ok (.getfield 13, 3) := dq_180 dp_cX8_casesIn rfl
theorem dX8_casesIn_20 : decode cX8_casesIn 20 = .ok (.iconst 0, 1) := dq_3 dp_cX8_casesIn rfl
theorem dX8_casesIn_21 : decode cX8_casesIn 21 = .ok (.invokevirtual 208, 3) := dq_182 dp_cX8_casesIn rfl
theorem dX8_casesIn_24 : decode cX8_casesIn 24 = .ok (.istore 4, 2) := dq_54 dp_cX8_casesIn rfl
theorem dX8_casesIn_26 : decode cX8_casesIn 26 = .ok (.aload_n 0, 1) := dq_42 dp_cX8_casesIn rfl
theorem dX8_casesIn_27 : decode cX8_casesIn 27 = .ok (.iload_n 3, 1) := dq_29 dp_cX8_casesIn rfl
theorem dX8_casesIn_28 : decode cX8_casesIn 28 = .ok (.putfield 135, 3) := dq_181 dp_cX8_casesIn rfl
theorem dX8_casesIn_31 : decode cX8_casesIn 31 = .ok (.iload 4, 2) := dq_21 dp_cX8_casesIn rfl
theorem dX8_casesIn_33 : decode cX8_casesIn 33 = .ok (.ireturn, 1) := dq_172 dp_cX8_casesIn rfl
set_option maxRecDepth 20000 in
theorem gl_X8_haste_X80 : GoodIn wsX8_haste wsX80 := (dg_t (dg_r gw_wsX80))
theorem ggX8_haste_X8_no : GoodIn wsX8_haste wsX8_no := (dg_c 5 rfl rfl (dg_c 6 rfl rfl gl_X8_haste_X80))
set_option maxRecDepth 20000 in
theorem gX8_haste_X8_no : GoodIn wsX8_haste (wsV RX8 97 RX8 yX8_no wsX8_no) := goodIn_app (dg_c 1 rfl rfl (dg_c 2 rfl rfl (dg_c 3 rfl rfl (dg_c 4 rfl rfl dg_0)))) ggX8_haste_X8_no
set_option maxRecDepth 20000 in
theorem ggX8_haste_X8_isFew : GoodIn wsX8_haste wsX8_isFew := (dg_c 10 rfl rfl dg_0)
set_option maxRecDepth 20000 in
theorem gX8_haste_X8_isFew : GoodIn wsX8_haste (wsV RX8 219 RX8 yX8_isFew wsX8_isFew) := goodIn_app (dg_c 7 rfl rfl (dg_c 8 rfl rfl (dg_c 9 rfl rfl (dg_c 4 rfl rfl dg_0)))) ggX8_haste_X8_isFew
set_option maxRecDepth 20000 in
theorem ggX8_haste_X8_casesIn : GoodIn wsX8_haste wsX8_casesIn := (dg_c 14 rfl rfl (goodIn_app (goodIn_app (dg_c 15 rfl rfl (dg_c 16 rfl rfl (dg_c 17 rfl rfl (dg_c 18 rfl rfl (dg_c 19 rfl rfl (dg_c 20 rfl rfl (dg_c 4 rfl rfl (dg_c 21 rfl rfl (dg_c 22 rfl rfl (dg_c 23 rfl rfl (dg_c 24 rfl rfl (dg_c 25 rfl rfl (dg_c 26 rfl rfl (dg_c 27 rfl rfl (dg_c 28 rfl rfl (dg_c 29 rfl rfl (dg_c 30 rfl rfl (dg_c 31 rfl rfl (dg_c 32 rfl rfl (dg_c 33 rfl rfl (dg_c 34 rfl rfl (dg_c 35 rfl rfl (dg_c 36 rfl rfl (dg_c 37 rfl rfl dg_0)))))))))))))))))))))))) (dg_c 38 rfl rfl (dg_c 39 rfl rfl (dg_c 40 rfl rfl (dg_c 41 rfl rfl (dg_c 42 rfl rfl (dg_c 43 rfl rfl (dg_c 44 rfl rfl (dg_c 45 rfl rfl (dg_c 46 rfl rfl (dg_c 47 rfl rfl (dg_c 48 rfl rfl (dg_c 49 rfl rfl dg_0))))))))))))) gl_X8_haste_X80))
set_option maxRecDepth 20000 in
theorem gX8_haste_X8_casesIn : GoodIn wsX8_haste (wsV RX8 235 RX8 yX8_casesIn wsX8_casesIn) := goodIn_app (dg_c 11 rfl rfl (dg_c 12 rfl rfl (dg_c 13 rfl rfl (dg_c 4 rfl rfl dg_0)))) ggX8_haste_X8_casesIn
theorem dX8_haste_0 : decode cX8_haste 0 = .ok (.iload_n 2, 1) := dq_28 dp_cX8_haste rfl
theorem dX8_haste_1 : decode cX8_haste 1 = .ok (.ifCond .lt 8, 3) := dq_155 (v := 8) dp_cX8_haste rfl rfl
theorem dX8_haste_4 : decode cX8_haste 4 = .ok (.iload_n 2, 1) := dq_28 dp_cX8_haste rfl
theorem dX8_haste_5 : decode cX8_haste 5 = .ok (.iconst 1, 1) := dq_4 dp_cX8_haste rfl
theorem dX8_haste_6 : decode cX8_haste 6 = .ok (.if_icmp .le 10, 3) := dq_164 (v := 10) dp_cX8_haste rfl rfl
theorem dX8_haste_9 : decode cX8_haste 9 = .ok (.aload_n 0, 1) := dq_42 dp_cX8_haste rfl
theorem dX8_haste_10 : decode cX8_haste 10 = .ok (.bipush (-5), 2) := dq_16 (v := 251) dp_cX8_haste rfl rfl
theorem dX8_haste_12 : decode cX8_haste 12 = .ok (.invokevirtual 97, 3) := dq_182 dp_cX8_haste rfl
theorem dX8_haste_15 : decode cX8_haste 15 = .ok (.ireturn, 1) := dq_172 dp_cX8_haste rfl
theorem dX8_haste_16 : decode cX8_haste 16 = .ok (.aload_n 0, 1) := dq_42 dp_cX8_haste rfl
theorem dX8_haste_17 : decode cX8_haste 17 = .ok (.iload_n 1, 1) := dq_27 dp_cX8_haste rfl
theorem dX8_haste_18 : decode cX8_haste 18 = .ok (.invokevirtual 219, 3) := dq_182 dp_cX8_haste rfl
theorem dX8_haste_21 : decode cX8_haste 21 = .ok (.ifCond .ne 10, 3) := dq_154 (v := 10) dp_cX8_haste rfl rfl
theorem dX8_haste_24 : decode cX8_haste 24 = .ok (.aload_n 0, 1) := dq_42 dp_cX8_haste rfl
theorem dX8_haste_25 : decode cX8_haste 25 = .ok (.bipush (-6), 2) := dq_16 (v := 250) dp_cX8_haste rfl rfl
theorem dX8_haste_27 : decode cX8_haste 27 = .ok (.invokevirtual 97, 3) := dq_182 dp_cX8_haste rfl
theorem dX8_haste_30 : decode cX8_haste 30 = .ok (.ireturn, 1) := dq_172 dp_cX8_haste rfl
theorem dX8_haste_31 : decode cX8_haste 31 = .ok (.iload_n 2, 1) := dq_28 dp_cX8_haste rfl
theorem dX8_haste_32 : decode cX8_haste 32 = .ok (.iconst 1, 1) := dq_4 dp_cX8_haste rfl
theorem dX8_haste_33 : decode cX8_haste 33 = .ok (.if_icmp .ne 25, 3) := dq_160 (v := 25) dp_cX8_haste rfl rfl
theorem dX8_haste_36 : decode cX8_haste 36 = .ok (.aload_n 0, 1) := dq_42 dp_cX8_haste rfl
theorem dX8_haste_37 : decode cX8_haste 37 = .ok (.iload_n 1, 1) := dq_27 dp_cX8_haste rfl
theorem dX8_haste_38 : decode cX8_haste 38 = .ok (.bipush 9, 2) := dq_16 (v := 9) dp_cX8_haste rfl rfl
theorem dX8_haste_40 : decode cX8_haste 40 = .ok (.invokevirtual 235, 3) := dq_182 dp_cX8_haste rfl
theorem dX8_haste_43 : decode cX8_haste 43 = .ok (.aload_n 0, 1) := dq_42 dp_cX8_haste rfl
theorem dX8_haste_44 : decode cX8_haste 44 = .ok (.iload_n 1, 1) := dq_27 dp_cX8_haste rfl
theorem dX8_haste_45 : decode cX8_haste 45 = .ok (.iconst 0, 1) := dq_3 dp_cX8_haste rfl
theorem dX8_haste_46 : decode cX8_haste 46 = .ok (.invokevirtual 235, 3) := dq_182 dp_cX8_haste rfl
theorem dX8_haste_49 : decode cX8_haste 49 = .ok (.if_icmp .ge 7, 3) := dq_162 (v := 7) dp_cX8_haste rfl rfl
theorem dX8_haste_52 : decode cX8_haste 52 = .ok (.iconst 1, 1) := dq_4 dp_cX8_haste rfl
theorem dX8_haste_53 : decode cX8_haste 53 = .ok (.goto 4, 3) := dq_167 (v := 4) dp_cX8_haste rfl rfl
theorem dX8_haste_56 : decode cX8_haste 56 = .ok (.iconst 0, 1) := dq_3 dp_cX8_haste rfl
theorem dX8_haste_57 : decode cX8_haste 57 = .ok (.ireturn, 1) := dq_172 dp_cX8_haste rfl
theorem dX8_haste_58 : decode cX8_haste 58 = .ok (.iconst 0, 1) := dq_3 dp_cX8_haste rfl
theorem dX8_haste_59 : decode cX8_haste 59 = .ok (.istore_n 3, 1) := dq_62 dp_cX8_haste rfl
theorem dX8_haste_60 : decode cX8_haste 60 = .ok (.iconst (-1), 1) := dq_2 dp_cX8_haste rfl
theorem dX8_haste_61 : decode cX8_haste 61 = .ok (.istore 4, 2) := dq_54 dp_cX8_haste rfl
theorem dX8_haste_63 : decode cX8_haste 63 = .ok (.iconst 0, 1) := dq_3 dp_cX8_haste rfl
theorem dX8_haste_64 : decode cX8_haste 64 = .ok (.istore 5, 2) := dq_54 dp_cX8_haste rfl
theorem dX8_haste_66 : decode cX8_haste 66 = .ok (.iload 5, 2) := dq_21 dp_cX8_haste rfl
theorem dX8_haste_68 : decode cX8_haste 68 = .ok (.bipush 10, 2) := dq_16 (v := 10) dp_cX8_haste rfl rfl
theorem dX8_haste_70 : decode cX8_haste 70 = .ok (.if_icmp .ge 35, 3) := dq_162 (v := 35) dp_cX8_haste rfl rfl
theorem dX8_haste_73 : decode cX8_haste 73 = .ok (.aload_n 0, 1) := dq_42 dp_cX8_haste rfl
theorem dX8_haste_74 : decode cX8_haste 74 = .ok (.iload_n 1, 1) := dq_27 dp_cX8_haste rfl
theorem dX8_haste_75 : decode cX8_haste 75 = .ok (.iload 5, 2) := dq_21 dp_cX8_haste rfl
theorem dX8_haste_77 : decode cX8_haste 77 = .ok (.invokevirtual 235, 3) := dq_182 dp_cX8_haste rfl
theorem dX8_haste_80 : decode cX8_haste 80 = .ok (.istore 6, 2) := dq_54 dp_cX8_haste rfl
theorem dX8_haste_82 : decode cX8_haste 82 = .ok (.iload 6, 2) := dq_21 dp_cX8_haste rfl
theorem dX8_haste_84 : decode cX8_haste 84 = .ok (.iload 4, 2) := dq_21 dp_cX8_haste rfl
theorem dX8_haste_86 : decode cX8_haste 86 = .ok (.if_icmp .gt 6, 3) := dq_163 (v := 6) dp_cX8_haste rfl rfl
theorem dX8_haste_89 : decode cX8_haste 89 = .ok (.goto 10, 3) := dq_167 (v := 10) dp_cX8_haste rfl rfl
theorem dX8_haste_92 : decode cX8_haste 92 = .ok (.iload 5, 2) := dq_21 dp_cX8_haste rfl
theorem dX8_haste_94 : decode cX8_haste 94 = .ok (.istore_n 3, 1) := dq_62 dp_cX8_haste rfl
theorem dX8_haste_95 : decode cX8_haste 95 = .ok (.iload 6, 2) := dq_21 dp_cX8_haste rfl
theorem dX8_haste_97 : decode cX8_haste 97 = .ok (.istore 4, 2) := dq_54 dp_cX8_haste rfl
theorem dX8_haste_99 : decode cX8_haste 99 = .ok (.iinc 5 1, 3) := dq_132 (v := 1) dp_cX8_haste rfl (by decide) rfl
theorem dX8_haste_102 : decode cX8_haste 102 = .ok (.goto (-36), 3) := dq_167 (v := 65500) dp_cX8_haste rfl rfl
theorem dX8_haste_105 : decode cX8_haste 105 = .ok (.iload_n 3, 1) := dq_29 dp_cX8_haste rfl
theorem dX8_haste_106 : decode cX8_haste 106 = .ok (.ireturn, 1) := dq_172 dp_cX8_haste rfl
set_option maxRecDepth 20000 in
theorem gl_X8_barsOf_X80 : GoodIn wsX8_barsOf wsX80 := (dg_t (dg_t (dg_t (dg_t (dg_t (dg_t (dg_t (dg_t (dg_t (dg_t (dg_t (dg_t (dg_t (dg_t (dg_t (dg_t (dg_t gw_wsX80)))))))))))))))))
theorem ggX8_barsOf_X8_wanted : GoodIn wsX8_barsOf wsX8_wanted := (dg_c 6 rfl rfl (dg_c 7 rfl rfl (dg_c 8 rfl rfl (dg_c 9 rfl rfl (dg_c 10 rfl rfl (dg_c 5 rfl rfl (dg_c 11 rfl rfl gl_X8_barsOf_X80)))))))
set_option maxRecDepth 20000 in
theorem gX8_barsOf_X8_wanted : GoodIn wsX8_barsOf (wsV RX8 191 RX8 yX8_wanted wsX8_wanted) := goodIn_app (dg_c 2 rfl rfl (dg_c 3 rfl rfl (dg_c 4 rfl rfl (dg_c 5 rfl rfl dg_0)))) ggX8_barsOf_X8_wanted
set_option maxRecDepth 20000 in
theorem ggX8_barsOf_X8_intAt : GoodIn wsX8_barsOf wsX8_intAt := (dg_c 15 rfl rfl (dg_c 16 rfl rfl gl_X8_barsOf_X80))
set_option maxRecDepth 20000 in
theorem gX8_barsOf_X8_intAt : GoodIn wsX8_barsOf (wsV RX8 238 RX8 yX8_intAt wsX8_intAt) := goodIn_app (dg_c 12 rfl rfl (dg_c 13 rfl rfl (dg_c 14 rfl rfl (dg_c 5 rfl rfl dg_0)))) ggX8_barsOf_X8_intAt
theorem dX8_barsOf_0 : decode cX8_barsOf 0 = .ok (.aload_n 0, 1) := dq_42 dp_cX8_barsOf rfl
theorem dX8_barsOf_1 : decode cX8_barsOf 1 = .ok (.iload_n 1, 1) := dq_27 dp_cX8_barsOf rfl
theorem dX8_barsOf_2 : decode cX8_barsOf 2 = .ok (.invokevirtual 191, 3) := dq_182 dp_cX8_barsOf rfl
theorem dX8_barsOf_5 : decode cX8_barsOf 5 = .ok (.istore_n 2, 1) := dq_61 dp_cX8_barsOf rfl
theorem dX8_barsOf_6 : decode cX8_barsOf 6 = .ok (.iload_n 2, 1) := dq_28 dp_cX8_barsOf rfl
theorem dX8_barsOf_7 : decode cX8_barsOf 7 = .ok (.ifCond .eq 5, 3) := dq_153 (v := 5) dp_cX8_barsOf rfl rfl
theorem dX8_barsOf_10 : decode cX8_barsOf 10 = .ok (.iload_n 2, 1) := dq_28 dp_cX8_barsOf rfl
theorem dX8_barsOf_11 : decode cX8_barsOf 11 = .ok (.ireturn, 1) := dq_172 dp_cX8_barsOf rfl
theorem dX8_barsOf_12 : decode cX8_barsOf 12 = .ok (.aload_n 0, 1) := dq_42 dp_cX8_barsOf rfl
theorem dX8_barsOf_13 : decode cX8_barsOf 13 = .ok (.getfield 53, 3) := dq_180 dp_cX8_barsOf rfl
theorem dX8_barsOf_16 : decode cX8_barsOf 16 = .ok (.iload_n 1, 1) := dq_27 dp_cX8_barsOf rfl
theorem dX8_barsOf_17 : decode cX8_barsOf 17 = .ok (.iaload, 1) := dq_46 dp_cX8_barsOf rfl
theorem dX8_barsOf_18 : decode cX8_barsOf 18 = .ok (.bipush 25, 2) := dq_16 (v := 25) dp_cX8_barsOf rfl rfl
theorem dX8_barsOf_20 : decode cX8_barsOf 20 = .ok (.if_icmp .ge 6, 3) := dq_162 (v := 6) dp_cX8_barsOf rfl rfl
theorem dX8_barsOf_23 : decode cX8_barsOf 23 = .ok (.bipush (-5), 2) := dq_16 (v := 251) dp_cX8_barsOf rfl rfl
theorem dX8_barsOf_25 : decode cX8_barsOf 25 = .ok (.ireturn, 1) := dq_172 dp_cX8_barsOf rfl
theorem dX8_barsOf_26 : decode cX8_barsOf 26 = .ok (.iconst 0, 1) := dq_3 dp_cX8_barsOf rfl
theorem dX8_barsOf_27 : decode cX8_barsOf 27 = .ok (.istore_n 3, 1) := dq_62 dp_cX8_barsOf rfl
theorem dX8_barsOf_28 : decode cX8_barsOf 28 = .ok (.iload_n 3, 1) := dq_29 dp_cX8_barsOf rfl
theorem dX8_barsOf_29 : decode cX8_barsOf 29 = .ok (.bipush 24, 2) := dq_16 (v := 24) dp_cX8_barsOf rfl rfl
theorem dX8_barsOf_31 : decode cX8_barsOf 31 = .ok (.if_icmp .gt 32, 3) := dq_163 (v := 32) dp_cX8_barsOf rfl rfl
theorem dX8_barsOf_34 : decode cX8_barsOf 34 = .ok (.aload_n 0, 1) := dq_42 dp_cX8_barsOf rfl
theorem dX8_barsOf_35 : decode cX8_barsOf 35 = .ok (.iload_n 1, 1) := dq_27 dp_cX8_barsOf rfl
theorem dX8_barsOf_36 : decode cX8_barsOf 36 = .ok (.iload_n 3, 1) := dq_29 dp_cX8_barsOf rfl
theorem dX8_barsOf_37 : decode cX8_barsOf 37 = .ok (.invokevirtual 238, 3) := dq_182 dp_cX8_barsOf rfl
theorem dX8_barsOf_40 : decode cX8_barsOf 40 = .ok (.ifCond .lt 14, 3) := dq_155 (v := 14) dp_cX8_barsOf rfl rfl
theorem dX8_barsOf_43 : decode cX8_barsOf 43 = .ok (.aload_n 0, 1) := dq_42 dp_cX8_barsOf rfl
theorem dX8_barsOf_44 : decode cX8_barsOf 44 = .ok (.iload_n 1, 1) := dq_27 dp_cX8_barsOf rfl
theorem dX8_barsOf_45 : decode cX8_barsOf 45 = .ok (.iload_n 3, 1) := dq_29 dp_cX8_barsOf rfl
theorem dX8_barsOf_46 : decode cX8_barsOf 46 = .ok (.invokevirtual 238, 3) := dq_182 dp_cX8_barsOf rfl
theorem dX8_barsOf_49 : decode cX8_barsOf 49 = .ok (.bipush 99, 2) := dq_16 (v := 99) dp_cX8_barsOf rfl rfl
theorem dX8_barsOf_51 : decode cX8_barsOf 51 = .ok (.if_icmp .le 6, 3) := dq_164 (v := 6) dp_cX8_barsOf rfl rfl
theorem dX8_barsOf_54 : decode cX8_barsOf 54 = .ok (.bipush (-6), 2) := dq_16 (v := 250) dp_cX8_barsOf rfl rfl
theorem dX8_barsOf_56 : decode cX8_barsOf 56 = .ok (.ireturn, 1) := dq_172 dp_cX8_barsOf rfl
theorem dX8_barsOf_57 : decode cX8_barsOf 57 = .ok (.iinc 3 1, 3) := dq_132 (v := 1) dp_cX8_barsOf rfl (by decide) rfl
theorem dX8_barsOf_60 : decode cX8_barsOf 60 = .ok (.goto (-32), 3) := dq_167 (v := 65504) dp_cX8_barsOf rfl rfl
theorem dX8_barsOf_63 : decode cX8_barsOf 63 = .ok (.iconst 0, 1) := dq_3 dp_cX8_barsOf rfl
theorem dX8_barsOf_64 : decode cX8_barsOf 64 = .ok (.ireturn, 1) := dq_172 dp_cX8_barsOf rfl
set_option maxRecDepth 20000 in
theorem gl_X8_freedBy_X80 : GoodIn wsX8_freedBy wsX80 := (dg_t (dg_t (dg_t (dg_t (dg_t (dg_t (dg_t (dg_t (dg_t (dg_t (dg_t (dg_t (dg_t (dg_t gw_wsX80))))))))))))))
theorem ggX8_freedBy_X8_intAt : GoodIn wsX8_freedBy wsX8_intAt := (dg_c 5 rfl rfl (dg_c 6 rfl rfl gl_X8_freedBy_X80))
set_option maxRecDepth 20000 in
theorem gX8_freedBy_X8_intAt : GoodIn wsX8_freedBy (wsV RX8 238 RX8 yX8_intAt wsX8_intAt) := goodIn_app (dg_c 1 rfl rfl (dg_c 2 rfl rfl (dg_c 3 rfl rfl (dg_c 4 rfl rfl dg_0)))) ggX8_freedBy_X8_intAt
set_option maxRecDepth 20000 in
theorem ggX8_freedBy_X8_ways : GoodIn wsX8_freedBy wsX8_ways := (dg_c 10 rfl rfl (dg_c 11 rfl rfl (dg_c 12 rfl rfl (dg_c 13 rfl rfl gl_X8_freedBy_X80))))
set_option maxRecDepth 20000 in
theorem gX8_freedBy_X8_ways : GoodIn wsX8_freedBy (wsV RX8 107 RX8 yX8_ways wsX8_ways) := goodIn_app (dg_c 7 rfl rfl (dg_c 8 rfl rfl (dg_c 9 rfl rfl (dg_c 4 rfl rfl dg_0)))) ggX8_freedBy_X8_ways
theorem dX8_freedBy_0 : decode cX8_freedBy 0 = .ok (.bipush 12, 2) := dq_16 (v := 12) dp_cX8_freedBy rfl rfl
theorem dX8_freedBy_2 : decode cX8_freedBy 2 = .ok (.aload_n 0, 1) := dq_42 dp_cX8_freedBy rfl
theorem dX8_freedBy_3 : decode cX8_freedBy 3 = .ok (.iload_n 1, 1) := dq_27 dp_cX8_freedBy rfl
theorem dX8_freedBy_4 : decode cX8_freedBy 4 = .ok (.iconst 0, 1) := dq_3 dp_cX8_freedBy rfl
theorem dX8_freedBy_5 : decode cX8_freedBy 5 = .ok (.invokevirtual 238, 3) := dq_182 dp_cX8_freedBy rfl
theorem dX8_freedBy_8 : decode cX8_freedBy 8 = .ok (.imul, 1) := dq_104 dp_cX8_freedBy rfl
theorem dX8_freedBy_9 : decode cX8_freedBy 9 = .ok (.istore_n 3, 1) := dq_62 dp_cX8_freedBy rfl
theorem dX8_freedBy_10 : decode cX8_freedBy 10 = .ok (.iconst 1, 1) := dq_4 dp_cX8_freedBy rfl
theorem dX8_freedBy_11 : decode cX8_freedBy 11 = .ok (.istore 4, 2) := dq_54 dp_cX8_freedBy rfl
theorem dX8_freedBy_13 : decode cX8_freedBy 13 = .ok (.iload 4, 2) := dq_21 dp_cX8_freedBy rfl
theorem dX8_freedBy_15 : decode cX8_freedBy 15 = .ok (.bipush 24, 2) := dq_16 (v := 24) dp_cX8_freedBy rfl rfl
theorem dX8_freedBy_17 : decode cX8_freedBy 17 = .ok (.if_icmp .gt 27, 3) := dq_163 (v := 27) dp_cX8_freedBy rfl rfl
theorem dX8_freedBy_20 : decode cX8_freedBy 20 = .ok (.iload_n 3, 1) := dq_29 dp_cX8_freedBy rfl
theorem dX8_freedBy_21 : decode cX8_freedBy 21 = .ok (.aload_n 0, 1) := dq_42 dp_cX8_freedBy rfl
theorem dX8_freedBy_22 : decode cX8_freedBy 22 = .ok (.iload_n 2, 1) := dq_28 dp_cX8_freedBy rfl
theorem dX8_freedBy_23 : decode cX8_freedBy 23 = .ok (.iload 4, 2) := dq_21 dp_cX8_freedBy rfl
theorem dX8_freedBy_25 : decode cX8_freedBy 25 = .ok (.invokevirtual 107, 3) := dq_182 dp_cX8_freedBy rfl
theorem dX8_freedBy_28 : decode cX8_freedBy 28 = .ok (.aload_n 0, 1) := dq_42 dp_cX8_freedBy rfl
theorem dX8_freedBy_29 : decode cX8_freedBy 29 = .ok (.iload_n 1, 1) := dq_27 dp_cX8_freedBy rfl
theorem dX8_freedBy_30 : decode cX8_freedBy 30 = .ok (.iload 4, 2) := dq_21 dp_cX8_freedBy rfl
theorem dX8_freedBy_32 : decode cX8_freedBy 32 = .ok (.invokevirtual 238, 3) := dq_182 dp_cX8_freedBy rfl
theorem dX8_freedBy_35 : decode cX8_freedBy 35 = .ok (.imul, 1) := dq_104 dp_cX8_freedBy rfl
theorem dX8_freedBy_36 : decode cX8_freedBy 36 = .ok (.iadd, 1) := dq_96 dp_cX8_freedBy rfl
theorem dX8_freedBy_37 : decode cX8_freedBy 37 = .ok (.istore_n 3, 1) := dq_62 dp_cX8_freedBy rfl
theorem dX8_freedBy_38 : decode cX8_freedBy 38 = .ok (.iinc 4 1, 3) := dq_132 (v := 1) dp_cX8_freedBy rfl (by decide) rfl
theorem dX8_freedBy_41 : decode cX8_freedBy 41 = .ok (.goto (-28), 3) := dq_167 (v := 65508) dp_cX8_freedBy rfl rfl
theorem dX8_freedBy_44 : decode cX8_freedBy 44 = .ok (.iload_n 3, 1) := dq_29 dp_cX8_freedBy rfl
theorem dX8_freedBy_45 : decode cX8_freedBy 45 = .ok (.ireturn, 1) := dq_172 dp_cX8_freedBy rfl
set_option maxRecDepth 20000 in
theorem ggX8_freed_X8_isShelf : GoodIn wsX8_freed wsX8_isShelf := (dg_c 5 rfl rfl dg_0)
set_option maxRecDepth 20000 in
theorem gX8_freed_X8_isShelf : GoodIn wsX8_freed (wsV RX8 93 RX8 yX8_isShelf wsX8_isShelf) := goodIn_app (dg_c 1 rfl rfl (dg_c 2 rfl rfl (dg_c 3 rfl rfl (dg_c 4 rfl rfl dg_0)))) ggX8_freed_X8_isShelf
set_option maxRecDepth 20000 in
theorem gl_X8_freed_X80 : GoodIn wsX8_freed wsX80 := (dg_t (dg_r gw_wsX80))
theorem ggX8_freed_X8_isPull : GoodIn wsX8_freed wsX8_isPull := (dg_c 9 rfl rfl (dg_c 10 rfl rfl gl_X8_freed_X80))
set_option maxRecDepth 20000 in
theorem gX8_freed_X8_isPull : GoodIn wsX8_freed (wsV RX8 101 RX8 yX8_isPull wsX8_isPull) := goodIn_app (dg_c 6 rfl rfl (dg_c 7 rfl rfl (dg_c 8 rfl rfl (dg_c 4 rfl rfl dg_0)))) ggX8_freed_X8_isPull
set_option maxRecDepth 20000 in
theorem ggX8_freed_X8_barsOf : GoodIn wsX8_freed wsX8_barsOf := (dg_c 14 rfl rfl (dg_c 15 rfl rfl (dg_c 16 rfl rfl (dg_c 17 rfl rfl (dg_c 18 rfl rfl (dg_c 4 rfl rfl (dg_c 19 rfl rfl (dg_c 20 rfl rfl (dg_c 1 rfl rfl (dg_c 2 rfl rfl (dg_c 3 rfl rfl (dg_c 5 rfl rfl (dg_c 21 rfl rfl (dg_c 22 rfl rfl (dg_c 23 rfl rfl (dg_c 24 rfl rfl (dg_c 25 rfl rfl gl_X8_freed_X80)))))))))))))))))
set_option maxRecDepth 20000 in
theorem gX8_freed_X8_barsOf : GoodIn wsX8_freed (wsV RX8 241 RX8 yX8_barsOf wsX8_barsOf) := goodIn_app (dg_c 11 rfl rfl (dg_c 12 rfl rfl (dg_c 13 rfl rfl (dg_c 4 rfl rfl dg_0)))) ggX8_freed_X8_barsOf
set_option maxRecDepth 20000 in
theorem ggX8_freed_X8_no : GoodIn wsX8_freed wsX8_no := (dg_c 29 rfl rfl (dg_c 30 rfl rfl gl_X8_freed_X80))
set_option maxRecDepth 20000 in
theorem gX8_freed_X8_no : GoodIn wsX8_freed (wsV RX8 97 RX8 yX8_no wsX8_no) := goodIn_app (dg_c 26 rfl rfl (dg_c 27 rfl rfl (dg_c 28 rfl rfl (dg_c 4 rfl rfl dg_0)))) ggX8_freed_X8_no
set_option maxRecDepth 20000 in
theorem ggX8_freed_X8_freedBy : GoodIn wsX8_freed wsX8_freedBy := (dg_c 34 rfl rfl (dg_c 21 rfl rfl (dg_c 22 rfl rfl (dg_c 23 rfl rfl (dg_c 4 rfl rfl (dg_c 24 rfl rfl (dg_c 25 rfl rfl (dg_c 35 rfl rfl (dg_c 36 rfl rfl (dg_c 37 rfl rfl (dg_c 38 rfl rfl (dg_c 39 rfl rfl (dg_c 40 rfl rfl (dg_c 41 rfl rfl gl_X8_freed_X80))))))))))))))
set_option maxRecDepth 20000 in
theorem gX8_freed_X8_freedBy : GoodIn wsX8_freed (wsV RX8 244 RX8 yX8_freedBy wsX8_freedBy) := goodIn_app (dg_c 31 rfl rfl (dg_c 32 rfl rfl (dg_c 33 rfl rfl (dg_c 4 rfl rfl dg_0)))) ggX8_freed_X8_freedBy
theorem dX8_freed_0 : decode cX8_freed 0 = .ok (.aload_n 0, 1) := dq_42 dp_cX8_freed rfl
theorem dX8_freed_1 : decode cX8_freed 1 = .ok (.iload_n 1, 1) := dq_27 dp_cX8_freed rfl
theorem dX8_freed_2 : decode cX8_freed 2 = .ok (.invokevirtual 93, 3) := dq_182 dp_cX8_freed rfl
theorem dX8_freed_5 : decode cX8_freed 5 = .ok (.ifCond .eq 15, 3) := dq_153 (v := 15) dp_cX8_freed rfl rfl
theorem dX8_freed_8 : decode cX8_freed 8 = .ok (.aload_n 0, 1) := dq_42 dp_cX8_freed rfl
theorem dX8_freed_9 : decode cX8_freed 9 = .ok (.iload_n 2, 1) := dq_28 dp_cX8_freed rfl
theorem dX8_freed_10 : decode cX8_freed 10 = .ok (.invokevirtual 101, 3) := dq_182 dp_cX8_freed rfl
theorem dX8_freed_13 : decode cX8_freed 13 = .ok (.ifCond .ne 7, 3) := dq_154 (v := 7) dp_cX8_freed rfl rfl
theorem dX8_freed_16 : decode cX8_freed 16 = .ok (.iconst (-1), 1) := dq_2 dp_cX8_freed rfl
theorem dX8_freed_17 : decode cX8_freed 17 = .ok (.goto 8, 3) := dq_167 (v := 8) dp_cX8_freed rfl rfl
theorem dX8_freed_20 : decode cX8_freed 20 = .ok (.aload_n 0, 1) := dq_42 dp_cX8_freed rfl
theorem dX8_freed_21 : decode cX8_freed 21 = .ok (.iload_n 1, 1) := dq_27 dp_cX8_freed rfl
theorem dX8_freed_22 : decode cX8_freed 22 = .ok (.invokevirtual 241, 3) := dq_182 dp_cX8_freed rfl
theorem dX8_freed_25 : decode cX8_freed 25 = .ok (.istore_n 3, 1) := dq_62 dp_cX8_freed rfl
theorem dX8_freed_26 : decode cX8_freed 26 = .ok (.iload_n 3, 1) := dq_29 dp_cX8_freed rfl
theorem dX8_freed_27 : decode cX8_freed 27 = .ok (.ifCond .eq 11, 3) := dq_153 (v := 11) dp_cX8_freed rfl rfl
theorem dX8_freed_30 : decode cX8_freed 30 = .ok (.aload_n 0, 1) := dq_42 dp_cX8_freed rfl
theorem dX8_freed_31 : decode cX8_freed 31 = .ok (.iload_n 3, 1) := dq_29 dp_cX8_freed rfl
theorem dX8_freed_32 : decode cX8_freed 32 = .ok (.invokevirtual 97, 3) := dq_182 dp_cX8_freed rfl
theorem dX8_freed_35 : decode cX8_freed 35 = .ok (.goto 9, 3) := dq_167 (v := 9) dp_cX8_freed rfl rfl
theorem dX8_freed_38 : decode cX8_freed 38 = .ok (.aload_n 0, 1) := dq_42 dp_cX8_freed rfl
theorem dX8_freed_39 : decode cX8_freed 39 = .ok (.iload_n 1, 1) := dq_27 dp_cX8_freed rfl
theorem dX8_freed_40 : decode cX8_freed 40 = .ok (.iload_n 2, 1) := dq_28 dp_cX8_freed rfl
theorem dX8_freed_41 : decode cX8_freed 41 = .ok (.invokevirtual 244, 3) := dq_182 dp_cX8_freed rfl
theorem dX8_freed_44 : decode cX8_freed 44 = .ok (.ireturn, 1) := dq_172 dp_cX8_freed rfl
set_option maxRecDepth 20000 in
theorem gl_X8_best_X80 : GoodIn wsX8_best wsX80 := (dg_t (dg_r gw_wsX80))
theorem ggX8_best_X8_barsOf : GoodIn wsX8_best wsX8_barsOf := (dg_c 6 rfl rfl (dg_c 7 rfl rfl (dg_c 8 rfl rfl (dg_c 9 rfl rfl (dg_c 10 rfl rfl (dg_c 5 rfl rfl (dg_c 11 rfl rfl (dg_c 12 rfl rfl (dg_c 13 rfl rfl (dg_c 14 rfl rfl (dg_c 15 rfl rfl (dg_c 16 rfl rfl (dg_c 17 rfl rfl (dg_c 18 rfl rfl (dg_c 19 rfl rfl (dg_c 20 rfl rfl (dg_c 21 rfl rfl gl_X8_best_X80)))))))))))))))))
set_option maxRecDepth 20000 in
theorem gX8_best_X8_barsOf : GoodIn wsX8_best (wsV RX8 241 RX8 yX8_barsOf wsX8_barsOf) := goodIn_app (dg_c 2 rfl rfl (dg_c 3 rfl rfl (dg_c 4 rfl rfl (dg_c 5 rfl rfl dg_0)))) ggX8_best_X8_barsOf
set_option maxRecDepth 20000 in
theorem ggX8_best_X8_noTen : GoodIn wsX8_best wsX8_noTen := (dg_c 25 rfl rfl (dg_c 26 rfl rfl gl_X8_best_X80))
set_option maxRecDepth 20000 in
theorem gX8_best_X8_noTen : GoodIn wsX8_best (wsV RX8 216 RX8 yX8_noTen wsX8_noTen) := goodIn_app (dg_c 22 rfl rfl (dg_c 23 rfl rfl (dg_c 24 rfl rfl (dg_c 5 rfl rfl dg_0)))) ggX8_best_X8_noTen
set_option maxRecDepth 20000 in
theorem ggX8_best_X8_freedBy : GoodIn wsX8_best wsX8_freedBy := (dg_c 30 rfl rfl (dg_c 17 rfl rfl (dg_c 18 rfl rfl (dg_c 19 rfl rfl (dg_c 5 rfl rfl (dg_c 20 rfl rfl (dg_c 21 rfl rfl (dg_c 31 rfl rfl (dg_c 32 rfl rfl (dg_c 33 rfl rfl (dg_c 34 rfl rfl (dg_c 35 rfl rfl (dg_c 36 rfl rfl (dg_c 37 rfl rfl gl_X8_best_X80))))))))))))))
set_option maxRecDepth 20000 in
theorem gX8_best_X8_freedBy : GoodIn wsX8_best (wsV RX8 244 RX8 yX8_freedBy wsX8_freedBy) := goodIn_app (dg_c 27 rfl rfl (dg_c 28 rfl rfl (dg_c 29 rfl rfl (dg_c 5 rfl rfl dg_0)))) ggX8_best_X8_freedBy
theorem dX8_best_0 : decode cX8_best 0 = .ok (.aload_n 0, 1) := dq_42 dp_cX8_best rfl
theorem dX8_best_1 : decode cX8_best 1 = .ok (.iload_n 1, 1) := dq_27 dp_cX8_best rfl
theorem dX8_best_2 : decode cX8_best 2 = .ok (.invokevirtual 241, 3) := dq_182 dp_cX8_best rfl
theorem dX8_best_5 : decode cX8_best 5 = .ok (.istore_n 2, 1) := dq_61 dp_cX8_best rfl
theorem dX8_best_6 : decode cX8_best 6 = .ok (.iload_n 2, 1) := dq_28 dp_cX8_best rfl
theorem dX8_best_7 : decode cX8_best 7 = .ok (.ifCond .eq 9, 3) := dq_153 (v := 9) dp_cX8_best rfl rfl
theorem dX8_best_10 : decode cX8_best 10 = .ok (.aload_n 0, 1) := dq_42 dp_cX8_best rfl
theorem dX8_best_11 : decode cX8_best 11 = .ok (.iload_n 2, 1) := dq_28 dp_cX8_best rfl
theorem dX8_best_12 : decode cX8_best 12 = .ok (.invokevirtual 216, 3) := dq_182 dp_cX8_best rfl
theorem dX8_best_15 : decode cX8_best 15 = .ok (.ireturn, 1) := dq_172 dp_cX8_best rfl
theorem dX8_best_16 : decode cX8_best 16 = .ok (.iconst (-1), 1) := dq_2 dp_cX8_best rfl
theorem dX8_best_17 : decode cX8_best 17 = .ok (.istore_n 3, 1) := dq_62 dp_cX8_best rfl
theorem dX8_best_18 : decode cX8_best 18 = .ok (.iconst 0, 1) := dq_3 dp_cX8_best rfl
theorem dX8_best_19 : decode cX8_best 19 = .ok (.istore 4, 2) := dq_54 dp_cX8_best rfl
theorem dX8_best_21 : decode cX8_best 21 = .ok (.iload 4, 2) := dq_21 dp_cX8_best rfl
theorem dX8_best_23 : decode cX8_best 23 = .ok (.aload_n 0, 1) := dq_42 dp_cX8_best rfl
theorem dX8_best_24 : decode cX8_best 24 = .ok (.getfield 90, 3) := dq_180 dp_cX8_best rfl
theorem dX8_best_27 : decode cX8_best 27 = .ok (.if_icmp .ge 33, 3) := dq_162 (v := 33) dp_cX8_best rfl rfl
theorem dX8_best_30 : decode cX8_best 30 = .ok (.iload_n 3, 1) := dq_29 dp_cX8_best rfl
theorem dX8_best_31 : decode cX8_best 31 = .ok (.iconst (-1), 1) := dq_2 dp_cX8_best rfl
theorem dX8_best_32 : decode cX8_best 32 = .ok (.if_icmp .eq 19, 3) := dq_159 (v := 19) dp_cX8_best rfl rfl
theorem dX8_best_35 : decode cX8_best 35 = .ok (.aload_n 0, 1) := dq_42 dp_cX8_best rfl
theorem dX8_best_36 : decode cX8_best 36 = .ok (.iload_n 1, 1) := dq_27 dp_cX8_best rfl
theorem dX8_best_37 : decode cX8_best 37 = .ok (.iload 4, 2) := dq_21 dp_cX8_best rfl
theorem dX8_best_39 : decode cX8_best 39 = .ok (.invokevirtual 244, 3) := dq_182 dp_cX8_best rfl
theorem dX8_best_42 : decode cX8_best 42 = .ok (.aload_n 0, 1) := dq_42 dp_cX8_best rfl
theorem dX8_best_43 : decode cX8_best 43 = .ok (.iload_n 1, 1) := dq_27 dp_cX8_best rfl
theorem dX8_best_44 : decode cX8_best 44 = .ok (.iload_n 3, 1) := dq_29 dp_cX8_best rfl
theorem dX8_best_45 : decode cX8_best 45 = .ok (.invokevirtual 244, 3) := dq_182 dp_cX8_best rfl
theorem dX8_best_48 : decode cX8_best 48 = .ok (.if_icmp .le 6, 3) := dq_164 (v := 6) dp_cX8_best rfl rfl
theorem dX8_best_51 : decode cX8_best 51 = .ok (.iload 4, 2) := dq_21 dp_cX8_best rfl
theorem dX8_best_53 : decode cX8_best 53 = .ok (.istore_n 3, 1) := dq_62 dp_cX8_best rfl
theorem dX8_best_54 : decode cX8_best 54 = .ok (.iinc 4 1, 3) := dq_132 (v := 1) dp_cX8_best rfl (by decide) rfl
theorem dX8_best_57 : decode cX8_best 57 = .ok (.goto (-36), 3) := dq_167 (v := 65500) dp_cX8_best rfl rfl
theorem dX8_best_60 : decode cX8_best 60 = .ok (.iload_n 3, 1) := dq_29 dp_cX8_best rfl
theorem dX8_best_61 : decode cX8_best 61 = .ok (.ireturn, 1) := dq_172 dp_cX8_best rfl
set_option maxRecDepth 20000 in
theorem ggX8_behind_X8_isShelf : GoodIn wsX8_behind wsX8_isShelf := (dg_c 5 rfl rfl dg_0)
set_option maxRecDepth 20000 in
theorem gX8_behind_X8_isShelf : GoodIn wsX8_behind (wsV RX8 93 RX8 yX8_isShelf wsX8_isShelf) := goodIn_app (dg_c 1 rfl rfl (dg_c 2 rfl rfl (dg_c 3 rfl rfl (dg_c 4 rfl rfl dg_0)))) ggX8_behind_X8_isShelf
set_option maxRecDepth 20000 in
theorem gl_X8_behind_X80 : GoodIn wsX8_behind wsX80 := (dg_t (dg_r gw_wsX80))
theorem ggX8_behind_X8_isPull : GoodIn wsX8_behind wsX8_isPull := (dg_c 9 rfl rfl (dg_c 10 rfl rfl gl_X8_behind_X80))
set_option maxRecDepth 20000 in
theorem gX8_behind_X8_isPull : GoodIn wsX8_behind (wsV RX8 101 RX8 yX8_isPull wsX8_isPull) := goodIn_app (dg_c 6 rfl rfl (dg_c 7 rfl rfl (dg_c 8 rfl rfl (dg_c 4 rfl rfl dg_0)))) ggX8_behind_X8_isPull
set_option maxRecDepth 20000 in
theorem ggX8_behind_X8_barsOf : GoodIn wsX8_behind wsX8_barsOf := (dg_c 14 rfl rfl (dg_c 15 rfl rfl (dg_c 16 rfl rfl (dg_c 17 rfl rfl (dg_c 18 rfl rfl (dg_c 4 rfl rfl (dg_c 19 rfl rfl (dg_c 20 rfl rfl (dg_c 1 rfl rfl (dg_c 2 rfl rfl (dg_c 3 rfl rfl (dg_c 5 rfl rfl (dg_c 21 rfl rfl (dg_c 22 rfl rfl (dg_c 23 rfl rfl (dg_c 24 rfl rfl (dg_c 25 rfl rfl gl_X8_behind_X80)))))))))))))))))
set_option maxRecDepth 20000 in
theorem gX8_behind_X8_barsOf : GoodIn wsX8_behind (wsV RX8 241 RX8 yX8_barsOf wsX8_barsOf) := goodIn_app (dg_c 11 rfl rfl (dg_c 12 rfl rfl (dg_c 13 rfl rfl (dg_c 4 rfl rfl dg_0)))) ggX8_behind_X8_barsOf
set_option maxRecDepth 20000 in
theorem ggX8_behind_X8_no : GoodIn wsX8_behind wsX8_no := (dg_c 29 rfl rfl (dg_c 30 rfl rfl gl_X8_behind_X80))
set_option maxRecDepth 20000 in
theorem gX8_behind_X8_no : GoodIn wsX8_behind (wsV RX8 97 RX8 yX8_no wsX8_no) := goodIn_app (dg_c 26 rfl rfl (dg_c 27 rfl rfl (dg_c 28 rfl rfl (dg_c 4 rfl rfl dg_0)))) ggX8_behind_X8_no
set_option maxRecDepth 20000 in
theorem ggX8_behind_X8_intAt : GoodIn wsX8_behind wsX8_intAt := (dg_c 24 rfl rfl (dg_c 25 rfl rfl gl_X8_behind_X80))
set_option maxRecDepth 20000 in
theorem gX8_behind_X8_intAt : GoodIn wsX8_behind (wsV RX8 238 RX8 yX8_intAt wsX8_intAt) := goodIn_app (dg_c 21 rfl rfl (dg_c 22 rfl rfl (dg_c 23 rfl rfl (dg_c 4 rfl rfl dg_0)))) ggX8_behind_X8_intAt
set_option maxRecDepth 20000 in
theorem ggX8_behind_X8_ways : GoodIn wsX8_behind wsX8_ways := (dg_c 34 rfl rfl (dg_c 35 rfl rfl (dg_c 36 rfl rfl (dg_c 37 rfl rfl gl_X8_behind_X80))))
set_option maxRecDepth 20000 in
theorem gX8_behind_X8_ways : GoodIn wsX8_behind (wsV RX8 107 RX8 yX8_ways wsX8_ways) := goodIn_app (dg_c 31 rfl rfl (dg_c 32 rfl rfl (dg_c 33 rfl rfl (dg_c 4 rfl rfl dg_0)))) ggX8_behind_X8_ways
set_option maxRecDepth 20000 in
theorem ggX8_behind_X8_deep : GoodIn wsX8_behind wsX8_deep := (dg_c 41 rfl rfl (dg_c 35 rfl rfl (dg_c 36 rfl rfl (dg_c 37 rfl rfl (dg_c 42 rfl rfl (dg_c 43 rfl rfl (dg_c 44 rfl rfl (dg_c 4 rfl rfl (dg_c 45 rfl rfl gl_X8_behind_X80)))))))))
set_option maxRecDepth 20000 in
theorem gX8_behind_X8_deep : GoodIn wsX8_behind (wsV RX8 201 RX8 yX8_deep wsX8_deep) := goodIn_app (dg_c 38 rfl rfl (dg_c 39 rfl rfl (dg_c 40 rfl rfl (dg_c 4 rfl rfl dg_0)))) ggX8_behind_X8_deep
theorem dX8_behind_0 : decode cX8_behind 0 = .ok (.aload_n 0, 1) := dq_42 dp_cX8_behind rfl
theorem dX8_behind_1 : decode cX8_behind 1 = .ok (.iload_n 1, 1) := dq_27 dp_cX8_behind rfl
theorem dX8_behind_2 : decode cX8_behind 2 = .ok (.invokevirtual 93, 3) := dq_182 dp_cX8_behind rfl
theorem dX8_behind_5 : decode cX8_behind 5 = .ok (.ifCond .eq 15, 3) := dq_153 (v := 15) dp_cX8_behind rfl rfl
theorem dX8_behind_8 : decode cX8_behind 8 = .ok (.aload_n 0, 1) := dq_42 dp_cX8_behind rfl
theorem dX8_behind_9 : decode cX8_behind 9 = .ok (.iload_n 2, 1) := dq_28 dp_cX8_behind rfl
theorem dX8_behind_10 : decode cX8_behind 10 = .ok (.invokevirtual 101, 3) := dq_182 dp_cX8_behind rfl
theorem dX8_behind_13 : decode cX8_behind 13 = .ok (.ifCond .ne 7, 3) := dq_154 (v := 7) dp_cX8_behind rfl rfl
theorem dX8_behind_16 : decode cX8_behind 16 = .ok (.iconst (-1), 1) := dq_2 dp_cX8_behind rfl
theorem dX8_behind_17 : decode cX8_behind 17 = .ok (.goto 8, 3) := dq_167 (v := 8) dp_cX8_behind rfl rfl
theorem dX8_behind_20 : decode cX8_behind 20 = .ok (.aload_n 0, 1) := dq_42 dp_cX8_behind rfl
theorem dX8_behind_21 : decode cX8_behind 21 = .ok (.iload_n 1, 1) := dq_27 dp_cX8_behind rfl
theorem dX8_behind_22 : decode cX8_behind 22 = .ok (.invokevirtual 241, 3) := dq_182 dp_cX8_behind rfl
theorem dX8_behind_25 : decode cX8_behind 25 = .ok (.istore 4, 2) := dq_54 dp_cX8_behind rfl
theorem dX8_behind_27 : decode cX8_behind 27 = .ok (.iload 4, 2) := dq_21 dp_cX8_behind rfl
theorem dX8_behind_29 : decode cX8_behind 29 = .ok (.ifCond .ne 17, 3) := dq_154 (v := 17) dp_cX8_behind rfl rfl
theorem dX8_behind_32 : decode cX8_behind 32 = .ok (.iload_n 3, 1) := dq_29 dp_cX8_behind rfl
theorem dX8_behind_33 : decode cX8_behind 33 = .ok (.ifCond .lt 9, 3) := dq_155 (v := 9) dp_cX8_behind rfl rfl
theorem dX8_behind_36 : decode cX8_behind 36 = .ok (.iload_n 3, 1) := dq_29 dp_cX8_behind rfl
theorem dX8_behind_37 : decode cX8_behind 37 = .ok (.bipush 24, 2) := dq_16 (v := 24) dp_cX8_behind rfl rfl
theorem dX8_behind_39 : decode cX8_behind 39 = .ok (.if_icmp .le 7, 3) := dq_164 (v := 7) dp_cX8_behind rfl rfl
theorem dX8_behind_42 : decode cX8_behind 42 = .ok (.bipush (-6), 2) := dq_16 (v := 250) dp_cX8_behind rfl rfl
theorem dX8_behind_44 : decode cX8_behind 44 = .ok (.istore 4, 2) := dq_54 dp_cX8_behind rfl
theorem dX8_behind_46 : decode cX8_behind 46 = .ok (.iload 4, 2) := dq_21 dp_cX8_behind rfl
theorem dX8_behind_48 : decode cX8_behind 48 = .ok (.ifCond .eq 10, 3) := dq_153 (v := 10) dp_cX8_behind rfl rfl
theorem dX8_behind_51 : decode cX8_behind 51 = .ok (.aload_n 0, 1) := dq_42 dp_cX8_behind rfl
theorem dX8_behind_52 : decode cX8_behind 52 = .ok (.iload 4, 2) := dq_21 dp_cX8_behind rfl
theorem dX8_behind_54 : decode cX8_behind 54 = .ok (.invokevirtual 97, 3) := dq_182 dp_cX8_behind rfl
theorem dX8_behind_57 : decode cX8_behind 57 = .ok (.ireturn, 1) := dq_172 dp_cX8_behind rfl
theorem dX8_behind_58 : decode cX8_behind 58 = .ok (.iload_n 3, 1) := dq_29 dp_cX8_behind rfl
theorem dX8_behind_59 : decode cX8_behind 59 = .ok (.ifCond .ne 15, 3) := dq_154 (v := 15) dp_cX8_behind rfl rfl
theorem dX8_behind_62 : decode cX8_behind 62 = .ok (.bipush 12, 2) := dq_16 (v := 12) dp_cX8_behind rfl rfl
theorem dX8_behind_64 : decode cX8_behind 64 = .ok (.aload_n 0, 1) := dq_42 dp_cX8_behind rfl
theorem dX8_behind_65 : decode cX8_behind 65 = .ok (.iload_n 1, 1) := dq_27 dp_cX8_behind rfl
theorem dX8_behind_66 : decode cX8_behind 66 = .ok (.iconst 0, 1) := dq_3 dp_cX8_behind rfl
theorem dX8_behind_67 : decode cX8_behind 67 = .ok (.invokevirtual 238, 3) := dq_182 dp_cX8_behind rfl
theorem dX8_behind_70 : decode cX8_behind 70 = .ok (.imul, 1) := dq_104 dp_cX8_behind rfl
theorem dX8_behind_71 : decode cX8_behind 71 = .ok (.goto 4, 3) := dq_167 (v := 4) dp_cX8_behind rfl rfl
theorem dX8_behind_74 : decode cX8_behind 74 = .ok (.iconst 0, 1) := dq_3 dp_cX8_behind rfl
theorem dX8_behind_75 : decode cX8_behind 75 = .ok (.istore 5, 2) := dq_54 dp_cX8_behind rfl
theorem dX8_behind_77 : decode cX8_behind 77 = .ok (.iconst 1, 1) := dq_4 dp_cX8_behind rfl
theorem dX8_behind_78 : decode cX8_behind 78 = .ok (.istore 6, 2) := dq_54 dp_cX8_behind rfl
theorem dX8_behind_80 : decode cX8_behind 80 = .ok (.iload 6, 2) := dq_21 dp_cX8_behind rfl
theorem dX8_behind_82 : decode cX8_behind 82 = .ok (.bipush 24, 2) := dq_16 (v := 24) dp_cX8_behind rfl rfl
theorem dX8_behind_84 : decode cX8_behind 84 = .ok (.if_icmp .gt 75, 3) := dq_163 (v := 75) dp_cX8_behind rfl rfl
theorem dX8_behind_87 : decode cX8_behind 87 = .ok (.aload_n 0, 1) := dq_42 dp_cX8_behind rfl
theorem dX8_behind_88 : decode cX8_behind 88 = .ok (.iload_n 2, 1) := dq_28 dp_cX8_behind rfl
theorem dX8_behind_89 : decode cX8_behind 89 = .ok (.iload 6, 2) := dq_21 dp_cX8_behind rfl
theorem dX8_behind_91 : decode cX8_behind 91 = .ok (.invokevirtual 107, 3) := dq_182 dp_cX8_behind rfl
theorem dX8_behind_94 : decode cX8_behind 94 = .ok (.istore 7, 2) := dq_54 dp_cX8_behind rfl
theorem dX8_behind_96 : decode cX8_behind 96 = .ok (.aload_n 0, 1) := dq_42 dp_cX8_behind rfl
theorem dX8_behind_97 : decode cX8_behind 97 = .ok (.iload_n 2, 1) := dq_28 dp_cX8_behind rfl
theorem dX8_behind_98 : decode cX8_behind 98 = .ok (.iload 6, 2) := dq_21 dp_cX8_behind rfl
theorem dX8_behind_100 : decode cX8_behind 100 = .ok (.iconst 1, 1) := dq_4 dp_cX8_behind rfl
theorem dX8_behind_101 : decode cX8_behind 101 = .ok (.invokevirtual 201, 3) := dq_182 dp_cX8_behind rfl
theorem dX8_behind_104 : decode cX8_behind 104 = .ok (.iload_n 3, 1) := dq_29 dp_cX8_behind rfl
theorem dX8_behind_105 : decode cX8_behind 105 = .ok (.if_icmp .ne 18, 3) := dq_160 (v := 18) dp_cX8_behind rfl rfl
theorem dX8_behind_108 : decode cX8_behind 108 = .ok (.iload 5, 2) := dq_21 dp_cX8_behind rfl
theorem dX8_behind_110 : decode cX8_behind 110 = .ok (.iload 7, 2) := dq_21 dp_cX8_behind rfl
theorem dX8_behind_112 : decode cX8_behind 112 = .ok (.aload_n 0, 1) := dq_42 dp_cX8_behind rfl
theorem dX8_behind_113 : decode cX8_behind 113 = .ok (.iload_n 1, 1) := dq_27 dp_cX8_behind rfl
theorem dX8_behind_114 : decode cX8_behind 114 = .ok (.iload 6, 2) := dq_21 dp_cX8_behind rfl
theorem dX8_behind_116 : decode cX8_behind 116 = .ok (.invokevirtual 238, 3) := dq_182 dp_cX8_behind rfl
theorem dX8_behind_119 : decode cX8_behind 119 = .ok (.imul, 1) := dq_104 dp_cX8_behind rfl
theorem dX8_behind_120 : decode cX8_behind 120 = .ok (.iadd, 1) := dq_96 dp_cX8_behind rfl
theorem dX8_behind_121 : decode cX8_behind 121 = .ok (.istore 5, 2) := dq_54 dp_cX8_behind rfl
theorem dX8_behind_123 : decode cX8_behind 123 = .ok (.aload_n 0, 1) := dq_42 dp_cX8_behind rfl
theorem dX8_behind_124 : decode cX8_behind 124 = .ok (.iload_n 2, 1) := dq_28 dp_cX8_behind rfl
theorem dX8_behind_125 : decode cX8_behind 125 = .ok (.iload 6, 2) := dq_21 dp_cX8_behind rfl
theorem dX8_behind_127 : decode cX8_behind 127 = .ok (.iconst 0, 1) := dq_3 dp_cX8_behind rfl
theorem dX8_behind_128 : decode cX8_behind 128 = .ok (.invokevirtual 201, 3) := dq_182 dp_cX8_behind rfl
theorem dX8_behind_131 : decode cX8_behind 131 = .ok (.iload_n 3, 1) := dq_29 dp_cX8_behind rfl
theorem dX8_behind_132 : decode cX8_behind 132 = .ok (.if_icmp .ne 21, 3) := dq_160 (v := 21) dp_cX8_behind rfl rfl
theorem dX8_behind_135 : decode cX8_behind 135 = .ok (.iload 5, 2) := dq_21 dp_cX8_behind rfl
theorem dX8_behind_137 : decode cX8_behind 137 = .ok (.bipush 12, 2) := dq_16 (v := 12) dp_cX8_behind rfl rfl
theorem dX8_behind_139 : decode cX8_behind 139 = .ok (.iload 7, 2) := dq_21 dp_cX8_behind rfl
theorem dX8_behind_141 : decode cX8_behind 141 = .ok (.isub, 1) := dq_100 dp_cX8_behind rfl
theorem dX8_behind_142 : decode cX8_behind 142 = .ok (.aload_n 0, 1) := dq_42 dp_cX8_behind rfl
theorem dX8_behind_143 : decode cX8_behind 143 = .ok (.iload_n 1, 1) := dq_27 dp_cX8_behind rfl
theorem dX8_behind_144 : decode cX8_behind 144 = .ok (.iload 6, 2) := dq_21 dp_cX8_behind rfl
theorem dX8_behind_146 : decode cX8_behind 146 = .ok (.invokevirtual 238, 3) := dq_182 dp_cX8_behind rfl
theorem dX8_behind_149 : decode cX8_behind 149 = .ok (.imul, 1) := dq_104 dp_cX8_behind rfl
theorem dX8_behind_150 : decode cX8_behind 150 = .ok (.iadd, 1) := dq_96 dp_cX8_behind rfl
theorem dX8_behind_151 : decode cX8_behind 151 = .ok (.istore 5, 2) := dq_54 dp_cX8_behind rfl
theorem dX8_behind_153 : decode cX8_behind 153 = .ok (.iinc 6 1, 3) := dq_132 (v := 1) dp_cX8_behind rfl (by decide) rfl
theorem dX8_behind_156 : decode cX8_behind 156 = .ok (.goto (-76), 3) := dq_167 (v := 65460) dp_cX8_behind rfl rfl
theorem dX8_behind_159 : decode cX8_behind 159 = .ok (.iload 5, 2) := dq_21 dp_cX8_behind rfl
theorem dX8_behind_161 : decode cX8_behind 161 = .ok (.ireturn, 1) := dq_172 dp_cX8_behind rfl
theorem dX8_isOpen_0 : decode cX8_isOpen 0 = .ok (.iload_n 1, 1) := dq_27 dp_cX8_isOpen rfl
theorem dX8_isOpen_1 : decode cX8_isOpen 1 = .ok (.iconst 2, 1) := dq_5 dp_cX8_isOpen rfl
theorem dX8_isOpen_2 : decode cX8_isOpen 2 = .ok (.iadd, 1) := dq_96 dp_cX8_isOpen rfl
theorem dX8_isOpen_3 : decode cX8_isOpen 3 = .ok (.aload_n 0, 1) := dq_42 dp_cX8_isOpen rfl
theorem dX8_isOpen_4 : decode cX8_isOpen 4 = .ok (.getfield 7, 3) := dq_180 dp_cX8_isOpen rfl
theorem dX8_isOpen_7 : decode cX8_isOpen 7 = .ok (.if_icmp .ge 41, 3) := dq_162 (v := 41) dp_cX8_isOpen rfl rfl
theorem dX8_isOpen_10 : decode cX8_isOpen 10 = .ok (.aload_n 0, 1) := dq_42 dp_cX8_isOpen rfl
theorem dX8_isOpen_11 : decode cX8_isOpen 11 = .ok (.getfield 38, 3) := dq_180 dp_cX8_isOpen rfl
theorem dX8_isOpen_14 : decode cX8_isOpen 14 = .ok (.iload_n 1, 1) := dq_27 dp_cX8_isOpen rfl
theorem dX8_isOpen_15 : decode cX8_isOpen 15 = .ok (.iaload, 1) := dq_46 dp_cX8_isOpen rfl
theorem dX8_isOpen_16 : decode cX8_isOpen 16 = .ok (.iconst 1, 1) := dq_4 dp_cX8_isOpen rfl
theorem dX8_isOpen_17 : decode cX8_isOpen 17 = .ok (.if_icmp .ne 31, 3) := dq_160 (v := 31) dp_cX8_isOpen rfl rfl
theorem dX8_isOpen_20 : decode cX8_isOpen 20 = .ok (.aload_n 0, 1) := dq_42 dp_cX8_isOpen rfl
theorem dX8_isOpen_21 : decode cX8_isOpen 21 = .ok (.getfield 38, 3) := dq_180 dp_cX8_isOpen rfl
theorem dX8_isOpen_24 : decode cX8_isOpen 24 = .ok (.iload_n 1, 1) := dq_27 dp_cX8_isOpen rfl
theorem dX8_isOpen_25 : decode cX8_isOpen 25 = .ok (.iconst 1, 1) := dq_4 dp_cX8_isOpen rfl
theorem dX8_isOpen_26 : decode cX8_isOpen 26 = .ok (.iadd, 1) := dq_96 dp_cX8_isOpen rfl
theorem dX8_isOpen_27 : decode cX8_isOpen 27 = .ok (.iaload, 1) := dq_46 dp_cX8_isOpen rfl
theorem dX8_isOpen_28 : decode cX8_isOpen 28 = .ok (.iconst 1, 1) := dq_4 dp_cX8_isOpen rfl
theorem dX8_isOpen_29 : decode cX8_isOpen 29 = .ok (.if_icmp .ne 19, 3) := dq_160 (v := 19) dp_cX8_isOpen rfl rfl
theorem dX8_isOpen_32 : decode cX8_isOpen 32 = .ok (.aload_n 0, 1) := dq_42 dp_cX8_isOpen rfl
theorem dX8_isOpen_33 : decode cX8_isOpen 33 = .ok (.getfield 38, 3) := dq_180 dp_cX8_isOpen rfl
theorem dX8_isOpen_36 : decode cX8_isOpen 36 = .ok (.iload_n 1, 1) := dq_27 dp_cX8_isOpen rfl
theorem dX8_isOpen_37 : decode cX8_isOpen 37 = .ok (.iconst 2, 1) := dq_5 dp_cX8_isOpen rfl
theorem dX8_isOpen_38 : decode cX8_isOpen 38 = .ok (.iadd, 1) := dq_96 dp_cX8_isOpen rfl
theorem dX8_isOpen_39 : decode cX8_isOpen 39 = .ok (.iaload, 1) := dq_46 dp_cX8_isOpen rfl
theorem dX8_isOpen_40 : decode cX8_isOpen 40 = .ok (.iconst 1, 1) := dq_4 dp_cX8_isOpen rfl
theorem dX8_isOpen_41 : decode cX8_isOpen 41 = .ok (.if_icmp .ne 7, 3) := dq_160 (v := 7) dp_cX8_isOpen rfl rfl
theorem dX8_isOpen_44 : decode cX8_isOpen 44 = .ok (.iconst 1, 1) := dq_4 dp_cX8_isOpen rfl
theorem dX8_isOpen_45 : decode cX8_isOpen 45 = .ok (.goto 4, 3) := dq_167 (v := 4) dp_cX8_isOpen rfl rfl
theorem dX8_isOpen_48 : decode cX8_isOpen 48 = .ok (.iconst 0, 1) := dq_3 dp_cX8_isOpen rfl
theorem dX8_isOpen_49 : decode cX8_isOpen 49 = .ok (.ireturn, 1) := dq_172 dp_cX8_isOpen rfl
set_option maxRecDepth 20000 in
theorem gl_X8_doesHold_X80 : GoodIn wsX8_doesHold wsX80 := (dg_t (dg_t (dg_t (dg_t (dg_t (dg_t (dg_t (dg_t gw_wsX80))))))))
theorem ggX8_doesHold_X8_isOpen : GoodIn wsX8_doesHold wsX8_isOpen := (dg_c 6 rfl rfl (dg_c 1 rfl rfl (dg_c 7 rfl rfl gl_X8_doesHold_X80)))
set_option maxRecDepth 20000 in
theorem gX8_doesHold_X8_isOpen : GoodIn wsX8_doesHold (wsV RX8 247 RX8 yX8_isOpen wsX8_isOpen) := goodIn_app (dg_c 2 rfl rfl (dg_c 3 rfl rfl (dg_c 4 rfl rfl (dg_c 5 rfl rfl dg_0)))) ggX8_doesHold_X8_isOpen
theorem dX8_doesHold_0 : decode cX8_doesHold 0 = .ok (.iconst 0, 1) := dq_3 dp_cX8_doesHold rfl
theorem dX8_doesHold_1 : decode cX8_doesHold 1 = .ok (.istore_n 1, 1) := dq_60 dp_cX8_doesHold rfl
theorem dX8_doesHold_2 : decode cX8_doesHold 2 = .ok (.iload_n 1, 1) := dq_27 dp_cX8_doesHold rfl
theorem dX8_doesHold_3 : decode cX8_doesHold 3 = .ok (.aload_n 0, 1) := dq_42 dp_cX8_doesHold rfl
theorem dX8_doesHold_4 : decode cX8_doesHold 4 = .ok (.getfield 7, 3) := dq_180 dp_cX8_doesHold rfl
theorem dX8_doesHold_7 : decode cX8_doesHold 7 = .ok (.if_icmp .ge 19, 3) := dq_162 (v := 19) dp_cX8_doesHold rfl rfl
theorem dX8_doesHold_10 : decode cX8_doesHold 10 = .ok (.aload_n 0, 1) := dq_42 dp_cX8_doesHold rfl
theorem dX8_doesHold_11 : decode cX8_doesHold 11 = .ok (.iload_n 1, 1) := dq_27 dp_cX8_doesHold rfl
theorem dX8_doesHold_12 : decode cX8_doesHold 12 = .ok (.invokevirtual 247, 3) := dq_182 dp_cX8_doesHold rfl
theorem dX8_doesHold_15 : decode cX8_doesHold 15 = .ok (.ifCond .eq 5, 3) := dq_153 (v := 5) dp_cX8_doesHold rfl rfl
theorem dX8_doesHold_18 : decode cX8_doesHold 18 = .ok (.iconst 0, 1) := dq_3 dp_cX8_doesHold rfl
theorem dX8_doesHold_19 : decode cX8_doesHold 19 = .ok (.ireturn, 1) := dq_172 dp_cX8_doesHold rfl
theorem dX8_doesHold_20 : decode cX8_doesHold 20 = .ok (.iinc 1 1, 3) := dq_132 (v := 1) dp_cX8_doesHold rfl (by decide) rfl
theorem dX8_doesHold_23 : decode cX8_doesHold 23 = .ok (.goto (-21), 3) := dq_167 (v := 65515) dp_cX8_doesHold rfl rfl
theorem dX8_doesHold_26 : decode cX8_doesHold 26 = .ok (.iconst 1, 1) := dq_4 dp_cX8_doesHold rfl
theorem dX8_doesHold_27 : decode cX8_doesHold 27 = .ok (.ireturn, 1) := dq_172 dp_cX8_doesHold rfl
set_option maxRecDepth 20000 in
theorem gl_X8_frail_X80 : GoodIn wsX8_frail wsX80 := (dg_t (dg_t (dg_t (dg_t (dg_t (dg_t (dg_t (dg_t (dg_t (dg_t (dg_t (dg_t gw_wsX80))))))))))))
theorem ggX8_frail_X8_doesHold : GoodIn wsX8_frail wsX8_doesHold := (dg_c 7 rfl rfl (dg_c 1 rfl rfl (dg_c 8 rfl rfl (dg_c 9 rfl rfl (dg_c 10 rfl rfl (dg_c 6 rfl rfl (dg_c 11 rfl rfl (dg_c 2 rfl rfl gl_X8_frail_X80))))))))
set_option maxRecDepth 20000 in
theorem gX8_frail_X8_doesHold : GoodIn wsX8_frail (wsV RX8 250 RX8 yX8_doesHold wsX8_doesHold) := goodIn_app (dg_c 3 rfl rfl (dg_c 4 rfl rfl (dg_c 5 rfl rfl (dg_c 6 rfl rfl dg_0)))) ggX8_frail_X8_doesHold
theorem dX8_frail_0 : decode cX8_frail 0 = .ok (.iconst 0, 1) := dq_3 dp_cX8_frail rfl
theorem dX8_frail_1 : decode cX8_frail 1 = .ok (.istore_n 1, 1) := dq_60 dp_cX8_frail rfl
theorem dX8_frail_2 : decode cX8_frail 2 = .ok (.iconst 0, 1) := dq_3 dp_cX8_frail rfl
theorem dX8_frail_3 : decode cX8_frail 3 = .ok (.istore_n 2, 1) := dq_61 dp_cX8_frail rfl
theorem dX8_frail_4 : decode cX8_frail 4 = .ok (.iload_n 2, 1) := dq_28 dp_cX8_frail rfl
theorem dX8_frail_5 : decode cX8_frail 5 = .ok (.aload_n 0, 1) := dq_42 dp_cX8_frail rfl
theorem dX8_frail_6 : decode cX8_frail 6 = .ok (.getfield 7, 3) := dq_180 dp_cX8_frail rfl
theorem dX8_frail_9 : decode cX8_frail 9 = .ok (.if_icmp .ge 53, 3) := dq_162 (v := 53) dp_cX8_frail rfl rfl
theorem dX8_frail_12 : decode cX8_frail 12 = .ok (.aload_n 0, 1) := dq_42 dp_cX8_frail rfl
theorem dX8_frail_13 : decode cX8_frail 13 = .ok (.invokevirtual 250, 3) := dq_182 dp_cX8_frail rfl
theorem dX8_frail_16 : decode cX8_frail 16 = .ok (.ifCond .eq 46, 3) := dq_153 (v := 46) dp_cX8_frail rfl rfl
theorem dX8_frail_19 : decode cX8_frail 19 = .ok (.aload_n 0, 1) := dq_42 dp_cX8_frail rfl
theorem dX8_frail_20 : decode cX8_frail 20 = .ok (.getfield 38, 3) := dq_180 dp_cX8_frail rfl
theorem dX8_frail_23 : decode cX8_frail 23 = .ok (.iload_n 2, 1) := dq_28 dp_cX8_frail rfl
theorem dX8_frail_24 : decode cX8_frail 24 = .ok (.iaload, 1) := dq_46 dp_cX8_frail rfl
theorem dX8_frail_25 : decode cX8_frail 25 = .ok (.iconst 1, 1) := dq_4 dp_cX8_frail rfl
theorem dX8_frail_26 : decode cX8_frail 26 = .ok (.if_icmp .ne 6, 3) := dq_160 (v := 6) dp_cX8_frail rfl rfl
theorem dX8_frail_29 : decode cX8_frail 29 = .ok (.goto 27, 3) := dq_167 (v := 27) dp_cX8_frail rfl rfl
theorem dX8_frail_32 : decode cX8_frail 32 = .ok (.aload_n 0, 1) := dq_42 dp_cX8_frail rfl
theorem dX8_frail_33 : decode cX8_frail 33 = .ok (.getfield 38, 3) := dq_180 dp_cX8_frail rfl
theorem dX8_frail_36 : decode cX8_frail 36 = .ok (.iload_n 2, 1) := dq_28 dp_cX8_frail rfl
theorem dX8_frail_37 : decode cX8_frail 37 = .ok (.iconst 1, 1) := dq_4 dp_cX8_frail rfl
theorem dX8_frail_38 : decode cX8_frail 38 = .ok (.iastore, 1) := dq_79 dp_cX8_frail rfl
theorem dX8_frail_39 : decode cX8_frail 39 = .ok (.aload_n 0, 1) := dq_42 dp_cX8_frail rfl
theorem dX8_frail_40 : decode cX8_frail 40 = .ok (.invokevirtual 250, 3) := dq_182 dp_cX8_frail rfl
theorem dX8_frail_43 : decode cX8_frail 43 = .ok (.ifCond .ne 6, 3) := dq_154 (v := 6) dp_cX8_frail rfl rfl
theorem dX8_frail_46 : decode cX8_frail 46 = .ok (.iinc 1 1, 3) := dq_132 (v := 1) dp_cX8_frail rfl (by decide) rfl
theorem dX8_frail_49 : decode cX8_frail 49 = .ok (.aload_n 0, 1) := dq_42 dp_cX8_frail rfl
theorem dX8_frail_50 : decode cX8_frail 50 = .ok (.getfield 38, 3) := dq_180 dp_cX8_frail rfl
theorem dX8_frail_53 : decode cX8_frail 53 = .ok (.iload_n 2, 1) := dq_28 dp_cX8_frail rfl
theorem dX8_frail_54 : decode cX8_frail 54 = .ok (.iconst 0, 1) := dq_3 dp_cX8_frail rfl
theorem dX8_frail_55 : decode cX8_frail 55 = .ok (.iastore, 1) := dq_79 dp_cX8_frail rfl
theorem dX8_frail_56 : decode cX8_frail 56 = .ok (.iinc 2 1, 3) := dq_132 (v := 1) dp_cX8_frail rfl (by decide) rfl
theorem dX8_frail_59 : decode cX8_frail 59 = .ok (.goto (-55), 3) := dq_167 (v := 65481) dp_cX8_frail rfl rfl
theorem dX8_frail_62 : decode cX8_frail 62 = .ok (.iload_n 1, 1) := dq_27 dp_cX8_frail rfl
theorem dX8_frail_63 : decode cX8_frail 63 = .ok (.ireturn, 1) := dq_172 dp_cX8_frail rfl
set_option maxRecDepth 20000 in
theorem gl_X8_spare_X80 : GoodIn wsX8_spare wsX80 := (dg_t (dg_t (dg_t (dg_t (dg_t (dg_t (dg_t (dg_t (dg_t (dg_t (dg_t (dg_t (dg_t (dg_t (dg_t (dg_t (dg_t (dg_t gw_wsX80))))))))))))))))))
theorem ggX8_spare_X8_doesHold : GoodIn wsX8_spare wsX8_doesHold := (dg_c 9 rfl rfl (dg_c 2 rfl rfl (dg_c 10 rfl rfl (dg_c 11 rfl rfl (dg_c 12 rfl rfl (dg_c 8 rfl rfl (dg_c 13 rfl rfl (dg_c 3 rfl rfl gl_X8_spare_X80))))))))
set_option maxRecDepth 20000 in
theorem gX8_spare_X8_doesHold : GoodIn wsX8_spare (wsV RX8 250 RX8 yX8_doesHold wsX8_doesHold) := goodIn_app (dg_c 5 rfl rfl (dg_c 6 rfl rfl (dg_c 7 rfl rfl (dg_c 8 rfl rfl dg_0)))) ggX8_spare_X8_doesHold
set_option maxRecDepth 20000 in
theorem ggX8_spare_X8_greatest : GoodIn wsX8_spare wsX8_greatest := (dg_c 17 rfl rfl (dg_c 1 rfl rfl gl_X8_spare_X80))
set_option maxRecDepth 20000 in
theorem gX8_spare_X8_greatest : GoodIn wsX8_spare (wsV RX8 253 RX8 yX8_greatest wsX8_greatest) := goodIn_app (dg_c 14 rfl rfl (dg_c 15 rfl rfl (dg_c 16 rfl rfl (dg_c 8 rfl rfl dg_0)))) ggX8_spare_X8_greatest
theorem dX8_spare_0 : decode cX8_spare 0 = .ok (.aload_n 0, 1) := dq_42 dp_cX8_spare rfl
theorem dX8_spare_1 : decode cX8_spare 1 = .ok (.invokevirtual 250, 3) := dq_182 dp_cX8_spare rfl
theorem dX8_spare_4 : decode cX8_spare 4 = .ok (.ifCond .ne 5, 3) := dq_154 (v := 5) dp_cX8_spare rfl rfl
theorem dX8_spare_7 : decode cX8_spare 7 = .ok (.iconst 0, 1) := dq_3 dp_cX8_spare rfl
theorem dX8_spare_8 : decode cX8_spare 8 = .ok (.ireturn, 1) := dq_172 dp_cX8_spare rfl
theorem dX8_spare_9 : decode cX8_spare 9 = .ok (.aload_n 0, 1) := dq_42 dp_cX8_spare rfl
theorem dX8_spare_10 : decode cX8_spare 10 = .ok (.getfield 81, 3) := dq_180 dp_cX8_spare rfl
theorem dX8_spare_13 : decode cX8_spare 13 = .ok (.iconst 0, 1) := dq_3 dp_cX8_spare rfl
theorem dX8_spare_14 : decode cX8_spare 14 = .ok (.iconst 0, 1) := dq_3 dp_cX8_spare rfl
theorem dX8_spare_15 : decode cX8_spare 15 = .ok (.iastore, 1) := dq_79 dp_cX8_spare rfl
theorem dX8_spare_16 : decode cX8_spare 16 = .ok (.aload_n 0, 1) := dq_42 dp_cX8_spare rfl
theorem dX8_spare_17 : decode cX8_spare 17 = .ok (.getfield 81, 3) := dq_180 dp_cX8_spare rfl
theorem dX8_spare_20 : decode cX8_spare 20 = .ok (.iconst 1, 1) := dq_4 dp_cX8_spare rfl
theorem dX8_spare_21 : decode cX8_spare 21 = .ok (.bipush (-100), 2) := dq_16 (v := 156) dp_cX8_spare rfl rfl
theorem dX8_spare_23 : decode cX8_spare 23 = .ok (.iastore, 1) := dq_79 dp_cX8_spare rfl
theorem dX8_spare_24 : decode cX8_spare 24 = .ok (.aload_n 0, 1) := dq_42 dp_cX8_spare rfl
theorem dX8_spare_25 : decode cX8_spare 25 = .ok (.getfield 81, 3) := dq_180 dp_cX8_spare rfl
theorem dX8_spare_28 : decode cX8_spare 28 = .ok (.iconst 2, 1) := dq_5 dp_cX8_spare rfl
theorem dX8_spare_29 : decode cX8_spare 29 = .ok (.bipush (-100), 2) := dq_16 (v := 156) dp_cX8_spare rfl rfl
theorem dX8_spare_31 : decode cX8_spare 31 = .ok (.iastore, 1) := dq_79 dp_cX8_spare rfl
theorem dX8_spare_32 : decode cX8_spare 32 = .ok (.iconst 0, 1) := dq_3 dp_cX8_spare rfl
theorem dX8_spare_33 : decode cX8_spare 33 = .ok (.istore_n 1, 1) := dq_60 dp_cX8_spare rfl
theorem dX8_spare_34 : decode cX8_spare 34 = .ok (.iload_n 1, 1) := dq_27 dp_cX8_spare rfl
theorem dX8_spare_35 : decode cX8_spare 35 = .ok (.aload_n 0, 1) := dq_42 dp_cX8_spare rfl
theorem dX8_spare_36 : decode cX8_spare 36 = .ok (.getfield 7, 3) := dq_180 dp_cX8_spare rfl
theorem dX8_spare_39 : decode cX8_spare 39 = .ok (.if_icmp .ge 96, 3) := dq_162 (v := 96) dp_cX8_spare rfl rfl
theorem dX8_spare_42 : decode cX8_spare 42 = .ok (.iconst 1, 1) := dq_4 dp_cX8_spare rfl
theorem dX8_spare_43 : decode cX8_spare 43 = .ok (.aload_n 0, 1) := dq_42 dp_cX8_spare rfl
theorem dX8_spare_44 : decode cX8_spare 44 = .ok (.getfield 38, 3) := dq_180 dp_cX8_spare rfl
theorem dX8_spare_47 : decode cX8_spare 47 = .ok (.iload_n 1, 1) := dq_27 dp_cX8_spare rfl
theorem dX8_spare_48 : decode cX8_spare 48 = .ok (.iaload, 1) := dq_46 dp_cX8_spare rfl
theorem dX8_spare_49 : decode cX8_spare 49 = .ok (.isub, 1) := dq_100 dp_cX8_spare rfl
theorem dX8_spare_50 : decode cX8_spare 50 = .ok (.istore_n 2, 1) := dq_61 dp_cX8_spare rfl
theorem dX8_spare_51 : decode cX8_spare 51 = .ok (.aload_n 0, 1) := dq_42 dp_cX8_spare rfl
theorem dX8_spare_52 : decode cX8_spare 52 = .ok (.getfield 84, 3) := dq_180 dp_cX8_spare rfl
theorem dX8_spare_55 : decode cX8_spare 55 = .ok (.iconst 0, 1) := dq_3 dp_cX8_spare rfl
theorem dX8_spare_56 : decode cX8_spare 56 = .ok (.aload_n 0, 1) := dq_42 dp_cX8_spare rfl
theorem dX8_spare_57 : decode cX8_spare 57 = .ok (.getfield 38, 3) := dq_180 dp_cX8_spare rfl
theorem dX8_spare_60 : decode cX8_spare 60 = .ok (.iload_n 1, 1) := dq_27 dp_cX8_spare rfl
theorem dX8_spare_61 : decode cX8_spare 61 = .ok (.iaload, 1) := dq_46 dp_cX8_spare rfl
theorem dX8_spare_62 : decode cX8_spare 62 = .ok (.iconst 1, 1) := dq_4 dp_cX8_spare rfl
theorem dX8_spare_63 : decode cX8_spare 63 = .ok (.if_icmp .ne 8, 3) := dq_160 (v := 8) dp_cX8_spare rfl rfl
theorem dX8_spare_66 : decode cX8_spare 66 = .ok (.bipush (-100), 2) := dq_16 (v := 156) dp_cX8_spare rfl rfl
theorem dX8_spare_68 : decode cX8_spare 68 = .ok (.goto 7, 3) := dq_167 (v := 7) dp_cX8_spare rfl rfl
theorem dX8_spare_71 : decode cX8_spare 71 = .ok (.aload_n 0, 1) := dq_42 dp_cX8_spare rfl
theorem dX8_spare_72 : decode cX8_spare 72 = .ok (.invokevirtual 253, 3) := dq_182 dp_cX8_spare rfl
theorem dX8_spare_75 : decode cX8_spare 75 = .ok (.iastore, 1) := dq_79 dp_cX8_spare rfl
theorem dX8_spare_76 : decode cX8_spare 76 = .ok (.aload_n 0, 1) := dq_42 dp_cX8_spare rfl
theorem dX8_spare_77 : decode cX8_spare 77 = .ok (.getfield 84, 3) := dq_180 dp_cX8_spare rfl
theorem dX8_spare_80 : decode cX8_spare 80 = .ok (.iconst 1, 1) := dq_4 dp_cX8_spare rfl
theorem dX8_spare_81 : decode cX8_spare 81 = .ok (.aload_n 0, 1) := dq_42 dp_cX8_spare rfl
theorem dX8_spare_82 : decode cX8_spare 82 = .ok (.getfield 81, 3) := dq_180 dp_cX8_spare rfl
theorem dX8_spare_85 : decode cX8_spare 85 = .ok (.iconst 0, 1) := dq_3 dp_cX8_spare rfl
theorem dX8_spare_86 : decode cX8_spare 86 = .ok (.iaload, 1) := dq_46 dp_cX8_spare rfl
theorem dX8_spare_87 : decode cX8_spare 87 = .ok (.iload_n 2, 1) := dq_28 dp_cX8_spare rfl
theorem dX8_spare_88 : decode cX8_spare 88 = .ok (.iadd, 1) := dq_96 dp_cX8_spare rfl
theorem dX8_spare_89 : decode cX8_spare 89 = .ok (.iastore, 1) := dq_79 dp_cX8_spare rfl
theorem dX8_spare_90 : decode cX8_spare 90 = .ok (.aload_n 0, 1) := dq_42 dp_cX8_spare rfl
theorem dX8_spare_91 : decode cX8_spare 91 = .ok (.getfield 84, 3) := dq_180 dp_cX8_spare rfl
theorem dX8_spare_94 : decode cX8_spare 94 = .ok (.iconst 2, 1) := dq_5 dp_cX8_spare rfl
theorem dX8_spare_95 : decode cX8_spare 95 = .ok (.aload_n 0, 1) := dq_42 dp_cX8_spare rfl
theorem dX8_spare_96 : decode cX8_spare 96 = .ok (.getfield 81, 3) := dq_180 dp_cX8_spare rfl
theorem dX8_spare_99 : decode cX8_spare 99 = .ok (.iconst 1, 1) := dq_4 dp_cX8_spare rfl
theorem dX8_spare_100 : decode cX8_spare 100 = .ok (.iaload, 1) := dq_46 dp_cX8_spare rfl
theorem dX8_spare_101 : decode cX8_spare 101 = .ok (.iload_n 2, 1) := dq_28 dp_cX8_spare rfl
theorem dX8_spare_102 : decode cX8_spare 102 = .ok (.iadd, 1) := dq_96 dp_cX8_spare rfl
theorem dX8_spare_103 : decode cX8_spare 103 = .ok (.iastore, 1) := dq_79 dp_cX8_spare rfl
theorem dX8_spare_104 : decode cX8_spare 104 = .ok (.iconst 0, 1) := dq_3 dp_cX8_spare rfl
theorem dX8_spare_105 : decode cX8_spare 105 = .ok (.istore_n 3, 1) := dq_62 dp_cX8_spare rfl
theorem dX8_spare_106 : decode cX8_spare 106 = .ok (.iload_n 3, 1) := dq_29 dp_cX8_spare rfl
theorem dX8_spare_107 : decode cX8_spare 107 = .ok (.iconst 3, 1) := dq_6 dp_cX8_spare rfl
theorem dX8_spare_108 : decode cX8_spare 108 = .ok (.if_icmp .ge 21, 3) := dq_162 (v := 21) dp_cX8_spare rfl rfl
theorem dX8_spare_111 : decode cX8_spare 111 = .ok (.aload_n 0, 1) := dq_42 dp_cX8_spare rfl
theorem dX8_spare_112 : decode cX8_spare 112 = .ok (.getfield 81, 3) := dq_180 dp_cX8_spare rfl
theorem dX8_spare_115 : decode cX8_spare 115 = .ok (.iload_n 3, 1) := dq_29 dp_cX8_spare rfl
theorem dX8_spare_116 : decode cX8_spare 116 = .ok (.aload_n 0, 1) := dq_42 dp_cX8_spare rfl
theorem dX8_spare_117 : decode cX8_spare 117 = .ok (.getfield 84, 3) := dq_180 dp_cX8_spare rfl
theorem dX8_spare_120 : decode cX8_spare 120 = .ok (.iload_n 3, 1) := dq_29 dp_cX8_spare rfl
theorem dX8_spare_121 : decode cX8_spare 121 = .ok (.iaload, 1) := dq_46 dp_cX8_spare rfl
theorem dX8_spare_122 : decode cX8_spare 122 = .ok (.iastore, 1) := dq_79 dp_cX8_spare rfl
theorem dX8_spare_123 : decode cX8_spare 123 = .ok (.iinc 3 1, 3) := dq_132 (v := 1) dp_cX8_spare rfl (by decide) rfl
theorem dX8_spare_126 : decode cX8_spare 126 = .ok (.goto (-20), 3) := dq_167 (v := 65516) dp_cX8_spare rfl rfl
theorem dX8_spare_129 : decode cX8_spare 129 = .ok (.iinc 1 1, 3) := dq_132 (v := 1) dp_cX8_spare rfl (by decide) rfl
theorem dX8_spare_132 : decode cX8_spare 132 = .ok (.goto (-98), 3) := dq_167 (v := 65438) dp_cX8_spare rfl rfl
theorem dX8_spare_135 : decode cX8_spare 135 = .ok (.aload_n 0, 1) := dq_42 dp_cX8_spare rfl
theorem dX8_spare_136 : decode cX8_spare 136 = .ok (.invokevirtual 253, 3) := dq_182 dp_cX8_spare rfl
theorem dX8_spare_139 : decode cX8_spare 139 = .ok (.ireturn, 1) := dq_172 dp_cX8_spare rfl
theorem dX8_greatest_0 : decode cX8_greatest 0 = .ok (.aload_n 0, 1) := dq_42 dp_cX8_greatest rfl
theorem dX8_greatest_1 : decode cX8_greatest 1 = .ok (.getfield 81, 3) := dq_180 dp_cX8_greatest rfl
theorem dX8_greatest_4 : decode cX8_greatest 4 = .ok (.iconst 0, 1) := dq_3 dp_cX8_greatest rfl
theorem dX8_greatest_5 : decode cX8_greatest 5 = .ok (.iaload, 1) := dq_46 dp_cX8_greatest rfl
theorem dX8_greatest_6 : decode cX8_greatest 6 = .ok (.aload_n 0, 1) := dq_42 dp_cX8_greatest rfl
theorem dX8_greatest_7 : decode cX8_greatest 7 = .ok (.getfield 81, 3) := dq_180 dp_cX8_greatest rfl
theorem dX8_greatest_10 : decode cX8_greatest 10 = .ok (.iconst 1, 1) := dq_4 dp_cX8_greatest rfl
theorem dX8_greatest_11 : decode cX8_greatest 11 = .ok (.iaload, 1) := dq_46 dp_cX8_greatest rfl
theorem dX8_greatest_12 : decode cX8_greatest 12 = .ok (.if_icmp .le 12, 3) := dq_164 (v := 12) dp_cX8_greatest rfl rfl
theorem dX8_greatest_15 : decode cX8_greatest 15 = .ok (.aload_n 0, 1) := dq_42 dp_cX8_greatest rfl
theorem dX8_greatest_16 : decode cX8_greatest 16 = .ok (.getfield 81, 3) := dq_180 dp_cX8_greatest rfl
theorem dX8_greatest_19 : decode cX8_greatest 19 = .ok (.iconst 0, 1) := dq_3 dp_cX8_greatest rfl
theorem dX8_greatest_20 : decode cX8_greatest 20 = .ok (.iaload, 1) := dq_46 dp_cX8_greatest rfl
theorem dX8_greatest_21 : decode cX8_greatest 21 = .ok (.goto 9, 3) := dq_167 (v := 9) dp_cX8_greatest rfl rfl
theorem dX8_greatest_24 : decode cX8_greatest 24 = .ok (.aload_n 0, 1) := dq_42 dp_cX8_greatest rfl
theorem dX8_greatest_25 : decode cX8_greatest 25 = .ok (.getfield 81, 3) := dq_180 dp_cX8_greatest rfl
theorem dX8_greatest_28 : decode cX8_greatest 28 = .ok (.iconst 1, 1) := dq_4 dp_cX8_greatest rfl
theorem dX8_greatest_29 : decode cX8_greatest 29 = .ok (.iaload, 1) := dq_46 dp_cX8_greatest rfl
theorem dX8_greatest_30 : decode cX8_greatest 30 = .ok (.istore_n 1, 1) := dq_60 dp_cX8_greatest rfl
theorem dX8_greatest_31 : decode cX8_greatest 31 = .ok (.iload_n 1, 1) := dq_27 dp_cX8_greatest rfl
theorem dX8_greatest_32 : decode cX8_greatest 32 = .ok (.aload_n 0, 1) := dq_42 dp_cX8_greatest rfl
theorem dX8_greatest_33 : decode cX8_greatest 33 = .ok (.getfield 81, 3) := dq_180 dp_cX8_greatest rfl
theorem dX8_greatest_36 : decode cX8_greatest 36 = .ok (.iconst 2, 1) := dq_5 dp_cX8_greatest rfl
theorem dX8_greatest_37 : decode cX8_greatest 37 = .ok (.iaload, 1) := dq_46 dp_cX8_greatest rfl
theorem dX8_greatest_38 : decode cX8_greatest 38 = .ok (.if_icmp .le 7, 3) := dq_164 (v := 7) dp_cX8_greatest rfl rfl
theorem dX8_greatest_41 : decode cX8_greatest 41 = .ok (.iload_n 1, 1) := dq_27 dp_cX8_greatest rfl
theorem dX8_greatest_42 : decode cX8_greatest 42 = .ok (.goto 9, 3) := dq_167 (v := 9) dp_cX8_greatest rfl rfl
theorem dX8_greatest_45 : decode cX8_greatest 45 = .ok (.aload_n 0, 1) := dq_42 dp_cX8_greatest rfl
theorem dX8_greatest_46 : decode cX8_greatest 46 = .ok (.getfield 81, 3) := dq_180 dp_cX8_greatest rfl
theorem dX8_greatest_49 : decode cX8_greatest 49 = .ok (.iconst 2, 1) := dq_5 dp_cX8_greatest rfl
theorem dX8_greatest_50 : decode cX8_greatest 50 = .ok (.iaload, 1) := dq_46 dp_cX8_greatest rfl
theorem dX8_greatest_51 : decode cX8_greatest 51 = .ok (.ireturn, 1) := dq_172 dp_cX8_greatest rfl
theorem dX8_lacking_0 : decode cX8_lacking 0 = .ok (.iconst 0, 1) := dq_3 dp_cX8_lacking rfl
theorem dX8_lacking_1 : decode cX8_lacking 1 = .ok (.istore_n 1, 1) := dq_60 dp_cX8_lacking rfl
theorem dX8_lacking_2 : decode cX8_lacking 2 = .ok (.iconst 0, 1) := dq_3 dp_cX8_lacking rfl
theorem dX8_lacking_3 : decode cX8_lacking 3 = .ok (.istore_n 2, 1) := dq_61 dp_cX8_lacking rfl
theorem dX8_lacking_4 : decode cX8_lacking 4 = .ok (.iload_n 2, 1) := dq_28 dp_cX8_lacking rfl
theorem dX8_lacking_5 : decode cX8_lacking 5 = .ok (.aload_n 0, 1) := dq_42 dp_cX8_lacking rfl
theorem dX8_lacking_6 : decode cX8_lacking 6 = .ok (.getfield 7, 3) := dq_180 dp_cX8_lacking rfl
theorem dX8_lacking_9 : decode cX8_lacking 9 = .ok (.if_icmp .ge 18, 3) := dq_162 (v := 18) dp_cX8_lacking rfl rfl
theorem dX8_lacking_12 : decode cX8_lacking 12 = .ok (.iload_n 1, 1) := dq_27 dp_cX8_lacking rfl
theorem dX8_lacking_13 : decode cX8_lacking 13 = .ok (.aload_n 0, 1) := dq_42 dp_cX8_lacking rfl
theorem dX8_lacking_14 : decode cX8_lacking 14 = .ok (.getfield 38, 3) := dq_180 dp_cX8_lacking rfl
theorem dX8_lacking_17 : decode cX8_lacking 17 = .ok (.iload_n 2, 1) := dq_28 dp_cX8_lacking rfl
theorem dX8_lacking_18 : decode cX8_lacking 18 = .ok (.iaload, 1) := dq_46 dp_cX8_lacking rfl
theorem dX8_lacking_19 : decode cX8_lacking 19 = .ok (.iadd, 1) := dq_96 dp_cX8_lacking rfl
theorem dX8_lacking_20 : decode cX8_lacking 20 = .ok (.istore_n 1, 1) := dq_60 dp_cX8_lacking rfl
theorem dX8_lacking_21 : decode cX8_lacking 21 = .ok (.iinc 2 1, 3) := dq_132 (v := 1) dp_cX8_lacking rfl (by decide) rfl
theorem dX8_lacking_24 : decode cX8_lacking 24 = .ok (.goto (-20), 3) := dq_167 (v := 65516) dp_cX8_lacking rfl rfl
theorem dX8_lacking_27 : decode cX8_lacking 27 = .ok (.iload_n 1, 1) := dq_27 dp_cX8_lacking rfl
theorem dX8_lacking_28 : decode cX8_lacking 28 = .ok (.ireturn, 1) := dq_172 dp_cX8_lacking rfl
set_option maxRecDepth 20000 in
theorem gl_X8_strong_X80 : GoodIn wsX8_strong wsX80 := (dg_t (dg_r gw_wsX80))
theorem ggX8_strong_X8_doesHold : GoodIn wsX8_strong wsX8_doesHold := (dg_c 5 rfl rfl (dg_c 6 rfl rfl (dg_c 7 rfl rfl (dg_c 8 rfl rfl (dg_c 9 rfl rfl (dg_c 4 rfl rfl (dg_c 10 rfl rfl (dg_c 11 rfl rfl gl_X8_strong_X80))))))))
set_option maxRecDepth 20000 in
theorem gX8_strong_X8_doesHold : GoodIn wsX8_strong (wsV RX8 250 RX8 yX8_doesHold wsX8_doesHold) := goodIn_app (dg_c 1 rfl rfl (dg_c 2 rfl rfl (dg_c 3 rfl rfl (dg_c 4 rfl rfl dg_0)))) ggX8_strong_X8_doesHold
set_option maxRecDepth 20000 in
theorem ggX8_strong_X8_frail : GoodIn wsX8_strong wsX8_frail := (dg_c 15 rfl rfl (dg_c 6 rfl rfl (dg_c 11 rfl rfl (dg_c 1 rfl rfl (dg_c 2 rfl rfl (dg_c 3 rfl rfl (dg_c 4 rfl rfl (dg_c 5 rfl rfl (dg_c 7 rfl rfl (dg_c 8 rfl rfl (dg_c 9 rfl rfl (dg_c 10 rfl rfl gl_X8_strong_X80))))))))))))
set_option maxRecDepth 20000 in
theorem gX8_strong_X8_frail : GoodIn wsX8_strong (wsV RX8 256 RX8 yX8_frail wsX8_frail) := goodIn_app (dg_c 12 rfl rfl (dg_c 13 rfl rfl (dg_c 14 rfl rfl (dg_c 4 rfl rfl dg_0)))) ggX8_strong_X8_frail
set_option maxRecDepth 20000 in
theorem ggX8_strong_X8_spare : GoodIn wsX8_strong wsX8_spare := (dg_c 19 rfl rfl (dg_c 20 rfl rfl (dg_c 6 rfl rfl (dg_c 11 rfl rfl (dg_c 21 rfl rfl (dg_c 1 rfl rfl (dg_c 2 rfl rfl (dg_c 3 rfl rfl (dg_c 4 rfl rfl (dg_c 5 rfl rfl (dg_c 7 rfl rfl (dg_c 8 rfl rfl (dg_c 9 rfl rfl (dg_c 10 rfl rfl (dg_c 22 rfl rfl (dg_c 23 rfl rfl (dg_c 24 rfl rfl (dg_c 25 rfl rfl gl_X8_strong_X80))))))))))))))))))
set_option maxRecDepth 20000 in
theorem gX8_strong_X8_spare : GoodIn wsX8_strong (wsV RX8 259 RX8 yX8_spare wsX8_spare) := goodIn_app (dg_c 16 rfl rfl (dg_c 17 rfl rfl (dg_c 18 rfl rfl (dg_c 4 rfl rfl dg_0)))) ggX8_strong_X8_spare
set_option maxRecDepth 20000 in
theorem ggX8_strong_X8_lacking : GoodIn wsX8_strong wsX8_lacking := (dg_c 29 rfl rfl (dg_c 6 rfl rfl (dg_c 11 rfl rfl gl_X8_strong_X80)))
set_option maxRecDepth 20000 in
theorem gX8_strong_X8_lacking : GoodIn wsX8_strong (wsV RX8 262 RX8 yX8_lacking wsX8_lacking) := goodIn_app (dg_c 26 rfl rfl (dg_c 27 rfl rfl (dg_c 28 rfl rfl (dg_c 4 rfl rfl dg_0)))) ggX8_strong_X8_lacking
set_option maxRecDepth 20000 in
theorem ggX8_strong_X8_no : GoodIn wsX8_strong wsX8_no := (dg_c 33 rfl rfl (dg_c 34 rfl rfl gl_X8_strong_X80))
set_option maxRecDepth 20000 in
theorem gX8_strong_X8_no : GoodIn wsX8_strong (wsV RX8 97 RX8 yX8_no wsX8_no) := goodIn_app (dg_c 30 rfl rfl (dg_c 31 rfl rfl (dg_c 32 rfl rfl (dg_c 4 rfl rfl dg_0)))) ggX8_strong_X8_no
theorem dX8_strong_0 : decode cX8_strong 0 = .ok (.iload_n 1, 1) := dq_27 dp_cX8_strong rfl
theorem dX8_strong_1 : decode cX8_strong 1 = .ok (.tableswitch 59 0 3 #[31, 44, 49, 54], 31) := by decide +kernel
theorem dX8_strong_32 : decode cX8_strong 32 = .ok (.aload_n 0, 1) := dq_42 dp_cX8_strong rfl
theorem dX8_strong_33 : decode cX8_strong 33 = .ok (.invokevirtual 250, 3) := dq_182 dp_cX8_strong rfl
theorem dX8_strong_36 : decode cX8_strong 36 = .ok (.ifCond .eq 7, 3) := dq_153 (v := 7) dp_cX8_strong rfl rfl
theorem dX8_strong_39 : decode cX8_strong 39 = .ok (.iconst 1, 1) := dq_4 dp_cX8_strong rfl
theorem dX8_strong_40 : decode cX8_strong 40 = .ok (.goto 4, 3) := dq_167 (v := 4) dp_cX8_strong rfl rfl
theorem dX8_strong_43 : decode cX8_strong 43 = .ok (.iconst 0, 1) := dq_3 dp_cX8_strong rfl
theorem dX8_strong_44 : decode cX8_strong 44 = .ok (.ireturn, 1) := dq_172 dp_cX8_strong rfl
theorem dX8_strong_45 : decode cX8_strong 45 = .ok (.aload_n 0, 1) := dq_42 dp_cX8_strong rfl
theorem dX8_strong_46 : decode cX8_strong 46 = .ok (.invokevirtual 256, 3) := dq_182 dp_cX8_strong rfl
theorem dX8_strong_49 : decode cX8_strong 49 = .ok (.ireturn, 1) := dq_172 dp_cX8_strong rfl
theorem dX8_strong_50 : decode cX8_strong 50 = .ok (.aload_n 0, 1) := dq_42 dp_cX8_strong rfl
theorem dX8_strong_51 : decode cX8_strong 51 = .ok (.invokevirtual 259, 3) := dq_182 dp_cX8_strong rfl
theorem dX8_strong_54 : decode cX8_strong 54 = .ok (.ireturn, 1) := dq_172 dp_cX8_strong rfl
theorem dX8_strong_55 : decode cX8_strong 55 = .ok (.aload_n 0, 1) := dq_42 dp_cX8_strong rfl
theorem dX8_strong_56 : decode cX8_strong 56 = .ok (.invokevirtual 262, 3) := dq_182 dp_cX8_strong rfl
theorem dX8_strong_59 : decode cX8_strong 59 = .ok (.ireturn, 1) := dq_172 dp_cX8_strong rfl
theorem dX8_strong_60 : decode cX8_strong 60 = .ok (.aload_n 0, 1) := dq_42 dp_cX8_strong rfl
theorem dX8_strong_61 : decode cX8_strong 61 = .ok (.bipush (-5), 2) := dq_16 (v := 251) dp_cX8_strong rfl rfl
theorem dX8_strong_63 : decode cX8_strong 63 = .ok (.invokevirtual 97, 3) := dq_182 dp_cX8_strong rfl
theorem dX8_strong_66 : decode cX8_strong 66 = .ok (.ireturn, 1) := dq_172 dp_cX8_strong rfl
theorem dX8_doesCatch_0 : decode cX8_doesCatch 0 = .ok (.aload_n 0, 1) := dq_42 dp_cX8_doesCatch rfl
theorem dX8_doesCatch_1 : decode cX8_doesCatch 1 = .ok (.getfield 38, 3) := dq_180 dp_cX8_doesCatch rfl
theorem dX8_doesCatch_4 : decode cX8_doesCatch 4 = .ok (.iload_n 1, 1) := dq_27 dp_cX8_doesCatch rfl
theorem dX8_doesCatch_5 : decode cX8_doesCatch 5 = .ok (.iaload, 1) := dq_46 dp_cX8_doesCatch rfl
theorem dX8_doesCatch_6 : decode cX8_doesCatch 6 = .ok (.ifCond .ne 20, 3) := dq_154 (v := 20) dp_cX8_doesCatch rfl rfl
theorem dX8_doesCatch_9 : decode cX8_doesCatch 9 = .ok (.aload_n 0, 1) := dq_42 dp_cX8_doesCatch rfl
theorem dX8_doesCatch_10 : decode cX8_doesCatch 10 = .ok (.getfield 41, 3) := dq_180 dp_cX8_doesCatch rfl
theorem dX8_doesCatch_13 : decode cX8_doesCatch 13 = .ok (.iload_n 1, 1) := dq_27 dp_cX8_doesCatch rfl
theorem dX8_doesCatch_14 : decode cX8_doesCatch 14 = .ok (.iaload, 1) := dq_46 dp_cX8_doesCatch rfl
theorem dX8_doesCatch_15 : decode cX8_doesCatch 15 = .ok (.aload_n 0, 1) := dq_42 dp_cX8_doesCatch rfl
theorem dX8_doesCatch_16 : decode cX8_doesCatch 16 = .ok (.getfield 16, 3) := dq_180 dp_cX8_doesCatch rfl
theorem dX8_doesCatch_19 : decode cX8_doesCatch 19 = .ok (.if_icmp .lt 7, 3) := dq_161 (v := 7) dp_cX8_doesCatch rfl rfl
theorem dX8_doesCatch_22 : decode cX8_doesCatch 22 = .ok (.iconst 1, 1) := dq_4 dp_cX8_doesCatch rfl
theorem dX8_doesCatch_23 : decode cX8_doesCatch 23 = .ok (.goto 4, 3) := dq_167 (v := 4) dp_cX8_doesCatch rfl rfl
theorem dX8_doesCatch_26 : decode cX8_doesCatch 26 = .ok (.iconst 0, 1) := dq_3 dp_cX8_doesCatch rfl
theorem dX8_doesCatch_27 : decode cX8_doesCatch 27 = .ok (.ireturn, 1) := dq_172 dp_cX8_doesCatch rfl
set_option maxRecDepth 20000 in
theorem gl_X8_catches_X80 : GoodIn wsX8_catches wsX80 := (dg_t (dg_t (dg_t (dg_t (dg_t (dg_t (dg_t (dg_t (dg_t (dg_t (dg_t (dg_t (dg_t (dg_t (dg_t gw_wsX80)))))))))))))))
theorem ggX8_catches_X8_no : GoodIn wsX8_catches wsX8_no := (dg_c 6 rfl rfl (dg_c 7 rfl rfl gl_X8_catches_X80))
set_option maxRecDepth 20000 in
theorem gX8_catches_X8_no : GoodIn wsX8_catches (wsV RX8 97 RX8 yX8_no wsX8_no) := goodIn_app (dg_c 2 rfl rfl (dg_c 3 rfl rfl (dg_c 4 rfl rfl (dg_c 5 rfl rfl dg_0)))) ggX8_catches_X8_no
set_option maxRecDepth 20000 in
theorem ggX8_catches_X8_doesCatch : GoodIn wsX8_catches wsX8_doesCatch := (dg_c 11 rfl rfl (dg_c 12 rfl rfl (dg_c 13 rfl rfl (dg_c 14 rfl rfl gl_X8_catches_X80))))
set_option maxRecDepth 20000 in
theorem gX8_catches_X8_doesCatch : GoodIn wsX8_catches (wsV RX8 265 RX8 yX8_doesCatch wsX8_doesCatch) := goodIn_app (dg_c 8 rfl rfl (dg_c 9 rfl rfl (dg_c 10 rfl rfl (dg_c 5 rfl rfl dg_0)))) ggX8_catches_X8_doesCatch
theorem dX8_catches_0 : decode cX8_catches 0 = .ok (.iload_n 1, 1) := dq_27 dp_cX8_catches rfl
theorem dX8_catches_1 : decode cX8_catches 1 = .ok (.iconst (-1), 1) := dq_2 dp_cX8_catches rfl
theorem dX8_catches_2 : decode cX8_catches 2 = .ok (.if_icmp .ge 10, 3) := dq_162 (v := 10) dp_cX8_catches rfl rfl
theorem dX8_catches_5 : decode cX8_catches 5 = .ok (.aload_n 0, 1) := dq_42 dp_cX8_catches rfl
theorem dX8_catches_6 : decode cX8_catches 6 = .ok (.bipush (-5), 2) := dq_16 (v := 251) dp_cX8_catches rfl rfl
theorem dX8_catches_8 : decode cX8_catches 8 = .ok (.invokevirtual 97, 3) := dq_182 dp_cX8_catches rfl
theorem dX8_catches_11 : decode cX8_catches 11 = .ok (.ireturn, 1) := dq_172 dp_cX8_catches rfl
theorem dX8_catches_12 : decode cX8_catches 12 = .ok (.iconst 0, 1) := dq_3 dp_cX8_catches rfl
theorem dX8_catches_13 : decode cX8_catches 13 = .ok (.istore_n 2, 1) := dq_61 dp_cX8_catches rfl
theorem dX8_catches_14 : decode cX8_catches 14 = .ok (.iconst 0, 1) := dq_3 dp_cX8_catches rfl
theorem dX8_catches_15 : decode cX8_catches 15 = .ok (.istore_n 3, 1) := dq_62 dp_cX8_catches rfl
theorem dX8_catches_16 : decode cX8_catches 16 = .ok (.iload_n 3, 1) := dq_29 dp_cX8_catches rfl
theorem dX8_catches_17 : decode cX8_catches 17 = .ok (.aload_n 0, 1) := dq_42 dp_cX8_catches rfl
theorem dX8_catches_18 : decode cX8_catches 18 = .ok (.getfield 7, 3) := dq_180 dp_cX8_catches rfl
theorem dX8_catches_21 : decode cX8_catches 21 = .ok (.if_icmp .ge 30, 3) := dq_162 (v := 30) dp_cX8_catches rfl rfl
theorem dX8_catches_24 : decode cX8_catches 24 = .ok (.aload_n 0, 1) := dq_42 dp_cX8_catches rfl
theorem dX8_catches_25 : decode cX8_catches 25 = .ok (.iload_n 3, 1) := dq_29 dp_cX8_catches rfl
theorem dX8_catches_26 : decode cX8_catches 26 = .ok (.invokevirtual 265, 3) := dq_182 dp_cX8_catches rfl
theorem dX8_catches_29 : decode cX8_catches 29 = .ok (.ifCond .ne 6, 3) := dq_154 (v := 6) dp_cX8_catches rfl rfl
theorem dX8_catches_32 : decode cX8_catches 32 = .ok (.goto 13, 3) := dq_167 (v := 13) dp_cX8_catches rfl rfl
theorem dX8_catches_35 : decode cX8_catches 35 = .ok (.iload_n 2, 1) := dq_28 dp_cX8_catches rfl
theorem dX8_catches_36 : decode cX8_catches 36 = .ok (.iload_n 1, 1) := dq_27 dp_cX8_catches rfl
theorem dX8_catches_37 : decode cX8_catches 37 = .ok (.if_icmp .ne 5, 3) := dq_160 (v := 5) dp_cX8_catches rfl rfl
theorem dX8_catches_40 : decode cX8_catches 40 = .ok (.iload_n 3, 1) := dq_29 dp_cX8_catches rfl
theorem dX8_catches_41 : decode cX8_catches 41 = .ok (.ireturn, 1) := dq_172 dp_cX8_catches rfl
theorem dX8_catches_42 : decode cX8_catches 42 = .ok (.iinc 2 1, 3) := dq_132 (v := 1) dp_cX8_catches rfl (by decide) rfl
theorem dX8_catches_45 : decode cX8_catches 45 = .ok (.iinc 3 1, 3) := dq_132 (v := 1) dp_cX8_catches rfl (by decide) rfl
theorem dX8_catches_48 : decode cX8_catches 48 = .ok (.goto (-32), 3) := dq_167 (v := 65504) dp_cX8_catches rfl rfl
theorem dX8_catches_51 : decode cX8_catches 51 = .ok (.iload_n 1, 1) := dq_27 dp_cX8_catches rfl
theorem dX8_catches_52 : decode cX8_catches 52 = .ok (.iconst (-1), 1) := dq_2 dp_cX8_catches rfl
theorem dX8_catches_53 : decode cX8_catches 53 = .ok (.if_icmp .ne 7, 3) := dq_160 (v := 7) dp_cX8_catches rfl rfl
theorem dX8_catches_56 : decode cX8_catches 56 = .ok (.iload_n 2, 1) := dq_28 dp_cX8_catches rfl
theorem dX8_catches_57 : decode cX8_catches 57 = .ok (.goto 9, 3) := dq_167 (v := 9) dp_cX8_catches rfl rfl
theorem dX8_catches_60 : decode cX8_catches 60 = .ok (.aload_n 0, 1) := dq_42 dp_cX8_catches rfl
theorem dX8_catches_61 : decode cX8_catches 61 = .ok (.bipush (-5), 2) := dq_16 (v := 251) dp_cX8_catches rfl rfl
theorem dX8_catches_63 : decode cX8_catches 63 = .ok (.invokevirtual 97, 3) := dq_182 dp_cX8_catches rfl
theorem dX8_catches_66 : decode cX8_catches 66 = .ok (.ireturn, 1) := dq_172 dp_cX8_catches rfl
set_option maxRecDepth 20000 in
theorem gl_X8_stitches_X80 : GoodIn wsX8_stitches wsX80 := (dg_t (dg_t (dg_t (dg_t (dg_t (dg_t (dg_t (dg_t (dg_t (dg_t (dg_t (dg_t (dg_t (dg_t (dg_t gw_wsX80)))))))))))))))
theorem ggX8_stitches_X8_no : GoodIn wsX8_stitches wsX8_no := (dg_c 6 rfl rfl (dg_c 7 rfl rfl gl_X8_stitches_X80))
set_option maxRecDepth 20000 in
theorem gX8_stitches_X8_no : GoodIn wsX8_stitches (wsV RX8 97 RX8 yX8_no wsX8_no) := goodIn_app (dg_c 2 rfl rfl (dg_c 3 rfl rfl (dg_c 4 rfl rfl (dg_c 5 rfl rfl dg_0)))) ggX8_stitches_X8_no
set_option maxRecDepth 20000 in
theorem ggX8_stitches_X8_doesCatch : GoodIn wsX8_stitches wsX8_doesCatch := (dg_c 11 rfl rfl (dg_c 12 rfl rfl (dg_c 13 rfl rfl (dg_c 14 rfl rfl gl_X8_stitches_X80))))
set_option maxRecDepth 20000 in
theorem gX8_stitches_X8_doesCatch : GoodIn wsX8_stitches (wsV RX8 265 RX8 yX8_doesCatch wsX8_doesCatch) := goodIn_app (dg_c 8 rfl rfl (dg_c 9 rfl rfl (dg_c 10 rfl rfl (dg_c 5 rfl rfl dg_0)))) ggX8_stitches_X8_doesCatch
theorem dX8_stitches_0 : decode cX8_stitches 0 = .ok (.iload_n 1, 1) := dq_27 dp_cX8_stitches rfl
theorem dX8_stitches_1 : decode cX8_stitches 1 = .ok (.iconst (-1), 1) := dq_2 dp_cX8_stitches rfl
theorem dX8_stitches_2 : decode cX8_stitches 2 = .ok (.if_icmp .ge 10, 3) := dq_162 (v := 10) dp_cX8_stitches rfl rfl
theorem dX8_stitches_5 : decode cX8_stitches 5 = .ok (.aload_n 0, 1) := dq_42 dp_cX8_stitches rfl
theorem dX8_stitches_6 : decode cX8_stitches 6 = .ok (.bipush (-5), 2) := dq_16 (v := 251) dp_cX8_stitches rfl rfl
theorem dX8_stitches_8 : decode cX8_stitches 8 = .ok (.invokevirtual 97, 3) := dq_182 dp_cX8_stitches rfl
theorem dX8_stitches_11 : decode cX8_stitches 11 = .ok (.ireturn, 1) := dq_172 dp_cX8_stitches rfl
theorem dX8_stitches_12 : decode cX8_stitches 12 = .ok (.iconst 0, 1) := dq_3 dp_cX8_stitches rfl
theorem dX8_stitches_13 : decode cX8_stitches 13 = .ok (.istore_n 2, 1) := dq_61 dp_cX8_stitches rfl
theorem dX8_stitches_14 : decode cX8_stitches 14 = .ok (.iconst 0, 1) := dq_3 dp_cX8_stitches rfl
theorem dX8_stitches_15 : decode cX8_stitches 15 = .ok (.istore_n 3, 1) := dq_62 dp_cX8_stitches rfl
theorem dX8_stitches_16 : decode cX8_stitches 16 = .ok (.iload_n 3, 1) := dq_29 dp_cX8_stitches rfl
theorem dX8_stitches_17 : decode cX8_stitches 17 = .ok (.aload_n 0, 1) := dq_42 dp_cX8_stitches rfl
theorem dX8_stitches_18 : decode cX8_stitches 18 = .ok (.getfield 7, 3) := dq_180 dp_cX8_stitches rfl
theorem dX8_stitches_21 : decode cX8_stitches 21 = .ok (.if_icmp .ge 54, 3) := dq_162 (v := 54) dp_cX8_stitches rfl rfl
theorem dX8_stitches_24 : decode cX8_stitches 24 = .ok (.aload_n 0, 1) := dq_42 dp_cX8_stitches rfl
theorem dX8_stitches_25 : decode cX8_stitches 25 = .ok (.iload_n 3, 1) := dq_29 dp_cX8_stitches rfl
theorem dX8_stitches_26 : decode cX8_stitches 26 = .ok (.invokevirtual 265, 3) := dq_182 dp_cX8_stitches rfl
theorem dX8_stitches_29 : decode cX8_stitches 29 = .ok (.ifCond .ne 6, 3) := dq_154 (v := 6) dp_cX8_stitches rfl rfl
theorem dX8_stitches_32 : decode cX8_stitches 32 = .ok (.goto 37, 3) := dq_167 (v := 37) dp_cX8_stitches rfl rfl
theorem dX8_stitches_35 : decode cX8_stitches 35 = .ok (.iload_n 2, 1) := dq_28 dp_cX8_stitches rfl
theorem dX8_stitches_36 : decode cX8_stitches 36 = .ok (.iload_n 1, 1) := dq_27 dp_cX8_stitches rfl
theorem dX8_stitches_37 : decode cX8_stitches 37 = .ok (.if_icmp .ne 26, 3) := dq_160 (v := 26) dp_cX8_stitches rfl rfl
theorem dX8_stitches_40 : decode cX8_stitches 40 = .ok (.iload_n 3, 1) := dq_29 dp_cX8_stitches rfl
theorem dX8_stitches_41 : decode cX8_stitches 41 = .ok (.iconst 2, 1) := dq_5 dp_cX8_stitches rfl
theorem dX8_stitches_42 : decode cX8_stitches 42 = .ok (.iadd, 1) := dq_96 dp_cX8_stitches rfl
theorem dX8_stitches_43 : decode cX8_stitches 43 = .ok (.aload_n 0, 1) := dq_42 dp_cX8_stitches rfl
theorem dX8_stitches_44 : decode cX8_stitches 44 = .ok (.getfield 7, 3) := dq_180 dp_cX8_stitches rfl
theorem dX8_stitches_47 : decode cX8_stitches 47 = .ok (.if_icmp .ge 9, 3) := dq_162 (v := 9) dp_cX8_stitches rfl rfl
theorem dX8_stitches_50 : decode cX8_stitches 50 = .ok (.iload_n 3, 1) := dq_29 dp_cX8_stitches rfl
theorem dX8_stitches_51 : decode cX8_stitches 51 = .ok (.iconst 2, 1) := dq_5 dp_cX8_stitches rfl
theorem dX8_stitches_52 : decode cX8_stitches 52 = .ok (.iadd, 1) := dq_96 dp_cX8_stitches rfl
theorem dX8_stitches_53 : decode cX8_stitches 53 = .ok (.goto 9, 3) := dq_167 (v := 9) dp_cX8_stitches rfl rfl
theorem dX8_stitches_56 : decode cX8_stitches 56 = .ok (.aload_n 0, 1) := dq_42 dp_cX8_stitches rfl
theorem dX8_stitches_57 : decode cX8_stitches 57 = .ok (.getfield 7, 3) := dq_180 dp_cX8_stitches rfl
theorem dX8_stitches_60 : decode cX8_stitches 60 = .ok (.iconst 1, 1) := dq_4 dp_cX8_stitches rfl
theorem dX8_stitches_61 : decode cX8_stitches 61 = .ok (.isub, 1) := dq_100 dp_cX8_stitches rfl
theorem dX8_stitches_62 : decode cX8_stitches 62 = .ok (.ireturn, 1) := dq_172 dp_cX8_stitches rfl
theorem dX8_stitches_63 : decode cX8_stitches 63 = .ok (.iinc 2 1, 3) := dq_132 (v := 1) dp_cX8_stitches rfl (by decide) rfl
theorem dX8_stitches_66 : decode cX8_stitches 66 = .ok (.iinc 3 4, 3) := dq_132 (v := 4) dp_cX8_stitches rfl (by decide) rfl
theorem dX8_stitches_69 : decode cX8_stitches 69 = .ok (.iinc 3 1, 3) := dq_132 (v := 1) dp_cX8_stitches rfl (by decide) rfl
theorem dX8_stitches_72 : decode cX8_stitches 72 = .ok (.goto (-56), 3) := dq_167 (v := 65480) dp_cX8_stitches rfl rfl
theorem dX8_stitches_75 : decode cX8_stitches 75 = .ok (.iload_n 1, 1) := dq_27 dp_cX8_stitches rfl
theorem dX8_stitches_76 : decode cX8_stitches 76 = .ok (.iconst (-1), 1) := dq_2 dp_cX8_stitches rfl
theorem dX8_stitches_77 : decode cX8_stitches 77 = .ok (.if_icmp .ne 7, 3) := dq_160 (v := 7) dp_cX8_stitches rfl rfl
theorem dX8_stitches_80 : decode cX8_stitches 80 = .ok (.iload_n 2, 1) := dq_28 dp_cX8_stitches rfl
theorem dX8_stitches_81 : decode cX8_stitches 81 = .ok (.goto 9, 3) := dq_167 (v := 9) dp_cX8_stitches rfl rfl
theorem dX8_stitches_84 : decode cX8_stitches 84 = .ok (.aload_n 0, 1) := dq_42 dp_cX8_stitches rfl
theorem dX8_stitches_85 : decode cX8_stitches 85 = .ok (.bipush (-5), 2) := dq_16 (v := 251) dp_cX8_stitches rfl rfl
theorem dX8_stitches_87 : decode cX8_stitches 87 = .ok (.invokevirtual 97, 3) := dq_182 dp_cX8_stitches rfl
theorem dX8_stitches_90 : decode cX8_stitches 90 = .ok (.ireturn, 1) := dq_172 dp_cX8_stitches rfl
set_option maxRecDepth 20000 in
theorem gl_X8_judge_X80 : GoodIn wsX8_judge wsX80 := (dg_t (dg_r gw_wsX80))
theorem ggX8_judge_X8_wanted : GoodIn wsX8_judge wsX8_wanted := (dg_c 9 rfl rfl (dg_c 10 rfl rfl (dg_c 11 rfl rfl (dg_c 12 rfl rfl (dg_c 13 rfl rfl (dg_c 8 rfl rfl (dg_c 14 rfl rfl gl_X8_judge_X80)))))))
set_option maxRecDepth 20000 in
theorem gX8_judge_X8_wanted : GoodIn wsX8_judge (wsV RX8 191 RX8 yX8_wanted wsX8_wanted) := goodIn_app (dg_c 5 rfl rfl (dg_c 6 rfl rfl (dg_c 7 rfl rfl (dg_c 8 rfl rfl dg_0)))) ggX8_judge_X8_wanted
set_option maxRecDepth 20000 in
theorem ggX8_judge_X8_noTen : GoodIn wsX8_judge wsX8_noTen := (dg_c 18 rfl rfl (dg_c 19 rfl rfl gl_X8_judge_X80))
set_option maxRecDepth 20000 in
theorem gX8_judge_X8_noTen : GoodIn wsX8_judge (wsV RX8 216 RX8 yX8_noTen wsX8_noTen) := goodIn_app (dg_c 15 rfl rfl (dg_c 16 rfl rfl (dg_c 17 rfl rfl (dg_c 8 rfl rfl dg_0)))) ggX8_judge_X8_noTen
set_option maxRecDepth 20000 in
theorem ggX8_judge_X8_intAt : GoodIn wsX8_judge wsX8_intAt := (dg_c 23 rfl rfl (dg_c 24 rfl rfl gl_X8_judge_X80))
set_option maxRecDepth 20000 in
theorem gX8_judge_X8_intAt : GoodIn wsX8_judge (wsV RX8 238 RX8 yX8_intAt wsX8_intAt) := goodIn_app (dg_c 20 rfl rfl (dg_c 21 rfl rfl (dg_c 22 rfl rfl (dg_c 8 rfl rfl dg_0)))) ggX8_judge_X8_intAt
set_option maxRecDepth 20000 in
theorem ggX8_judge_X8_isPull : GoodIn wsX8_judge wsX8_isPull := (dg_c 28 rfl rfl (dg_c 29 rfl rfl gl_X8_judge_X80))
set_option maxRecDepth 20000 in
theorem gX8_judge_X8_isPull : GoodIn wsX8_judge (wsV RX8 101 RX8 yX8_isPull wsX8_isPull) := goodIn_app (dg_c 25 rfl rfl (dg_c 26 rfl rfl (dg_c 27 rfl rfl (dg_c 8 rfl rfl dg_0)))) ggX8_judge_X8_isPull
set_option maxRecDepth 20000 in
theorem ggX8_judge_X8_mayBe : GoodIn wsX8_judge wsX8_mayBe := (dg_c 33 rfl rfl (dg_c 4 rfl rfl gl_X8_judge_X80))
set_option maxRecDepth 20000 in
theorem gX8_judge_X8_mayBe : GoodIn wsX8_judge (wsV RX8 118 RX8 yX8_mayBe wsX8_mayBe) := goodIn_app (dg_c 30 rfl rfl (dg_c 31 rfl rfl (dg_c 32 rfl rfl (dg_c 8 rfl rfl dg_0)))) ggX8_judge_X8_mayBe
set_option maxRecDepth 20000 in
theorem ggX8_judge_X8_ways : GoodIn wsX8_judge wsX8_ways := (dg_c 37 rfl rfl (dg_c 38 rfl rfl (dg_c 39 rfl rfl (dg_c 40 rfl rfl gl_X8_judge_X80))))
set_option maxRecDepth 20000 in
theorem gX8_judge_X8_ways : GoodIn wsX8_judge (wsV RX8 107 RX8 yX8_ways wsX8_ways) := goodIn_app (dg_c 34 rfl rfl (dg_c 35 rfl rfl (dg_c 36 rfl rfl (dg_c 8 rfl rfl dg_0)))) ggX8_judge_X8_ways
set_option maxRecDepth 20000 in
theorem ggX8_judge_X8_deep : GoodIn wsX8_judge wsX8_deep := (dg_c 44 rfl rfl (dg_c 38 rfl rfl (dg_c 39 rfl rfl (dg_c 40 rfl rfl (dg_c 45 rfl rfl (dg_c 46 rfl rfl (dg_c 47 rfl rfl (dg_c 8 rfl rfl (dg_c 48 rfl rfl gl_X8_judge_X80)))))))))
set_option maxRecDepth 20000 in
theorem gX8_judge_X8_deep : GoodIn wsX8_judge (wsV RX8 201 RX8 yX8_deep wsX8_deep) := goodIn_app (dg_c 41 rfl rfl (dg_c 42 rfl rfl (dg_c 43 rfl rfl (dg_c 8 rfl rfl dg_0)))) ggX8_judge_X8_deep
theorem dX8_judge_0 : decode cX8_judge 0 = .ok (.aload_n 0, 1) := dq_42 dp_cX8_judge rfl
theorem dX8_judge_1 : decode cX8_judge 1 = .ok (.iload_n 1, 1) := dq_27 dp_cX8_judge rfl
theorem dX8_judge_2 : decode cX8_judge 2 = .ok (.invokevirtual 191, 3) := dq_182 dp_cX8_judge rfl
theorem dX8_judge_5 : decode cX8_judge 5 = .ok (.istore_n 3, 1) := dq_62 dp_cX8_judge rfl
theorem dX8_judge_6 : decode cX8_judge 6 = .ok (.iload_n 3, 1) := dq_29 dp_cX8_judge rfl
theorem dX8_judge_7 : decode cX8_judge 7 = .ok (.ifCond .ne 40, 3) := dq_154 (v := 40) dp_cX8_judge rfl rfl
theorem dX8_judge_10 : decode cX8_judge 10 = .ok (.iload_n 2, 1) := dq_28 dp_cX8_judge rfl
theorem dX8_judge_11 : decode cX8_judge 11 = .ok (.ifCond .ge 8, 3) := dq_156 (v := 8) dp_cX8_judge rfl rfl
theorem dX8_judge_14 : decode cX8_judge 14 = .ok (.bipush (-4), 2) := dq_16 (v := 252) dp_cX8_judge rfl rfl
theorem dX8_judge_16 : decode cX8_judge 16 = .ok (.goto 30, 3) := dq_167 (v := 30) dp_cX8_judge rfl rfl
theorem dX8_judge_19 : decode cX8_judge 19 = .ok (.iload_n 2, 1) := dq_28 dp_cX8_judge rfl
theorem dX8_judge_20 : decode cX8_judge 20 = .ok (.aload_n 0, 1) := dq_42 dp_cX8_judge rfl
theorem dX8_judge_21 : decode cX8_judge 21 = .ok (.getfield 53, 3) := dq_180 dp_cX8_judge rfl
theorem dX8_judge_24 : decode cX8_judge 24 = .ok (.iload_n 1, 1) := dq_27 dp_cX8_judge rfl
theorem dX8_judge_25 : decode cX8_judge 25 = .ok (.iaload, 1) := dq_46 dp_cX8_judge rfl
theorem dX8_judge_26 : decode cX8_judge 26 = .ok (.if_icmp .le 8, 3) := dq_164 (v := 8) dp_cX8_judge rfl rfl
theorem dX8_judge_29 : decode cX8_judge 29 = .ok (.bipush (-5), 2) := dq_16 (v := 251) dp_cX8_judge rfl rfl
theorem dX8_judge_31 : decode cX8_judge 31 = .ok (.goto 15, 3) := dq_167 (v := 15) dp_cX8_judge rfl rfl
theorem dX8_judge_34 : decode cX8_judge 34 = .ok (.iload_n 2, 1) := dq_28 dp_cX8_judge rfl
theorem dX8_judge_35 : decode cX8_judge 35 = .ok (.bipush 20, 2) := dq_16 (v := 20) dp_cX8_judge rfl rfl
theorem dX8_judge_37 : decode cX8_judge 37 = .ok (.if_icmp .le 8, 3) := dq_164 (v := 8) dp_cX8_judge rfl rfl
theorem dX8_judge_40 : decode cX8_judge 40 = .ok (.bipush (-6), 2) := dq_16 (v := 250) dp_cX8_judge rfl rfl
theorem dX8_judge_42 : decode cX8_judge 42 = .ok (.goto 4, 3) := dq_167 (v := 4) dp_cX8_judge rfl rfl
theorem dX8_judge_45 : decode cX8_judge 45 = .ok (.iconst 0, 1) := dq_3 dp_cX8_judge rfl
theorem dX8_judge_46 : decode cX8_judge 46 = .ok (.istore_n 3, 1) := dq_62 dp_cX8_judge rfl
theorem dX8_judge_47 : decode cX8_judge 47 = .ok (.iload_n 3, 1) := dq_29 dp_cX8_judge rfl
theorem dX8_judge_48 : decode cX8_judge 48 = .ok (.ifCond .eq 9, 3) := dq_153 (v := 9) dp_cX8_judge rfl rfl
theorem dX8_judge_51 : decode cX8_judge 51 = .ok (.aload_n 0, 1) := dq_42 dp_cX8_judge rfl
theorem dX8_judge_52 : decode cX8_judge 52 = .ok (.iload_n 3, 1) := dq_29 dp_cX8_judge rfl
theorem dX8_judge_53 : decode cX8_judge 53 = .ok (.invokevirtual 216, 3) := dq_182 dp_cX8_judge rfl
theorem dX8_judge_56 : decode cX8_judge 56 = .ok (.ireturn, 1) := dq_172 dp_cX8_judge rfl
theorem dX8_judge_57 : decode cX8_judge 57 = .ok (.aload_n 0, 1) := dq_42 dp_cX8_judge rfl
theorem dX8_judge_58 : decode cX8_judge 58 = .ok (.getfield 115, 3) := dq_180 dp_cX8_judge rfl
theorem dX8_judge_61 : decode cX8_judge 61 = .ok (.istore 4, 2) := dq_54 dp_cX8_judge rfl
theorem dX8_judge_63 : decode cX8_judge 63 = .ok (.aload_n 0, 1) := dq_42 dp_cX8_judge rfl
theorem dX8_judge_64 : decode cX8_judge 64 = .ok (.getfield 13, 3) := dq_180 dp_cX8_judge rfl
theorem dX8_judge_67 : decode cX8_judge 67 = .ok (.istore 5, 2) := dq_54 dp_cX8_judge rfl
theorem dX8_judge_69 : decode cX8_judge 69 = .ok (.iconst 0, 1) := dq_3 dp_cX8_judge rfl
theorem dX8_judge_70 : decode cX8_judge 70 = .ok (.istore 6, 2) := dq_54 dp_cX8_judge rfl
theorem dX8_judge_72 : decode cX8_judge 72 = .ok (.iload 6, 2) := dq_21 dp_cX8_judge rfl
theorem dX8_judge_74 : decode cX8_judge 74 = .ok (.iload_n 2, 1) := dq_28 dp_cX8_judge rfl
theorem dX8_judge_75 : decode cX8_judge 75 = .ok (.if_icmp .ge 83, 3) := dq_162 (v := 83) dp_cX8_judge rfl rfl
theorem dX8_judge_78 : decode cX8_judge 78 = .ok (.aload_n 0, 1) := dq_42 dp_cX8_judge rfl
theorem dX8_judge_79 : decode cX8_judge 79 = .ok (.iload_n 1, 1) := dq_27 dp_cX8_judge rfl
theorem dX8_judge_80 : decode cX8_judge 80 = .ok (.iload 6, 2) := dq_21 dp_cX8_judge rfl
theorem dX8_judge_82 : decode cX8_judge 82 = .ok (.invokevirtual 238, 3) := dq_182 dp_cX8_judge rfl
theorem dX8_judge_85 : decode cX8_judge 85 = .ok (.istore 7, 2) := dq_54 dp_cX8_judge rfl
theorem dX8_judge_87 : decode cX8_judge 87 = .ok (.aload_n 0, 1) := dq_42 dp_cX8_judge rfl
theorem dX8_judge_88 : decode cX8_judge 88 = .ok (.iload 7, 2) := dq_21 dp_cX8_judge rfl
theorem dX8_judge_90 : decode cX8_judge 90 = .ok (.invokevirtual 101, 3) := dq_182 dp_cX8_judge rfl
theorem dX8_judge_93 : decode cX8_judge 93 = .ok (.ifCond .eq 16, 3) := dq_153 (v := 16) dp_cX8_judge rfl rfl
theorem dX8_judge_96 : decode cX8_judge 96 = .ok (.aload_n 0, 1) := dq_42 dp_cX8_judge rfl
theorem dX8_judge_97 : decode cX8_judge 97 = .ok (.iload 7, 2) := dq_21 dp_cX8_judge rfl
theorem dX8_judge_99 : decode cX8_judge 99 = .ok (.iload 4, 2) := dq_21 dp_cX8_judge rfl
theorem dX8_judge_101 : decode cX8_judge 101 = .ok (.iload 5, 2) := dq_21 dp_cX8_judge rfl
theorem dX8_judge_103 : decode cX8_judge 103 = .ok (.invokevirtual 118, 3) := dq_182 dp_cX8_judge rfl
theorem dX8_judge_106 : decode cX8_judge 106 = .ok (.ifCond .ne 6, 3) := dq_154 (v := 6) dp_cX8_judge rfl rfl
theorem dX8_judge_109 : decode cX8_judge 109 = .ok (.iload 6, 2) := dq_21 dp_cX8_judge rfl
theorem dX8_judge_111 : decode cX8_judge 111 = .ok (.ireturn, 1) := dq_172 dp_cX8_judge rfl
theorem dX8_judge_112 : decode cX8_judge 112 = .ok (.aload_n 0, 1) := dq_42 dp_cX8_judge rfl
theorem dX8_judge_113 : decode cX8_judge 113 = .ok (.iload 7, 2) := dq_21 dp_cX8_judge rfl
theorem dX8_judge_115 : decode cX8_judge 115 = .ok (.iload 4, 2) := dq_21 dp_cX8_judge rfl
theorem dX8_judge_117 : decode cX8_judge 117 = .ok (.aload_n 0, 1) := dq_42 dp_cX8_judge rfl
theorem dX8_judge_118 : decode cX8_judge 118 = .ok (.iload 7, 2) := dq_21 dp_cX8_judge rfl
theorem dX8_judge_120 : decode cX8_judge 120 = .ok (.iload 4, 2) := dq_21 dp_cX8_judge rfl
theorem dX8_judge_122 : decode cX8_judge 122 = .ok (.invokevirtual 107, 3) := dq_182 dp_cX8_judge rfl
theorem dX8_judge_125 : decode cX8_judge 125 = .ok (.bipush 6, 2) := dq_16 (v := 6) dp_cX8_judge rfl rfl
theorem dX8_judge_127 : decode cX8_judge 127 = .ok (.if_icmp .lt 7, 3) := dq_161 (v := 7) dp_cX8_judge rfl rfl
theorem dX8_judge_130 : decode cX8_judge 130 = .ok (.iconst 1, 1) := dq_4 dp_cX8_judge rfl
theorem dX8_judge_131 : decode cX8_judge 131 = .ok (.goto 4, 3) := dq_167 (v := 4) dp_cX8_judge rfl rfl
theorem dX8_judge_134 : decode cX8_judge 134 = .ok (.iconst 0, 1) := dq_3 dp_cX8_judge rfl
theorem dX8_judge_135 : decode cX8_judge 135 = .ok (.invokevirtual 201, 3) := dq_182 dp_cX8_judge rfl
theorem dX8_judge_138 : decode cX8_judge 138 = .ok (.istore 4, 2) := dq_54 dp_cX8_judge rfl
theorem dX8_judge_140 : decode cX8_judge 140 = .ok (.iload 5, 2) := dq_21 dp_cX8_judge rfl
theorem dX8_judge_142 : decode cX8_judge 142 = .ok (.aload_n 0, 1) := dq_42 dp_cX8_judge rfl
theorem dX8_judge_143 : decode cX8_judge 143 = .ok (.getfield 35, 3) := dq_180 dp_cX8_judge rfl
theorem dX8_judge_146 : decode cX8_judge 146 = .ok (.iload 7, 2) := dq_21 dp_cX8_judge rfl
theorem dX8_judge_148 : decode cX8_judge 148 = .ok (.iaload, 1) := dq_46 dp_cX8_judge rfl
theorem dX8_judge_149 : decode cX8_judge 149 = .ok (.isub, 1) := dq_100 dp_cX8_judge rfl
theorem dX8_judge_150 : decode cX8_judge 150 = .ok (.istore 5, 2) := dq_54 dp_cX8_judge rfl
theorem dX8_judge_152 : decode cX8_judge 152 = .ok (.iinc 6 1, 3) := dq_132 (v := 1) dp_cX8_judge rfl (by decide) rfl
theorem dX8_judge_155 : decode cX8_judge 155 = .ok (.goto (-83), 3) := dq_167 (v := 65453) dp_cX8_judge rfl rfl
theorem dX8_judge_158 : decode cX8_judge 158 = .ok (.iconst (-1), 1) := dq_2 dp_cX8_judge rfl
theorem dX8_judge_159 : decode cX8_judge 159 = .ok (.ireturn, 1) := dq_172 dp_cX8_judge rfl
set_option maxRecDepth 20000 in
theorem gl_X8_mayMake_X80 : GoodIn wsX8_mayMake wsX80 := (dg_t (dg_t (dg_t (dg_t (dg_t (dg_t (dg_t (dg_t (dg_t (dg_t (dg_t (dg_t (dg_t (dg_t (dg_t (dg_t (dg_t gw_wsX80)))))))))))))))))
theorem ggX8_mayMake_X8_ways : GoodIn wsX8_mayMake wsX8_ways := (dg_c 5 rfl rfl (dg_c 6 rfl rfl (dg_c 7 rfl rfl (dg_c 8 rfl rfl gl_X8_mayMake_X80))))
set_option maxRecDepth 20000 in
theorem gX8_mayMake_X8_ways : GoodIn wsX8_mayMake (wsV RX8 107 RX8 yX8_ways wsX8_ways) := goodIn_app (dg_c 1 rfl rfl (dg_c 2 rfl rfl (dg_c 3 rfl rfl (dg_c 4 rfl rfl dg_0)))) ggX8_mayMake_X8_ways
set_option maxRecDepth 20000 in
theorem ggX8_mayMake_X8_deep : GoodIn wsX8_mayMake wsX8_deep := (dg_c 12 rfl rfl (dg_c 6 rfl rfl (dg_c 7 rfl rfl (dg_c 8 rfl rfl (dg_c 13 rfl rfl (dg_c 14 rfl rfl (dg_c 15 rfl rfl (dg_c 4 rfl rfl (dg_c 16 rfl rfl gl_X8_mayMake_X80)))))))))
set_option maxRecDepth 20000 in
theorem gX8_mayMake_X8_deep : GoodIn wsX8_mayMake (wsV RX8 201 RX8 yX8_deep wsX8_deep) := goodIn_app (dg_c 9 rfl rfl (dg_c 10 rfl rfl (dg_c 11 rfl rfl (dg_c 4 rfl rfl dg_0)))) ggX8_mayMake_X8_deep
theorem dX8_mayMake_0 : decode cX8_mayMake 0 = .ok (.iload_n 2, 1) := dq_28 dp_cX8_mayMake rfl
theorem dX8_mayMake_1 : decode cX8_mayMake 1 = .ok (.ifCond .ne 5, 3) := dq_154 (v := 5) dp_cX8_mayMake rfl rfl
theorem dX8_mayMake_4 : decode cX8_mayMake 4 = .ok (.iconst 0, 1) := dq_3 dp_cX8_mayMake rfl
theorem dX8_mayMake_5 : decode cX8_mayMake 5 = .ok (.ireturn, 1) := dq_172 dp_cX8_mayMake rfl
theorem dX8_mayMake_6 : decode cX8_mayMake 6 = .ok (.aload_n 0, 1) := dq_42 dp_cX8_mayMake rfl
theorem dX8_mayMake_7 : decode cX8_mayMake 7 = .ok (.iload_n 1, 1) := dq_27 dp_cX8_mayMake rfl
theorem dX8_mayMake_8 : decode cX8_mayMake 8 = .ok (.iload_n 2, 1) := dq_28 dp_cX8_mayMake rfl
theorem dX8_mayMake_9 : decode cX8_mayMake 9 = .ok (.invokevirtual 107, 3) := dq_182 dp_cX8_mayMake rfl
theorem dX8_mayMake_12 : decode cX8_mayMake 12 = .ok (.istore 4, 2) := dq_54 dp_cX8_mayMake rfl
theorem dX8_mayMake_14 : decode cX8_mayMake 14 = .ok (.iload 4, 2) := dq_21 dp_cX8_mayMake rfl
theorem dX8_mayMake_16 : decode cX8_mayMake 16 = .ok (.ifCond .le 14, 3) := dq_158 (v := 14) dp_cX8_mayMake rfl rfl
theorem dX8_mayMake_19 : decode cX8_mayMake 19 = .ok (.aload_n 0, 1) := dq_42 dp_cX8_mayMake rfl
theorem dX8_mayMake_20 : decode cX8_mayMake 20 = .ok (.iload_n 1, 1) := dq_27 dp_cX8_mayMake rfl
theorem dX8_mayMake_21 : decode cX8_mayMake 21 = .ok (.iload_n 2, 1) := dq_28 dp_cX8_mayMake rfl
theorem dX8_mayMake_22 : decode cX8_mayMake 22 = .ok (.iconst 1, 1) := dq_4 dp_cX8_mayMake rfl
theorem dX8_mayMake_23 : decode cX8_mayMake 23 = .ok (.invokevirtual 201, 3) := dq_182 dp_cX8_mayMake rfl
theorem dX8_mayMake_26 : decode cX8_mayMake 26 = .ok (.iload_n 3, 1) := dq_29 dp_cX8_mayMake rfl
theorem dX8_mayMake_27 : decode cX8_mayMake 27 = .ok (.if_icmp .eq 21, 3) := dq_159 (v := 21) dp_cX8_mayMake rfl rfl
theorem dX8_mayMake_30 : decode cX8_mayMake 30 = .ok (.iload 4, 2) := dq_21 dp_cX8_mayMake rfl
theorem dX8_mayMake_32 : decode cX8_mayMake 32 = .ok (.bipush 12, 2) := dq_16 (v := 12) dp_cX8_mayMake rfl rfl
theorem dX8_mayMake_34 : decode cX8_mayMake 34 = .ok (.if_icmp .ge 18, 3) := dq_162 (v := 18) dp_cX8_mayMake rfl rfl
theorem dX8_mayMake_37 : decode cX8_mayMake 37 = .ok (.aload_n 0, 1) := dq_42 dp_cX8_mayMake rfl
theorem dX8_mayMake_38 : decode cX8_mayMake 38 = .ok (.iload_n 1, 1) := dq_27 dp_cX8_mayMake rfl
theorem dX8_mayMake_39 : decode cX8_mayMake 39 = .ok (.iload_n 2, 1) := dq_28 dp_cX8_mayMake rfl
theorem dX8_mayMake_40 : decode cX8_mayMake 40 = .ok (.iconst 0, 1) := dq_3 dp_cX8_mayMake rfl
theorem dX8_mayMake_41 : decode cX8_mayMake 41 = .ok (.invokevirtual 201, 3) := dq_182 dp_cX8_mayMake rfl
theorem dX8_mayMake_44 : decode cX8_mayMake 44 = .ok (.iload_n 3, 1) := dq_29 dp_cX8_mayMake rfl
theorem dX8_mayMake_45 : decode cX8_mayMake 45 = .ok (.if_icmp .ne 7, 3) := dq_160 (v := 7) dp_cX8_mayMake rfl rfl
theorem dX8_mayMake_48 : decode cX8_mayMake 48 = .ok (.iconst 1, 1) := dq_4 dp_cX8_mayMake rfl
theorem dX8_mayMake_49 : decode cX8_mayMake 49 = .ok (.goto 4, 3) := dq_167 (v := 4) dp_cX8_mayMake rfl rfl
theorem dX8_mayMake_52 : decode cX8_mayMake 52 = .ok (.iconst 0, 1) := dq_3 dp_cX8_mayMake rfl
theorem dX8_mayMake_53 : decode cX8_mayMake 53 = .ok (.ireturn, 1) := dq_172 dp_cX8_mayMake rfl
set_option maxRecDepth 20000 in
theorem gl_X8_meant_X80 : GoodIn wsX8_meant wsX80 := (dg_t (dg_r gw_wsX80))
theorem ggX8_meant_X8_wanted : GoodIn wsX8_meant wsX8_wanted := (dg_c 9 rfl rfl (dg_c 10 rfl rfl (dg_c 11 rfl rfl (dg_c 12 rfl rfl (dg_c 13 rfl rfl (dg_c 8 rfl rfl (dg_c 14 rfl rfl gl_X8_meant_X80)))))))
set_option maxRecDepth 20000 in
theorem gX8_meant_X8_wanted : GoodIn wsX8_meant (wsV RX8 191 RX8 yX8_wanted wsX8_wanted) := goodIn_app (dg_c 5 rfl rfl (dg_c 6 rfl rfl (dg_c 7 rfl rfl (dg_c 8 rfl rfl dg_0)))) ggX8_meant_X8_wanted
set_option maxRecDepth 20000 in
theorem ggX8_meant_X8_intAt : GoodIn wsX8_meant wsX8_intAt := (dg_c 18 rfl rfl (dg_c 19 rfl rfl gl_X8_meant_X80))
set_option maxRecDepth 20000 in
theorem gX8_meant_X8_intAt : GoodIn wsX8_meant (wsV RX8 238 RX8 yX8_intAt wsX8_intAt) := goodIn_app (dg_c 15 rfl rfl (dg_c 16 rfl rfl (dg_c 17 rfl rfl (dg_c 8 rfl rfl dg_0)))) ggX8_meant_X8_intAt
set_option maxRecDepth 20000 in
theorem ggX8_meant_X8_no : GoodIn wsX8_meant wsX8_no := (dg_c 23 rfl rfl (dg_c 24 rfl rfl gl_X8_meant_X80))
set_option maxRecDepth 20000 in
theorem gX8_meant_X8_no : GoodIn wsX8_meant (wsV RX8 97 RX8 yX8_no wsX8_no) := goodIn_app (dg_c 20 rfl rfl (dg_c 21 rfl rfl (dg_c 22 rfl rfl (dg_c 8 rfl rfl dg_0)))) ggX8_meant_X8_no
set_option maxRecDepth 20000 in
theorem ggX8_meant_X8_mayMake : GoodIn wsX8_meant wsX8_mayMake := (dg_c 28 rfl rfl (dg_c 29 rfl rfl (dg_c 30 rfl rfl (dg_c 31 rfl rfl (dg_c 8 rfl rfl (dg_c 32 rfl rfl (dg_c 33 rfl rfl (dg_c 34 rfl rfl (dg_c 35 rfl rfl (dg_c 36 rfl rfl (dg_c 37 rfl rfl (dg_c 38 rfl rfl (dg_c 39 rfl rfl (dg_c 40 rfl rfl (dg_c 41 rfl rfl (dg_c 42 rfl rfl (dg_c 43 rfl rfl gl_X8_meant_X80)))))))))))))))))
set_option maxRecDepth 20000 in
theorem gX8_meant_X8_mayMake : GoodIn wsX8_meant (wsV RX8 268 RX8 yX8_mayMake wsX8_mayMake) := goodIn_app (dg_c 25 rfl rfl (dg_c 26 rfl rfl (dg_c 27 rfl rfl (dg_c 8 rfl rfl dg_0)))) ggX8_meant_X8_mayMake
theorem dX8_meant_0 : decode cX8_meant 0 = .ok (.aload_n 0, 1) := dq_42 dp_cX8_meant rfl
theorem dX8_meant_1 : decode cX8_meant 1 = .ok (.iload_n 1, 1) := dq_27 dp_cX8_meant rfl
theorem dX8_meant_2 : decode cX8_meant 2 = .ok (.invokevirtual 191, 3) := dq_182 dp_cX8_meant rfl
theorem dX8_meant_5 : decode cX8_meant 5 = .ok (.istore 4, 2) := dq_54 dp_cX8_meant rfl
theorem dX8_meant_7 : decode cX8_meant 7 = .ok (.iload 4, 2) := dq_21 dp_cX8_meant rfl
theorem dX8_meant_9 : decode cX8_meant 9 = .ok (.ifCond .ne 46, 3) := dq_154 (v := 46) dp_cX8_meant rfl rfl
theorem dX8_meant_12 : decode cX8_meant 12 = .ok (.iload_n 2, 1) := dq_28 dp_cX8_meant rfl
theorem dX8_meant_13 : decode cX8_meant 13 = .ok (.ifCond .ge 8, 3) := dq_156 (v := 8) dp_cX8_meant rfl rfl
theorem dX8_meant_16 : decode cX8_meant 16 = .ok (.bipush (-4), 2) := dq_16 (v := 252) dp_cX8_meant rfl rfl
theorem dX8_meant_18 : decode cX8_meant 18 = .ok (.goto 35, 3) := dq_167 (v := 35) dp_cX8_meant rfl rfl
theorem dX8_meant_21 : decode cX8_meant 21 = .ok (.iload_n 2, 1) := dq_28 dp_cX8_meant rfl
theorem dX8_meant_22 : decode cX8_meant 22 = .ok (.aload_n 0, 1) := dq_42 dp_cX8_meant rfl
theorem dX8_meant_23 : decode cX8_meant 23 = .ok (.getfield 53, 3) := dq_180 dp_cX8_meant rfl
theorem dX8_meant_26 : decode cX8_meant 26 = .ok (.iload_n 1, 1) := dq_27 dp_cX8_meant rfl
theorem dX8_meant_27 : decode cX8_meant 27 = .ok (.iaload, 1) := dq_46 dp_cX8_meant rfl
theorem dX8_meant_28 : decode cX8_meant 28 = .ok (.if_icmp .le 8, 3) := dq_164 (v := 8) dp_cX8_meant rfl rfl
theorem dX8_meant_31 : decode cX8_meant 31 = .ok (.bipush (-5), 2) := dq_16 (v := 251) dp_cX8_meant rfl rfl
theorem dX8_meant_33 : decode cX8_meant 33 = .ok (.goto 20, 3) := dq_167 (v := 20) dp_cX8_meant rfl rfl
theorem dX8_meant_36 : decode cX8_meant 36 = .ok (.iload_n 2, 1) := dq_28 dp_cX8_meant rfl
theorem dX8_meant_37 : decode cX8_meant 37 = .ok (.iconst 1, 1) := dq_4 dp_cX8_meant rfl
theorem dX8_meant_38 : decode cX8_meant 38 = .ok (.if_icmp .lt 9, 3) := dq_161 (v := 9) dp_cX8_meant rfl rfl
theorem dX8_meant_41 : decode cX8_meant 41 = .ok (.iload_n 2, 1) := dq_28 dp_cX8_meant rfl
theorem dX8_meant_42 : decode cX8_meant 42 = .ok (.bipush 20, 2) := dq_16 (v := 20) dp_cX8_meant rfl rfl
theorem dX8_meant_44 : decode cX8_meant 44 = .ok (.if_icmp .le 8, 3) := dq_164 (v := 8) dp_cX8_meant rfl rfl
theorem dX8_meant_47 : decode cX8_meant 47 = .ok (.bipush (-6), 2) := dq_16 (v := 250) dp_cX8_meant rfl rfl
theorem dX8_meant_49 : decode cX8_meant 49 = .ok (.goto 4, 3) := dq_167 (v := 4) dp_cX8_meant rfl rfl
theorem dX8_meant_52 : decode cX8_meant 52 = .ok (.iconst 0, 1) := dq_3 dp_cX8_meant rfl
theorem dX8_meant_53 : decode cX8_meant 53 = .ok (.istore 4, 2) := dq_54 dp_cX8_meant rfl
theorem dX8_meant_55 : decode cX8_meant 55 = .ok (.iconst 0, 1) := dq_3 dp_cX8_meant rfl
theorem dX8_meant_56 : decode cX8_meant 56 = .ok (.istore 5, 2) := dq_54 dp_cX8_meant rfl
theorem dX8_meant_58 : decode cX8_meant 58 = .ok (.iload 5, 2) := dq_21 dp_cX8_meant rfl
theorem dX8_meant_60 : decode cX8_meant 60 = .ok (.iload_n 2, 1) := dq_28 dp_cX8_meant rfl
theorem dX8_meant_61 : decode cX8_meant 61 = .ok (.if_icmp .ge 40, 3) := dq_162 (v := 40) dp_cX8_meant rfl rfl
theorem dX8_meant_64 : decode cX8_meant 64 = .ok (.iload 4, 2) := dq_21 dp_cX8_meant rfl
theorem dX8_meant_66 : decode cX8_meant 66 = .ok (.ifCond .ne 35, 3) := dq_154 (v := 35) dp_cX8_meant rfl rfl
theorem dX8_meant_69 : decode cX8_meant 69 = .ok (.aload_n 0, 1) := dq_42 dp_cX8_meant rfl
theorem dX8_meant_70 : decode cX8_meant 70 = .ok (.iload_n 1, 1) := dq_27 dp_cX8_meant rfl
theorem dX8_meant_71 : decode cX8_meant 71 = .ok (.iload 5, 2) := dq_21 dp_cX8_meant rfl
theorem dX8_meant_73 : decode cX8_meant 73 = .ok (.invokevirtual 238, 3) := dq_182 dp_cX8_meant rfl
theorem dX8_meant_76 : decode cX8_meant 76 = .ok (.ifCond .lt 15, 3) := dq_155 (v := 15) dp_cX8_meant rfl rfl
theorem dX8_meant_79 : decode cX8_meant 79 = .ok (.aload_n 0, 1) := dq_42 dp_cX8_meant rfl
theorem dX8_meant_80 : decode cX8_meant 80 = .ok (.iload_n 1, 1) := dq_27 dp_cX8_meant rfl
theorem dX8_meant_81 : decode cX8_meant 81 = .ok (.iload 5, 2) := dq_21 dp_cX8_meant rfl
theorem dX8_meant_83 : decode cX8_meant 83 = .ok (.invokevirtual 238, 3) := dq_182 dp_cX8_meant rfl
theorem dX8_meant_86 : decode cX8_meant 86 = .ok (.bipush 24, 2) := dq_16 (v := 24) dp_cX8_meant rfl rfl
theorem dX8_meant_88 : decode cX8_meant 88 = .ok (.if_icmp .le 7, 3) := dq_164 (v := 7) dp_cX8_meant rfl rfl
theorem dX8_meant_91 : decode cX8_meant 91 = .ok (.bipush (-6), 2) := dq_16 (v := 250) dp_cX8_meant rfl rfl
theorem dX8_meant_93 : decode cX8_meant 93 = .ok (.istore 4, 2) := dq_54 dp_cX8_meant rfl
theorem dX8_meant_95 : decode cX8_meant 95 = .ok (.iinc 5 1, 3) := dq_132 (v := 1) dp_cX8_meant rfl (by decide) rfl
theorem dX8_meant_98 : decode cX8_meant 98 = .ok (.goto (-40), 3) := dq_167 (v := 65496) dp_cX8_meant rfl rfl
theorem dX8_meant_101 : decode cX8_meant 101 = .ok (.iload 4, 2) := dq_21 dp_cX8_meant rfl
theorem dX8_meant_103 : decode cX8_meant 103 = .ok (.ifCond .ne 17, 3) := dq_154 (v := 17) dp_cX8_meant rfl rfl
theorem dX8_meant_106 : decode cX8_meant 106 = .ok (.iload_n 3, 1) := dq_29 dp_cX8_meant rfl
theorem dX8_meant_107 : decode cX8_meant 107 = .ok (.iconst (-1), 1) := dq_2 dp_cX8_meant rfl
theorem dX8_meant_108 : decode cX8_meant 108 = .ok (.if_icmp .lt 8, 3) := dq_161 (v := 8) dp_cX8_meant rfl rfl
theorem dX8_meant_111 : decode cX8_meant 111 = .ok (.iload_n 3, 1) := dq_29 dp_cX8_meant rfl
theorem dX8_meant_112 : decode cX8_meant 112 = .ok (.iload_n 2, 1) := dq_28 dp_cX8_meant rfl
theorem dX8_meant_113 : decode cX8_meant 113 = .ok (.if_icmp .lt 7, 3) := dq_161 (v := 7) dp_cX8_meant rfl rfl
theorem dX8_meant_116 : decode cX8_meant 116 = .ok (.bipush (-5), 2) := dq_16 (v := 251) dp_cX8_meant rfl rfl
theorem dX8_meant_118 : decode cX8_meant 118 = .ok (.istore 4, 2) := dq_54 dp_cX8_meant rfl
theorem dX8_meant_120 : decode cX8_meant 120 = .ok (.iload 4, 2) := dq_21 dp_cX8_meant rfl
theorem dX8_meant_122 : decode cX8_meant 122 = .ok (.ifCond .eq 10, 3) := dq_153 (v := 10) dp_cX8_meant rfl rfl
theorem dX8_meant_125 : decode cX8_meant 125 = .ok (.aload_n 0, 1) := dq_42 dp_cX8_meant rfl
theorem dX8_meant_126 : decode cX8_meant 126 = .ok (.iload 4, 2) := dq_21 dp_cX8_meant rfl
theorem dX8_meant_128 : decode cX8_meant 128 = .ok (.invokevirtual 97, 3) := dq_182 dp_cX8_meant rfl
theorem dX8_meant_131 : decode cX8_meant 131 = .ok (.ireturn, 1) := dq_172 dp_cX8_meant rfl
theorem dX8_meant_132 : decode cX8_meant 132 = .ok (.iconst 1, 1) := dq_4 dp_cX8_meant rfl
theorem dX8_meant_133 : decode cX8_meant 133 = .ok (.istore 5, 2) := dq_54 dp_cX8_meant rfl
theorem dX8_meant_135 : decode cX8_meant 135 = .ok (.aload_n 0, 1) := dq_42 dp_cX8_meant rfl
theorem dX8_meant_136 : decode cX8_meant 136 = .ok (.getfield 115, 3) := dq_180 dp_cX8_meant rfl
theorem dX8_meant_139 : decode cX8_meant 139 = .ok (.istore 6, 2) := dq_54 dp_cX8_meant rfl
theorem dX8_meant_141 : decode cX8_meant 141 = .ok (.iconst (-1), 1) := dq_2 dp_cX8_meant rfl
theorem dX8_meant_142 : decode cX8_meant 142 = .ok (.istore 7, 2) := dq_54 dp_cX8_meant rfl
theorem dX8_meant_144 : decode cX8_meant 144 = .ok (.iconst 0, 1) := dq_3 dp_cX8_meant rfl
theorem dX8_meant_145 : decode cX8_meant 145 = .ok (.istore 8, 2) := dq_54 dp_cX8_meant rfl
theorem dX8_meant_147 : decode cX8_meant 147 = .ok (.iload 8, 2) := dq_21 dp_cX8_meant rfl
theorem dX8_meant_149 : decode cX8_meant 149 = .ok (.iload_n 2, 1) := dq_28 dp_cX8_meant rfl
theorem dX8_meant_150 : decode cX8_meant 150 = .ok (.if_icmp .ge 102, 3) := dq_162 (v := 102) dp_cX8_meant rfl rfl
theorem dX8_meant_153 : decode cX8_meant 153 = .ok (.aload_n 0, 1) := dq_42 dp_cX8_meant rfl
theorem dX8_meant_154 : decode cX8_meant 154 = .ok (.iload_n 1, 1) := dq_27 dp_cX8_meant rfl
theorem dX8_meant_155 : decode cX8_meant 155 = .ok (.iload 8, 2) := dq_21 dp_cX8_meant rfl
theorem dX8_meant_157 : decode cX8_meant 157 = .ok (.invokevirtual 238, 3) := dq_182 dp_cX8_meant rfl
theorem dX8_meant_160 : decode cX8_meant 160 = .ok (.istore 9, 2) := dq_54 dp_cX8_meant rfl
theorem dX8_meant_162 : decode cX8_meant 162 = .ok (.iconst 0, 1) := dq_3 dp_cX8_meant rfl
theorem dX8_meant_163 : decode cX8_meant 163 = .ok (.istore 10, 2) := dq_54 dp_cX8_meant rfl
theorem dX8_meant_165 : decode cX8_meant 165 = .ok (.aload_n 0, 1) := dq_42 dp_cX8_meant rfl
theorem dX8_meant_166 : decode cX8_meant 166 = .ok (.getfield 90, 3) := dq_180 dp_cX8_meant rfl
theorem dX8_meant_169 : decode cX8_meant 169 = .ok (.iconst 1, 1) := dq_4 dp_cX8_meant rfl
theorem dX8_meant_170 : decode cX8_meant 170 = .ok (.isub, 1) := dq_100 dp_cX8_meant rfl
theorem dX8_meant_171 : decode cX8_meant 171 = .ok (.istore 11, 2) := dq_54 dp_cX8_meant rfl
theorem dX8_meant_173 : decode cX8_meant 173 = .ok (.iload 11, 2) := dq_21 dp_cX8_meant rfl
theorem dX8_meant_175 : decode cX8_meant 175 = .ok (.ifCond .lt 43, 3) := dq_155 (v := 43) dp_cX8_meant rfl rfl
theorem dX8_meant_178 : decode cX8_meant 178 = .ok (.aload_n 0, 1) := dq_42 dp_cX8_meant rfl
theorem dX8_meant_179 : decode cX8_meant 179 = .ok (.iload 11, 2) := dq_21 dp_cX8_meant rfl
theorem dX8_meant_181 : decode cX8_meant 181 = .ok (.iload 6, 2) := dq_21 dp_cX8_meant rfl
theorem dX8_meant_183 : decode cX8_meant 183 = .ok (.iload 9, 2) := dq_21 dp_cX8_meant rfl
theorem dX8_meant_185 : decode cX8_meant 185 = .ok (.invokevirtual 268, 3) := dq_182 dp_cX8_meant rfl
theorem dX8_meant_188 : decode cX8_meant 188 = .ok (.ifCond .ne 6, 3) := dq_154 (v := 6) dp_cX8_meant rfl rfl
theorem dX8_meant_191 : decode cX8_meant 191 = .ok (.goto 21, 3) := dq_167 (v := 21) dp_cX8_meant rfl rfl
theorem dX8_meant_194 : decode cX8_meant 194 = .ok (.iinc 10 1, 3) := dq_132 (v := 1) dp_cX8_meant rfl (by decide) rfl
theorem dX8_meant_197 : decode cX8_meant 197 = .ok (.iload 8, 2) := dq_21 dp_cX8_meant rfl
theorem dX8_meant_199 : decode cX8_meant 199 = .ok (.iload_n 3, 1) := dq_29 dp_cX8_meant rfl
theorem dX8_meant_200 : decode cX8_meant 200 = .ok (.if_icmp .ne 8, 3) := dq_160 (v := 8) dp_cX8_meant rfl rfl
theorem dX8_meant_203 : decode cX8_meant 203 = .ok (.iload 11, 2) := dq_21 dp_cX8_meant rfl
theorem dX8_meant_205 : decode cX8_meant 205 = .ok (.goto 5, 3) := dq_167 (v := 5) dp_cX8_meant rfl rfl
theorem dX8_meant_208 : decode cX8_meant 208 = .ok (.iload 7, 2) := dq_21 dp_cX8_meant rfl
theorem dX8_meant_210 : decode cX8_meant 210 = .ok (.istore 7, 2) := dq_54 dp_cX8_meant rfl
theorem dX8_meant_212 : decode cX8_meant 212 = .ok (.iinc 11 (-1), 3) := dq_132 (v := 255) dp_cX8_meant rfl (by decide) rfl
theorem dX8_meant_215 : decode cX8_meant 215 = .ok (.goto (-42), 3) := dq_167 (v := 65494) dp_cX8_meant rfl rfl
theorem dX8_meant_218 : decode cX8_meant 218 = .ok (.iload 5, 2) := dq_21 dp_cX8_meant rfl
theorem dX8_meant_220 : decode cX8_meant 220 = .ok (.iload 10, 2) := dq_21 dp_cX8_meant rfl
theorem dX8_meant_222 : decode cX8_meant 222 = .ok (.imul, 1) := dq_104 dp_cX8_meant rfl
theorem dX8_meant_223 : decode cX8_meant 223 = .ok (.ldc_w 271, 3) := dq_19 dp_cX8_meant rfl
theorem dX8_meant_226 : decode cX8_meant 226 = .ok (.if_icmp .le 9, 3) := dq_164 (v := 9) dp_cX8_meant rfl rfl
theorem dX8_meant_229 : decode cX8_meant 229 = .ok (.ldc_w 271, 3) := dq_19 dp_cX8_meant rfl
theorem dX8_meant_232 : decode cX8_meant 232 = .ok (.goto 8, 3) := dq_167 (v := 8) dp_cX8_meant rfl rfl
theorem dX8_meant_235 : decode cX8_meant 235 = .ok (.iload 5, 2) := dq_21 dp_cX8_meant rfl
theorem dX8_meant_237 : decode cX8_meant 237 = .ok (.iload 10, 2) := dq_21 dp_cX8_meant rfl
theorem dX8_meant_239 : decode cX8_meant 239 = .ok (.imul, 1) := dq_104 dp_cX8_meant rfl
theorem dX8_meant_240 : decode cX8_meant 240 = .ok (.istore 5, 2) := dq_54 dp_cX8_meant rfl
theorem dX8_meant_242 : decode cX8_meant 242 = .ok (.iload 9, 2) := dq_21 dp_cX8_meant rfl
theorem dX8_meant_244 : decode cX8_meant 244 = .ok (.istore 6, 2) := dq_54 dp_cX8_meant rfl
theorem dX8_meant_246 : decode cX8_meant 246 = .ok (.iinc 8 1, 3) := dq_132 (v := 1) dp_cX8_meant rfl (by decide) rfl
theorem dX8_meant_249 : decode cX8_meant 249 = .ok (.goto (-102), 3) := dq_167 (v := 65434) dp_cX8_meant rfl rfl
theorem dX8_meant_252 : decode cX8_meant 252 = .ok (.iload_n 3, 1) := dq_29 dp_cX8_meant rfl
theorem dX8_meant_253 : decode cX8_meant 253 = .ok (.iconst (-1), 1) := dq_2 dp_cX8_meant rfl
theorem dX8_meant_254 : decode cX8_meant 254 = .ok (.if_icmp .ne 6, 3) := dq_160 (v := 6) dp_cX8_meant rfl rfl
theorem dX8_meant_257 : decode cX8_meant 257 = .ok (.iload 5, 2) := dq_21 dp_cX8_meant rfl
theorem dX8_meant_259 : decode cX8_meant 259 = .ok (.ireturn, 1) := dq_172 dp_cX8_meant rfl
theorem dX8_meant_260 : decode cX8_meant 260 = .ok (.iload 5, 2) := dq_21 dp_cX8_meant rfl
theorem dX8_meant_262 : decode cX8_meant 262 = .ok (.ifCond .ne 12, 3) := dq_154 (v := 12) dp_cX8_meant rfl rfl
theorem dX8_meant_265 : decode cX8_meant 265 = .ok (.aload_n 0, 1) := dq_42 dp_cX8_meant rfl
theorem dX8_meant_266 : decode cX8_meant 266 = .ok (.bipush (-5), 2) := dq_16 (v := 251) dp_cX8_meant rfl rfl
theorem dX8_meant_268 : decode cX8_meant 268 = .ok (.invokevirtual 97, 3) := dq_182 dp_cX8_meant rfl
theorem dX8_meant_271 : decode cX8_meant 271 = .ok (.goto 5, 3) := dq_167 (v := 5) dp_cX8_meant rfl rfl
theorem dX8_meant_274 : decode cX8_meant 274 = .ok (.iload 7, 2) := dq_21 dp_cX8_meant rfl
theorem dX8_meant_276 : decode cX8_meant 276 = .ok (.ireturn, 1) := dq_172 dp_cX8_meant rfl
set_option maxRecDepth 20000 in
theorem gl_X8_closed_X80 : GoodIn wsX8_closed wsX80 := (dg_t (dg_t (dg_t (dg_t (dg_t (dg_t (dg_t (dg_t (dg_t (dg_t (dg_t (dg_t (dg_t (dg_t (dg_t gw_wsX80)))))))))))))))
theorem ggX8_closed_X8_doesCatch : GoodIn wsX8_closed wsX8_doesCatch := (dg_c 7 rfl rfl (dg_c 8 rfl rfl (dg_c 9 rfl rfl (dg_c 10 rfl rfl gl_X8_closed_X80))))
set_option maxRecDepth 20000 in
theorem gX8_closed_X8_doesCatch : GoodIn wsX8_closed (wsV RX8 265 RX8 yX8_doesCatch wsX8_doesCatch) := goodIn_app (dg_c 3 rfl rfl (dg_c 4 rfl rfl (dg_c 5 rfl rfl (dg_c 6 rfl rfl dg_0)))) ggX8_closed_X8_doesCatch
set_option maxRecDepth 20000 in
theorem ggX8_closed_X8_isOpen : GoodIn wsX8_closed wsX8_isOpen := (dg_c 14 rfl rfl (dg_c 2 rfl rfl (dg_c 8 rfl rfl gl_X8_closed_X80)))
set_option maxRecDepth 20000 in
theorem gX8_closed_X8_isOpen : GoodIn wsX8_closed (wsV RX8 247 RX8 yX8_isOpen wsX8_isOpen) := goodIn_app (dg_c 11 rfl rfl (dg_c 12 rfl rfl (dg_c 13 rfl rfl (dg_c 6 rfl rfl dg_0)))) ggX8_closed_X8_isOpen
theorem dX8_closed_0 : decode cX8_closed 0 = .ok (.aload_n 0, 1) := dq_42 dp_cX8_closed rfl
theorem dX8_closed_1 : decode cX8_closed 1 = .ok (.getfield 122, 3) := dq_180 dp_cX8_closed rfl
theorem dX8_closed_4 : decode cX8_closed 4 = .ok (.istore_n 1, 1) := dq_60 dp_cX8_closed rfl
theorem dX8_closed_5 : decode cX8_closed 5 = .ok (.iload_n 1, 1) := dq_27 dp_cX8_closed rfl
theorem dX8_closed_6 : decode cX8_closed 6 = .ok (.aload_n 0, 1) := dq_42 dp_cX8_closed rfl
theorem dX8_closed_7 : decode cX8_closed 7 = .ok (.getfield 7, 3) := dq_180 dp_cX8_closed rfl
theorem dX8_closed_10 : decode cX8_closed 10 = .ok (.if_icmp .ge 25, 3) := dq_162 (v := 25) dp_cX8_closed rfl rfl
theorem dX8_closed_13 : decode cX8_closed 13 = .ok (.aload_n 0, 1) := dq_42 dp_cX8_closed rfl
theorem dX8_closed_14 : decode cX8_closed 14 = .ok (.iload_n 1, 1) := dq_27 dp_cX8_closed rfl
theorem dX8_closed_15 : decode cX8_closed 15 = .ok (.invokevirtual 265, 3) := dq_182 dp_cX8_closed rfl
theorem dX8_closed_18 : decode cX8_closed 18 = .ok (.ifCond .ne 17, 3) := dq_154 (v := 17) dp_cX8_closed rfl rfl
theorem dX8_closed_21 : decode cX8_closed 21 = .ok (.aload_n 0, 1) := dq_42 dp_cX8_closed rfl
theorem dX8_closed_22 : decode cX8_closed 22 = .ok (.iload_n 1, 1) := dq_27 dp_cX8_closed rfl
theorem dX8_closed_23 : decode cX8_closed 23 = .ok (.invokevirtual 247, 3) := dq_182 dp_cX8_closed rfl
theorem dX8_closed_26 : decode cX8_closed 26 = .ok (.ifCond .ne 9, 3) := dq_154 (v := 9) dp_cX8_closed rfl rfl
theorem dX8_closed_29 : decode cX8_closed 29 = .ok (.iinc 1 1, 3) := dq_132 (v := 1) dp_cX8_closed rfl (by decide) rfl
theorem dX8_closed_32 : decode cX8_closed 32 = .ok (.goto (-27), 3) := dq_167 (v := 65509) dp_cX8_closed rfl rfl
theorem dX8_closed_35 : decode cX8_closed 35 = .ok (.iload_n 1, 1) := dq_27 dp_cX8_closed rfl
theorem dX8_closed_36 : decode cX8_closed 36 = .ok (.ireturn, 1) := dq_172 dp_cX8_closed rfl
theorem dX8_draw_0 : decode cX8_draw 0 = .ok (.aload_n 0, 1) := dq_42 dp_cX8_draw rfl
theorem dX8_draw_1 : decode cX8_draw 1 = .ok (.aload_n 0, 1) := dq_42 dp_cX8_draw rfl
theorem dX8_draw_2 : decode cX8_draw 2 = .ok (.getfield 19, 3) := dq_180 dp_cX8_draw rfl
theorem dX8_draw_5 : decode cX8_draw 5 = .ok (.ldc_w 272, 3) := dq_19 dp_cX8_draw rfl
theorem dX8_draw_8 : decode cX8_draw 8 = .ok (.imul, 1) := dq_104 dp_cX8_draw rfl
theorem dX8_draw_9 : decode cX8_draw 9 = .ok (.sipush 12345, 3) := dq_17 (v := 12345) dp_cX8_draw rfl rfl
theorem dX8_draw_12 : decode cX8_draw 12 = .ok (.iadd, 1) := dq_96 dp_cX8_draw rfl
theorem dX8_draw_13 : decode cX8_draw 13 = .ok (.putfield 19, 3) := dq_181 dp_cX8_draw rfl
theorem dX8_draw_16 : decode cX8_draw 16 = .ok (.aload_n 0, 1) := dq_42 dp_cX8_draw rfl
theorem dX8_draw_17 : decode cX8_draw 17 = .ok (.getfield 19, 3) := dq_180 dp_cX8_draw rfl
theorem dX8_draw_20 : decode cX8_draw 20 = .ok (.bipush 16, 2) := dq_16 (v := 16) dp_cX8_draw rfl rfl
theorem dX8_draw_22 : decode cX8_draw 22 = .ok (.iushr, 1) := dq_124 dp_cX8_draw rfl
theorem dX8_draw_23 : decode cX8_draw 23 = .ok (.iload_n 1, 1) := dq_27 dp_cX8_draw rfl
theorem dX8_draw_24 : decode cX8_draw 24 = .ok (.irem, 1) := dq_112 dp_cX8_draw rfl
theorem dX8_draw_25 : decode cX8_draw 25 = .ok (.ireturn, 1) := dq_172 dp_cX8_draw rfl
set_option maxRecDepth 20000 in
theorem gl_X8_makes_X80 : GoodIn wsX8_makes wsX80 := (dg_t (dg_r gw_wsX80))
theorem ggX8_makes_X8_draw : GoodIn wsX8_makes wsX8_draw := (dg_c 10 rfl rfl (dg_c 11 rfl rfl (dg_c 12 rfl rfl gl_X8_makes_X80)))
set_option maxRecDepth 20000 in
theorem gX8_makes_X8_draw : GoodIn wsX8_makes (wsV RX8 273 RX8 yX8_draw wsX8_draw) := goodIn_app (dg_c 6 rfl rfl (dg_c 7 rfl rfl (dg_c 8 rfl rfl (dg_c 9 rfl rfl dg_0)))) ggX8_makes_X8_draw
set_option maxRecDepth 20000 in
theorem ggX8_makes_X8_ways : GoodIn wsX8_makes wsX8_ways := (dg_c 16 rfl rfl (dg_c 4 rfl rfl (dg_c 17 rfl rfl (dg_c 18 rfl rfl gl_X8_makes_X80))))
set_option maxRecDepth 20000 in
theorem gX8_makes_X8_ways : GoodIn wsX8_makes (wsV RX8 107 RX8 yX8_ways wsX8_ways) := goodIn_app (dg_c 13 rfl rfl (dg_c 14 rfl rfl (dg_c 15 rfl rfl (dg_c 9 rfl rfl dg_0)))) ggX8_makes_X8_ways
set_option maxRecDepth 20000 in
theorem ggX8_makes_X8_deep : GoodIn wsX8_makes wsX8_deep := (dg_c 22 rfl rfl (dg_c 4 rfl rfl (dg_c 17 rfl rfl (dg_c 18 rfl rfl (dg_c 23 rfl rfl (dg_c 24 rfl rfl (dg_c 25 rfl rfl (dg_c 9 rfl rfl (dg_c 26 rfl rfl gl_X8_makes_X80)))))))))
set_option maxRecDepth 20000 in
theorem gX8_makes_X8_deep : GoodIn wsX8_makes (wsV RX8 201 RX8 yX8_deep wsX8_deep) := goodIn_app (dg_c 19 rfl rfl (dg_c 20 rfl rfl (dg_c 21 rfl rfl (dg_c 9 rfl rfl dg_0)))) ggX8_makes_X8_deep
theorem dX8_makes_0 : decode cX8_makes 0 = .ok (.aload_n 0, 1) := dq_42 dp_cX8_makes rfl
theorem dX8_makes_1 : decode cX8_makes 1 = .ok (.bipush 12, 2) := dq_16 (v := 12) dp_cX8_makes rfl rfl
theorem dX8_makes_3 : decode cX8_makes 3 = .ok (.invokevirtual 273, 3) := dq_182 dp_cX8_makes rfl
theorem dX8_makes_6 : decode cX8_makes 6 = .ok (.aload_n 0, 1) := dq_42 dp_cX8_makes rfl
theorem dX8_makes_7 : decode cX8_makes 7 = .ok (.iload_n 1, 1) := dq_27 dp_cX8_makes rfl
theorem dX8_makes_8 : decode cX8_makes 8 = .ok (.aload_n 0, 1) := dq_42 dp_cX8_makes rfl
theorem dX8_makes_9 : decode cX8_makes 9 = .ok (.getfield 115, 3) := dq_180 dp_cX8_makes rfl
theorem dX8_makes_12 : decode cX8_makes 12 = .ok (.invokevirtual 107, 3) := dq_182 dp_cX8_makes rfl
theorem dX8_makes_15 : decode cX8_makes 15 = .ok (.if_icmp .ge 7, 3) := dq_162 (v := 7) dp_cX8_makes rfl rfl
theorem dX8_makes_18 : decode cX8_makes 18 = .ok (.iconst 1, 1) := dq_4 dp_cX8_makes rfl
theorem dX8_makes_19 : decode cX8_makes 19 = .ok (.goto 4, 3) := dq_167 (v := 4) dp_cX8_makes rfl rfl
theorem dX8_makes_22 : decode cX8_makes 22 = .ok (.iconst 0, 1) := dq_3 dp_cX8_makes rfl
theorem dX8_makes_23 : decode cX8_makes 23 = .ok (.istore_n 2, 1) := dq_61 dp_cX8_makes rfl
theorem dX8_makes_24 : decode cX8_makes 24 = .ok (.aload_n 0, 1) := dq_42 dp_cX8_makes rfl
theorem dX8_makes_25 : decode cX8_makes 25 = .ok (.aload_n 0, 1) := dq_42 dp_cX8_makes rfl
theorem dX8_makes_26 : decode cX8_makes 26 = .ok (.iload_n 1, 1) := dq_27 dp_cX8_makes rfl
theorem dX8_makes_27 : decode cX8_makes 27 = .ok (.aload_n 0, 1) := dq_42 dp_cX8_makes rfl
theorem dX8_makes_28 : decode cX8_makes 28 = .ok (.getfield 115, 3) := dq_180 dp_cX8_makes rfl
theorem dX8_makes_31 : decode cX8_makes 31 = .ok (.iload_n 2, 1) := dq_28 dp_cX8_makes rfl
theorem dX8_makes_32 : decode cX8_makes 32 = .ok (.invokevirtual 201, 3) := dq_182 dp_cX8_makes rfl
theorem dX8_makes_35 : decode cX8_makes 35 = .ok (.putfield 115, 3) := dq_181 dp_cX8_makes rfl
theorem dX8_makes_38 : decode cX8_makes 38 = .ok (.aload_n 0, 1) := dq_42 dp_cX8_makes rfl
theorem dX8_makes_39 : decode cX8_makes 39 = .ok (.dup, 1) := dq_89 dp_cX8_makes rfl
theorem dX8_makes_40 : decode cX8_makes 40 = .ok (.getfield 13, 3) := dq_180 dp_cX8_makes rfl
theorem dX8_makes_43 : decode cX8_makes 43 = .ok (.aload_n 0, 1) := dq_42 dp_cX8_makes rfl
theorem dX8_makes_44 : decode cX8_makes 44 = .ok (.getfield 35, 3) := dq_180 dp_cX8_makes rfl
theorem dX8_makes_47 : decode cX8_makes 47 = .ok (.iload_n 1, 1) := dq_27 dp_cX8_makes rfl
theorem dX8_makes_48 : decode cX8_makes 48 = .ok (.iaload, 1) := dq_46 dp_cX8_makes rfl
theorem dX8_makes_49 : decode cX8_makes 49 = .ok (.isub, 1) := dq_100 dp_cX8_makes rfl
theorem dX8_makes_50 : decode cX8_makes 50 = .ok (.putfield 13, 3) := dq_181 dp_cX8_makes rfl
theorem dX8_makes_53 : decode cX8_makes 53 = .ok (.aload_n 0, 1) := dq_42 dp_cX8_makes rfl
theorem dX8_makes_54 : decode cX8_makes 54 = .ok (.getfield 29, 3) := dq_180 dp_cX8_makes rfl
theorem dX8_makes_57 : decode cX8_makes 57 = .ok (.iload_n 1, 1) := dq_27 dp_cX8_makes rfl
theorem dX8_makes_58 : decode cX8_makes 58 = .ok (.iaload, 1) := dq_46 dp_cX8_makes rfl
theorem dX8_makes_59 : decode cX8_makes 59 = .ok (.iconst 5, 1) := dq_8 dp_cX8_makes rfl
theorem dX8_makes_60 : decode cX8_makes 60 = .ok (.if_icmp .ne 13, 3) := dq_160 (v := 13) dp_cX8_makes rfl rfl
theorem dX8_makes_63 : decode cX8_makes 63 = .ok (.aload_n 0, 1) := dq_42 dp_cX8_makes rfl
theorem dX8_makes_64 : decode cX8_makes 64 = .ok (.dup, 1) := dq_89 dp_cX8_makes rfl
theorem dX8_makes_65 : decode cX8_makes 65 = .ok (.getfield 188, 3) := dq_180 dp_cX8_makes rfl
theorem dX8_makes_68 : decode cX8_makes 68 = .ok (.iconst 1, 1) := dq_4 dp_cX8_makes rfl
theorem dX8_makes_69 : decode cX8_makes 69 = .ok (.iadd, 1) := dq_96 dp_cX8_makes rfl
theorem dX8_makes_70 : decode cX8_makes 70 = .ok (.putfield 188, 3) := dq_181 dp_cX8_makes rfl
theorem dX8_makes_73 : decode cX8_makes 73 = .ok (.return_, 1) := dq_177 dp_cX8_makes rfl
set_option maxRecDepth 20000 in
theorem gl_X8_pulls_X80 : GoodIn wsX8_pulls wsX80 := (dg_t (dg_r gw_wsX80))
theorem ggX8_pulls_X8_isPull : GoodIn wsX8_pulls wsX8_isPull := (dg_c 7 rfl rfl (dg_c 8 rfl rfl gl_X8_pulls_X80))
set_option maxRecDepth 20000 in
theorem gX8_pulls_X8_isPull : GoodIn wsX8_pulls (wsV RX8 101 RX8 yX8_isPull wsX8_isPull) := goodIn_app (dg_c 3 rfl rfl (dg_c 4 rfl rfl (dg_c 5 rfl rfl (dg_c 6 rfl rfl dg_0)))) ggX8_pulls_X8_isPull
set_option maxRecDepth 20000 in
theorem ggX8_pulls_X8_no : GoodIn wsX8_pulls wsX8_no := (dg_c 12 rfl rfl (dg_c 13 rfl rfl gl_X8_pulls_X80))
set_option maxRecDepth 20000 in
theorem gX8_pulls_X8_no : GoodIn wsX8_pulls (wsV RX8 97 RX8 yX8_no wsX8_no) := goodIn_app (dg_c 9 rfl rfl (dg_c 10 rfl rfl (dg_c 11 rfl rfl (dg_c 6 rfl rfl dg_0)))) ggX8_pulls_X8_no
set_option maxRecDepth 20000 in
theorem ggX8_pulls_X8_mayBe : GoodIn wsX8_pulls wsX8_mayBe := (dg_c 17 rfl rfl (dg_c 18 rfl rfl gl_X8_pulls_X80))
set_option maxRecDepth 20000 in
theorem gX8_pulls_X8_mayBe : GoodIn wsX8_pulls (wsV RX8 118 RX8 yX8_mayBe wsX8_mayBe) := goodIn_app (dg_c 14 rfl rfl (dg_c 15 rfl rfl (dg_c 16 rfl rfl (dg_c 6 rfl rfl dg_0)))) ggX8_pulls_X8_mayBe
set_option maxRecDepth 20000 in
theorem ggX8_pulls_X8_makes : GoodIn wsX8_pulls wsX8_makes := (dg_c 22 rfl rfl (goodIn_app (goodIn_app (dg_c 1 rfl rfl (dg_c 2 rfl rfl (dg_c 18 rfl rfl (dg_c 23 rfl rfl (dg_c 24 rfl rfl (dg_c 25 rfl rfl (dg_c 26 rfl rfl (dg_c 27 rfl rfl (dg_c 6 rfl rfl (dg_c 28 rfl rfl (dg_c 29 rfl rfl (dg_c 30 rfl rfl (dg_c 31 rfl rfl (dg_c 32 rfl rfl (dg_c 33 rfl rfl (dg_c 34 rfl rfl (dg_c 35 rfl rfl (dg_c 36 rfl rfl (dg_c 37 rfl rfl (dg_c 38 rfl rfl (dg_c 39 rfl rfl (dg_c 40 rfl rfl (dg_c 41 rfl rfl (dg_c 42 rfl rfl dg_0)))))))))))))))))))))))) (dg_c 43 rfl rfl (dg_c 44 rfl rfl dg_0))) gl_X8_pulls_X80))
set_option maxRecDepth 20000 in
theorem gX8_pulls_X8_makes : GoodIn wsX8_pulls (wsV RX8 276 RX8 yX8_makes wsX8_makes) := goodIn_app (dg_c 19 rfl rfl (dg_c 20 rfl rfl (dg_c 21 rfl rfl (dg_c 6 rfl rfl dg_0)))) ggX8_pulls_X8_makes
theorem dX8_pulls_0 : decode cX8_pulls 0 = .ok (.aload_n 0, 1) := dq_42 dp_cX8_pulls rfl
theorem dX8_pulls_1 : decode cX8_pulls 1 = .ok (.iload_n 1, 1) := dq_27 dp_cX8_pulls rfl
theorem dX8_pulls_2 : decode cX8_pulls 2 = .ok (.invokevirtual 101, 3) := dq_182 dp_cX8_pulls rfl
theorem dX8_pulls_5 : decode cX8_pulls 5 = .ok (.ifCond .ne 9, 3) := dq_154 (v := 9) dp_cX8_pulls rfl rfl
theorem dX8_pulls_8 : decode cX8_pulls 8 = .ok (.aload_n 0, 1) := dq_42 dp_cX8_pulls rfl
theorem dX8_pulls_9 : decode cX8_pulls 9 = .ok (.iconst (-1), 1) := dq_2 dp_cX8_pulls rfl
theorem dX8_pulls_10 : decode cX8_pulls 10 = .ok (.invokevirtual 97, 3) := dq_182 dp_cX8_pulls rfl
theorem dX8_pulls_13 : decode cX8_pulls 13 = .ok (.ireturn, 1) := dq_172 dp_cX8_pulls rfl
theorem dX8_pulls_14 : decode cX8_pulls 14 = .ok (.aload_n 0, 1) := dq_42 dp_cX8_pulls rfl
theorem dX8_pulls_15 : decode cX8_pulls 15 = .ok (.iload_n 1, 1) := dq_27 dp_cX8_pulls rfl
theorem dX8_pulls_16 : decode cX8_pulls 16 = .ok (.aload_n 0, 1) := dq_42 dp_cX8_pulls rfl
theorem dX8_pulls_17 : decode cX8_pulls 17 = .ok (.getfield 115, 3) := dq_180 dp_cX8_pulls rfl
theorem dX8_pulls_20 : decode cX8_pulls 20 = .ok (.aload_n 0, 1) := dq_42 dp_cX8_pulls rfl
theorem dX8_pulls_21 : decode cX8_pulls 21 = .ok (.getfield 13, 3) := dq_180 dp_cX8_pulls rfl
theorem dX8_pulls_24 : decode cX8_pulls 24 = .ok (.invokevirtual 118, 3) := dq_182 dp_cX8_pulls rfl
theorem dX8_pulls_27 : decode cX8_pulls 27 = .ok (.ifCond .ne 10, 3) := dq_154 (v := 10) dp_cX8_pulls rfl rfl
theorem dX8_pulls_30 : decode cX8_pulls 30 = .ok (.aload_n 0, 1) := dq_42 dp_cX8_pulls rfl
theorem dX8_pulls_31 : decode cX8_pulls 31 = .ok (.bipush (-6), 2) := dq_16 (v := 250) dp_cX8_pulls rfl rfl
theorem dX8_pulls_33 : decode cX8_pulls 33 = .ok (.invokevirtual 97, 3) := dq_182 dp_cX8_pulls rfl
theorem dX8_pulls_36 : decode cX8_pulls 36 = .ok (.ireturn, 1) := dq_172 dp_cX8_pulls rfl
theorem dX8_pulls_37 : decode cX8_pulls 37 = .ok (.aload_n 0, 1) := dq_42 dp_cX8_pulls rfl
theorem dX8_pulls_38 : decode cX8_pulls 38 = .ok (.iload_n 1, 1) := dq_27 dp_cX8_pulls rfl
theorem dX8_pulls_39 : decode cX8_pulls 39 = .ok (.invokevirtual 276, 3) := dq_182 dp_cX8_pulls rfl
theorem dX8_pulls_42 : decode cX8_pulls 42 = .ok (.aload_n 0, 1) := dq_42 dp_cX8_pulls rfl
theorem dX8_pulls_43 : decode cX8_pulls 43 = .ok (.getfield 115, 3) := dq_180 dp_cX8_pulls rfl
theorem dX8_pulls_46 : decode cX8_pulls 46 = .ok (.ireturn, 1) := dq_172 dp_cX8_pulls rfl
set_option maxRecDepth 20000 in
theorem gl_X8_closes_X80 : GoodIn wsX8_closes wsX80 := (dg_t (dg_t (dg_t (dg_t (dg_t (dg_t (dg_t (dg_t (dg_t (dg_t (dg_t (dg_t (dg_t (dg_t (dg_t (dg_t (dg_t (dg_t (dg_t (dg_t (dg_t (dg_t gw_wsX80))))))))))))))))))))))
theorem ggX8_closes_X8_isOpen : GoodIn wsX8_closes wsX8_isOpen := (dg_c 10 rfl rfl (dg_c 2 rfl rfl (dg_c 11 rfl rfl gl_X8_closes_X80)))
set_option maxRecDepth 20000 in
theorem gX8_closes_X8_isOpen : GoodIn wsX8_closes (wsV RX8 247 RX8 yX8_isOpen wsX8_isOpen) := goodIn_app (dg_c 6 rfl rfl (dg_c 7 rfl rfl (dg_c 8 rfl rfl (dg_c 9 rfl rfl dg_0)))) ggX8_closes_X8_isOpen
set_option maxRecDepth 20000 in
theorem ggX8_closes_X8_doesCatch : GoodIn wsX8_closes wsX8_doesCatch := (dg_c 15 rfl rfl (dg_c 11 rfl rfl (dg_c 3 rfl rfl (dg_c 4 rfl rfl gl_X8_closes_X80))))
set_option maxRecDepth 20000 in
theorem gX8_closes_X8_doesCatch : GoodIn wsX8_closes (wsV RX8 265 RX8 yX8_doesCatch wsX8_doesCatch) := goodIn_app (dg_c 12 rfl rfl (dg_c 13 rfl rfl (dg_c 14 rfl rfl (dg_c 9 rfl rfl dg_0)))) ggX8_closes_X8_doesCatch
set_option maxRecDepth 20000 in
theorem ggX8_closes_X8_draw : GoodIn wsX8_closes wsX8_draw := (dg_c 19 rfl rfl (dg_c 20 rfl rfl (dg_c 21 rfl rfl gl_X8_closes_X80)))
set_option maxRecDepth 20000 in
theorem gX8_closes_X8_draw : GoodIn wsX8_closes (wsV RX8 273 RX8 yX8_draw wsX8_draw) := goodIn_app (dg_c 16 rfl rfl (dg_c 17 rfl rfl (dg_c 18 rfl rfl (dg_c 9 rfl rfl dg_0)))) ggX8_closes_X8_draw
theorem dX8_closes_0 : decode cX8_closes 0 = .ok (.aload_n 0, 1) := dq_42 dp_cX8_closes rfl
theorem dX8_closes_1 : decode cX8_closes 1 = .ok (.getfield 122, 3) := dq_180 dp_cX8_closes rfl
theorem dX8_closes_4 : decode cX8_closes 4 = .ok (.aload_n 0, 1) := dq_42 dp_cX8_closes rfl
theorem dX8_closes_5 : decode cX8_closes 5 = .ok (.getfield 7, 3) := dq_180 dp_cX8_closes rfl
theorem dX8_closes_8 : decode cX8_closes 8 = .ok (.if_icmp .ge 76, 3) := dq_162 (v := 76) dp_cX8_closes rfl rfl
theorem dX8_closes_11 : decode cX8_closes 11 = .ok (.aload_n 0, 1) := dq_42 dp_cX8_closes rfl
theorem dX8_closes_12 : decode cX8_closes 12 = .ok (.aload_n 0, 1) := dq_42 dp_cX8_closes rfl
theorem dX8_closes_13 : decode cX8_closes 13 = .ok (.getfield 122, 3) := dq_180 dp_cX8_closes rfl
theorem dX8_closes_16 : decode cX8_closes 16 = .ok (.invokevirtual 247, 3) := dq_182 dp_cX8_closes rfl
theorem dX8_closes_19 : decode cX8_closes 19 = .ok (.ifCond .ne 65, 3) := dq_154 (v := 65) dp_cX8_closes rfl rfl
theorem dX8_closes_22 : decode cX8_closes 22 = .ok (.aload_n 0, 1) := dq_42 dp_cX8_closes rfl
theorem dX8_closes_23 : decode cX8_closes 23 = .ok (.aload_n 0, 1) := dq_42 dp_cX8_closes rfl
theorem dX8_closes_24 : decode cX8_closes 24 = .ok (.getfield 122, 3) := dq_180 dp_cX8_closes rfl
theorem dX8_closes_27 : decode cX8_closes 27 = .ok (.invokevirtual 265, 3) := dq_182 dp_cX8_closes rfl
theorem dX8_closes_30 : decode cX8_closes 30 = .ok (.ifCond .eq 41, 3) := dq_153 (v := 41) dp_cX8_closes rfl rfl
theorem dX8_closes_33 : decode cX8_closes 33 = .ok (.aload_n 0, 1) := dq_42 dp_cX8_closes rfl
theorem dX8_closes_34 : decode cX8_closes 34 = .ok (.bipush 10, 2) := dq_16 (v := 10) dp_cX8_closes rfl rfl
theorem dX8_closes_36 : decode cX8_closes 36 = .ok (.invokevirtual 273, 3) := dq_182 dp_cX8_closes rfl
theorem dX8_closes_39 : decode cX8_closes 39 = .ok (.aload_n 0, 1) := dq_42 dp_cX8_closes rfl
theorem dX8_closes_40 : decode cX8_closes 40 = .ok (.getfield 41, 3) := dq_180 dp_cX8_closes rfl
theorem dX8_closes_43 : decode cX8_closes 43 = .ok (.aload_n 0, 1) := dq_42 dp_cX8_closes rfl
theorem dX8_closes_44 : decode cX8_closes 44 = .ok (.getfield 122, 3) := dq_180 dp_cX8_closes rfl
theorem dX8_closes_47 : decode cX8_closes 47 = .ok (.iaload, 1) := dq_46 dp_cX8_closes rfl
theorem dX8_closes_48 : decode cX8_closes 48 = .ok (.aload_n 0, 1) := dq_42 dp_cX8_closes rfl
theorem dX8_closes_49 : decode cX8_closes 49 = .ok (.getfield 16, 3) := dq_180 dp_cX8_closes rfl
theorem dX8_closes_52 : decode cX8_closes 52 = .ok (.isub, 1) := dq_100 dp_cX8_closes rfl
theorem dX8_closes_53 : decode cX8_closes 53 = .ok (.iconst 1, 1) := dq_4 dp_cX8_closes rfl
theorem dX8_closes_54 : decode cX8_closes 54 = .ok (.iadd, 1) := dq_96 dp_cX8_closes rfl
theorem dX8_closes_55 : decode cX8_closes 55 = .ok (.if_icmp .ge 16, 3) := dq_162 (v := 16) dp_cX8_closes rfl rfl
theorem dX8_closes_58 : decode cX8_closes 58 = .ok (.aload_n 0, 1) := dq_42 dp_cX8_closes rfl
theorem dX8_closes_59 : decode cX8_closes 59 = .ok (.iconst 1, 1) := dq_4 dp_cX8_closes rfl
theorem dX8_closes_60 : decode cX8_closes 60 = .ok (.aload_n 0, 1) := dq_42 dp_cX8_closes rfl
theorem dX8_closes_61 : decode cX8_closes 61 = .ok (.bipush 6, 2) := dq_16 (v := 6) dp_cX8_closes rfl rfl
theorem dX8_closes_63 : decode cX8_closes 63 = .ok (.invokevirtual 273, 3) := dq_182 dp_cX8_closes rfl
theorem dX8_closes_66 : decode cX8_closes 66 = .ok (.iadd, 1) := dq_96 dp_cX8_closes rfl
theorem dX8_closes_67 : decode cX8_closes 67 = .ok (.putfield 115, 3) := dq_181 dp_cX8_closes rfl
theorem dX8_closes_70 : decode cX8_closes 70 = .ok (.return_, 1) := dq_177 dp_cX8_closes rfl
theorem dX8_closes_71 : decode cX8_closes 71 = .ok (.aload_n 0, 1) := dq_42 dp_cX8_closes rfl
theorem dX8_closes_72 : decode cX8_closes 72 = .ok (.dup, 1) := dq_89 dp_cX8_closes rfl
theorem dX8_closes_73 : decode cX8_closes 73 = .ok (.getfield 122, 3) := dq_180 dp_cX8_closes rfl
theorem dX8_closes_76 : decode cX8_closes 76 = .ok (.iconst 1, 1) := dq_4 dp_cX8_closes rfl
theorem dX8_closes_77 : decode cX8_closes 77 = .ok (.iadd, 1) := dq_96 dp_cX8_closes rfl
theorem dX8_closes_78 : decode cX8_closes 78 = .ok (.putfield 122, 3) := dq_181 dp_cX8_closes rfl
theorem dX8_closes_81 : decode cX8_closes 81 = .ok (.goto (-81), 3) := dq_167 (v := 65455) dp_cX8_closes rfl rfl
theorem dX8_closes_84 : decode cX8_closes 84 = .ok (.return_, 1) := dq_177 dp_cX8_closes rfl
set_option maxRecDepth 20000 in
theorem gl_X8_close_X80 : GoodIn wsX8_close wsX80 := (dg_t (dg_r gw_wsX80))
theorem ggX8_close_X8_no : GoodIn wsX8_close wsX8_no := (dg_c 7 rfl rfl (dg_c 8 rfl rfl gl_X8_close_X80))
set_option maxRecDepth 20000 in
theorem gX8_close_X8_no : GoodIn wsX8_close (wsV RX8 97 RX8 yX8_no wsX8_no) := goodIn_app (dg_c 3 rfl rfl (dg_c 4 rfl rfl (dg_c 5 rfl rfl (dg_c 6 rfl rfl dg_0)))) ggX8_close_X8_no
set_option maxRecDepth 20000 in
theorem ggX8_close_X8_closes : GoodIn wsX8_close wsX8_closes := (dg_c 12 rfl rfl (dg_c 2 rfl rfl (dg_c 13 rfl rfl (dg_c 14 rfl rfl (dg_c 15 rfl rfl (dg_c 1 rfl rfl (dg_c 16 rfl rfl (dg_c 17 rfl rfl (dg_c 18 rfl rfl (dg_c 6 rfl rfl (dg_c 19 rfl rfl (dg_c 20 rfl rfl (dg_c 21 rfl rfl (dg_c 22 rfl rfl (dg_c 23 rfl rfl (dg_c 24 rfl rfl (dg_c 25 rfl rfl (dg_c 26 rfl rfl (dg_c 27 rfl rfl (dg_c 28 rfl rfl (dg_c 29 rfl rfl (dg_c 30 rfl rfl gl_X8_close_X80))))))))))))))))))))))
set_option maxRecDepth 20000 in
theorem gX8_close_X8_closes : GoodIn wsX8_close (wsV RX8 279 RX8 yX8_closes wsX8_closes) := goodIn_app (dg_c 9 rfl rfl (dg_c 10 rfl rfl (dg_c 11 rfl rfl (dg_c 6 rfl rfl dg_0)))) ggX8_close_X8_closes
theorem dX8_close_0 : decode cX8_close 0 = .ok (.aload_n 0, 1) := dq_42 dp_cX8_close rfl
theorem dX8_close_1 : decode cX8_close 1 = .ok (.getfield 115, 3) := dq_180 dp_cX8_close rfl
theorem dX8_close_4 : decode cX8_close 4 = .ok (.ifCond .eq 10, 3) := dq_153 (v := 10) dp_cX8_close rfl rfl
theorem dX8_close_7 : decode cX8_close 7 = .ok (.aload_n 0, 1) := dq_42 dp_cX8_close rfl
theorem dX8_close_8 : decode cX8_close 8 = .ok (.bipush (-6), 2) := dq_16 (v := 250) dp_cX8_close rfl rfl
theorem dX8_close_10 : decode cX8_close 10 = .ok (.invokevirtual 97, 3) := dq_182 dp_cX8_close rfl
theorem dX8_close_13 : decode cX8_close 13 = .ok (.ireturn, 1) := dq_172 dp_cX8_close rfl
theorem dX8_close_14 : decode cX8_close 14 = .ok (.aload_n 0, 1) := dq_42 dp_cX8_close rfl
theorem dX8_close_15 : decode cX8_close 15 = .ok (.invokevirtual 279, 3) := dq_182 dp_cX8_close rfl
theorem dX8_close_18 : decode cX8_close 18 = .ok (.aload_n 0, 1) := dq_42 dp_cX8_close rfl
theorem dX8_close_19 : decode cX8_close 19 = .ok (.getfield 122, 3) := dq_180 dp_cX8_close rfl
theorem dX8_close_22 : decode cX8_close 22 = .ok (.ireturn, 1) := dq_172 dp_cX8_close rfl
set_option maxRecDepth 20000 in
theorem gl_X8_dayIn_X80 : GoodIn wsX8_dayIn wsX80 := (dg_t (dg_r gw_wsX80))
theorem ggX8_dayIn_X8_closes : GoodIn wsX8_dayIn wsX8_closes := (dg_c 9 rfl rfl (dg_c 1 rfl rfl (dg_c 4 rfl rfl (dg_c 10 rfl rfl (dg_c 11 rfl rfl (dg_c 2 rfl rfl (dg_c 12 rfl rfl (dg_c 13 rfl rfl (dg_c 14 rfl rfl (dg_c 8 rfl rfl (dg_c 15 rfl rfl (dg_c 16 rfl rfl (dg_c 17 rfl rfl (dg_c 18 rfl rfl (dg_c 19 rfl rfl (dg_c 20 rfl rfl (dg_c 21 rfl rfl (dg_c 22 rfl rfl (dg_c 23 rfl rfl (dg_c 24 rfl rfl (dg_c 25 rfl rfl (dg_c 26 rfl rfl gl_X8_dayIn_X80))))))))))))))))))))))
set_option maxRecDepth 20000 in
theorem gX8_dayIn_X8_closes : GoodIn wsX8_dayIn (wsV RX8 279 RX8 yX8_closes wsX8_closes) := goodIn_app (dg_c 5 rfl rfl (dg_c 6 rfl rfl (dg_c 7 rfl rfl (dg_c 8 rfl rfl dg_0)))) ggX8_dayIn_X8_closes
set_option maxRecDepth 20000 in
theorem ggX8_dayIn_X8_nextOf : GoodIn wsX8_dayIn wsX8_nextOf := (dg_c 30 rfl rfl (goodIn_app (goodIn_app (dg_c 31 rfl rfl (dg_c 2 rfl rfl (dg_c 3 rfl rfl (dg_c 32 rfl rfl (dg_c 33 rfl rfl (dg_c 34 rfl rfl (dg_c 8 rfl rfl (dg_c 35 rfl rfl (dg_c 36 rfl rfl (dg_c 37 rfl rfl (dg_c 38 rfl rfl (dg_c 39 rfl rfl (dg_c 40 rfl rfl (dg_c 41 rfl rfl (dg_c 42 rfl rfl (dg_c 43 rfl rfl (dg_c 44 rfl rfl (dg_c 45 rfl rfl (dg_c 46 rfl rfl (dg_c 47 rfl rfl (dg_c 48 rfl rfl (dg_c 49 rfl rfl (dg_c 50 rfl rfl (dg_c 51 rfl rfl dg_0)))))))))))))))))))))))) (dg_c 52 rfl rfl (dg_c 53 rfl rfl (dg_c 54 rfl rfl (dg_c 55 rfl rfl (dg_c 56 rfl rfl (dg_c 57 rfl rfl (dg_c 58 rfl rfl (dg_c 59 rfl rfl (dg_c 60 rfl rfl (dg_c 61 rfl rfl (dg_c 62 rfl rfl (dg_c 63 rfl rfl dg_0))))))))))))) gl_X8_dayIn_X80))
set_option maxRecDepth 20000 in
theorem gX8_dayIn_X8_nextOf : GoodIn wsX8_dayIn (wsV RX8 222 RX8 yX8_nextOf wsX8_nextOf) := goodIn_app (dg_c 27 rfl rfl (dg_c 28 rfl rfl (dg_c 29 rfl rfl (dg_c 8 rfl rfl dg_0)))) ggX8_dayIn_X8_nextOf
set_option maxRecDepth 20000 in
theorem ggX8_dayIn_X8_makes : GoodIn wsX8_dayIn wsX8_makes := (dg_c 67 rfl rfl (goodIn_app (goodIn_app (dg_c 2 rfl rfl (dg_c 3 rfl rfl (dg_c 36 rfl rfl (dg_c 45 rfl rfl (dg_c 68 rfl rfl (dg_c 21 rfl rfl (dg_c 22 rfl rfl (dg_c 23 rfl rfl (dg_c 8 rfl rfl (dg_c 24 rfl rfl (dg_c 25 rfl rfl (dg_c 26 rfl rfl (dg_c 41 rfl rfl (dg_c 42 rfl rfl (dg_c 43 rfl rfl (dg_c 44 rfl rfl (dg_c 46 rfl rfl (dg_c 47 rfl rfl (dg_c 48 rfl rfl (dg_c 49 rfl rfl (dg_c 50 rfl rfl (dg_c 51 rfl rfl (dg_c 52 rfl rfl (dg_c 53 rfl rfl dg_0)))))))))))))))))))))))) (dg_c 54 rfl rfl (dg_c 55 rfl rfl dg_0))) gl_X8_dayIn_X80))
set_option maxRecDepth 20000 in
theorem gX8_dayIn_X8_makes : GoodIn wsX8_dayIn (wsV RX8 276 RX8 yX8_makes wsX8_makes) := goodIn_app (dg_c 64 rfl rfl (dg_c 65 rfl rfl (dg_c 66 rfl rfl (dg_c 8 rfl rfl dg_0)))) ggX8_dayIn_X8_makes
theorem dX8_dayIn_0 : decode cX8_dayIn 0 = .ok (.aload_n 0, 1) := dq_42 dp_cX8_dayIn rfl
theorem dX8_dayIn_1 : decode cX8_dayIn 1 = .ok (.iconst 0, 1) := dq_3 dp_cX8_dayIn rfl
theorem dX8_dayIn_2 : decode cX8_dayIn 2 = .ok (.putfield 122, 3) := dq_181 dp_cX8_dayIn rfl
theorem dX8_dayIn_5 : decode cX8_dayIn 5 = .ok (.aload_n 0, 1) := dq_42 dp_cX8_dayIn rfl
theorem dX8_dayIn_6 : decode cX8_dayIn 6 = .ok (.iconst 0, 1) := dq_3 dp_cX8_dayIn rfl
theorem dX8_dayIn_7 : decode cX8_dayIn 7 = .ok (.putfield 115, 3) := dq_181 dp_cX8_dayIn rfl
theorem dX8_dayIn_10 : decode cX8_dayIn 10 = .ok (.aload_n 0, 1) := dq_42 dp_cX8_dayIn rfl
theorem dX8_dayIn_11 : decode cX8_dayIn 11 = .ok (.bipush 60, 2) := dq_16 (v := 60) dp_cX8_dayIn rfl rfl
theorem dX8_dayIn_13 : decode cX8_dayIn 13 = .ok (.putfield 13, 3) := dq_181 dp_cX8_dayIn rfl
theorem dX8_dayIn_16 : decode cX8_dayIn 16 = .ok (.iconst 0, 1) := dq_3 dp_cX8_dayIn rfl
theorem dX8_dayIn_17 : decode cX8_dayIn 17 = .ok (.istore_n 1, 1) := dq_60 dp_cX8_dayIn rfl
theorem dX8_dayIn_18 : decode cX8_dayIn 18 = .ok (.iload_n 1, 1) := dq_27 dp_cX8_dayIn rfl
theorem dX8_dayIn_19 : decode cX8_dayIn 19 = .ok (.iconst 3, 1) := dq_6 dp_cX8_dayIn rfl
theorem dX8_dayIn_20 : decode cX8_dayIn 20 = .ok (.if_icmp .ge 72, 3) := dq_162 (v := 72) dp_cX8_dayIn rfl rfl
theorem dX8_dayIn_23 : decode cX8_dayIn 23 = .ok (.aload_n 0, 1) := dq_42 dp_cX8_dayIn rfl
theorem dX8_dayIn_24 : decode cX8_dayIn 24 = .ok (.getfield 115, 3) := dq_180 dp_cX8_dayIn rfl
theorem dX8_dayIn_27 : decode cX8_dayIn 27 = .ok (.ifCond .ne 65, 3) := dq_154 (v := 65) dp_cX8_dayIn rfl rfl
theorem dX8_dayIn_30 : decode cX8_dayIn 30 = .ok (.aload_n 0, 1) := dq_42 dp_cX8_dayIn rfl
theorem dX8_dayIn_31 : decode cX8_dayIn 31 = .ok (.invokevirtual 279, 3) := dq_182 dp_cX8_dayIn rfl
theorem dX8_dayIn_34 : decode cX8_dayIn 34 = .ok (.aload_n 0, 1) := dq_42 dp_cX8_dayIn rfl
theorem dX8_dayIn_35 : decode cX8_dayIn 35 = .ok (.getfield 122, 3) := dq_180 dp_cX8_dayIn rfl
theorem dX8_dayIn_38 : decode cX8_dayIn 38 = .ok (.aload_n 0, 1) := dq_42 dp_cX8_dayIn rfl
theorem dX8_dayIn_39 : decode cX8_dayIn 39 = .ok (.getfield 7, 3) := dq_180 dp_cX8_dayIn rfl
theorem dX8_dayIn_42 : decode cX8_dayIn 42 = .ok (.if_icmp .ne 5, 3) := dq_160 (v := 5) dp_cX8_dayIn rfl rfl
theorem dX8_dayIn_45 : decode cX8_dayIn 45 = .ok (.iconst 1, 1) := dq_4 dp_cX8_dayIn rfl
theorem dX8_dayIn_46 : decode cX8_dayIn 46 = .ok (.ireturn, 1) := dq_172 dp_cX8_dayIn rfl
theorem dX8_dayIn_47 : decode cX8_dayIn 47 = .ok (.iconst 0, 1) := dq_3 dp_cX8_dayIn rfl
theorem dX8_dayIn_48 : decode cX8_dayIn 48 = .ok (.istore_n 2, 1) := dq_61 dp_cX8_dayIn rfl
theorem dX8_dayIn_49 : decode cX8_dayIn 49 = .ok (.iload_n 2, 1) := dq_28 dp_cX8_dayIn rfl
theorem dX8_dayIn_50 : decode cX8_dayIn 50 = .ok (.bipush 12, 2) := dq_16 (v := 12) dp_cX8_dayIn rfl rfl
theorem dX8_dayIn_52 : decode cX8_dayIn 52 = .ok (.if_icmp .ge 34, 3) := dq_162 (v := 34) dp_cX8_dayIn rfl rfl
theorem dX8_dayIn_55 : decode cX8_dayIn 55 = .ok (.aload_n 0, 1) := dq_42 dp_cX8_dayIn rfl
theorem dX8_dayIn_56 : decode cX8_dayIn 56 = .ok (.getfield 115, 3) := dq_180 dp_cX8_dayIn rfl
theorem dX8_dayIn_59 : decode cX8_dayIn 59 = .ok (.ifCond .le 27, 3) := dq_158 (v := 27) dp_cX8_dayIn rfl rfl
theorem dX8_dayIn_62 : decode cX8_dayIn 62 = .ok (.aload_n 0, 1) := dq_42 dp_cX8_dayIn rfl
theorem dX8_dayIn_63 : decode cX8_dayIn 63 = .ok (.iconst 2, 1) := dq_5 dp_cX8_dayIn rfl
theorem dX8_dayIn_64 : decode cX8_dayIn 64 = .ok (.invokevirtual 222, 3) := dq_182 dp_cX8_dayIn rfl
theorem dX8_dayIn_67 : decode cX8_dayIn 67 = .ok (.iconst (-1), 1) := dq_2 dp_cX8_dayIn rfl
theorem dX8_dayIn_68 : decode cX8_dayIn 68 = .ok (.if_icmp .eq 18, 3) := dq_159 (v := 18) dp_cX8_dayIn rfl rfl
theorem dX8_dayIn_71 : decode cX8_dayIn 71 = .ok (.aload_n 0, 1) := dq_42 dp_cX8_dayIn rfl
theorem dX8_dayIn_72 : decode cX8_dayIn 72 = .ok (.aload_n 0, 1) := dq_42 dp_cX8_dayIn rfl
theorem dX8_dayIn_73 : decode cX8_dayIn 73 = .ok (.iconst 2, 1) := dq_5 dp_cX8_dayIn rfl
theorem dX8_dayIn_74 : decode cX8_dayIn 74 = .ok (.invokevirtual 222, 3) := dq_182 dp_cX8_dayIn rfl
theorem dX8_dayIn_77 : decode cX8_dayIn 77 = .ok (.invokevirtual 276, 3) := dq_182 dp_cX8_dayIn rfl
theorem dX8_dayIn_80 : decode cX8_dayIn 80 = .ok (.iinc 2 1, 3) := dq_132 (v := 1) dp_cX8_dayIn rfl (by decide) rfl
theorem dX8_dayIn_83 : decode cX8_dayIn 83 = .ok (.goto (-34), 3) := dq_167 (v := 65502) dp_cX8_dayIn rfl rfl
theorem dX8_dayIn_86 : decode cX8_dayIn 86 = .ok (.iinc 1 1, 3) := dq_132 (v := 1) dp_cX8_dayIn rfl (by decide) rfl
theorem dX8_dayIn_89 : decode cX8_dayIn 89 = .ok (.goto (-71), 3) := dq_167 (v := 65465) dp_cX8_dayIn rfl rfl
theorem dX8_dayIn_92 : decode cX8_dayIn 92 = .ok (.iconst 0, 1) := dq_3 dp_cX8_dayIn rfl
theorem dX8_dayIn_93 : decode cX8_dayIn 93 = .ok (.ireturn, 1) := dq_172 dp_cX8_dayIn rfl
set_option maxRecDepth 20000 in
theorem gl_X8_winter_X80 : GoodIn wsX8_winter wsX80 := (dg_t (dg_r gw_wsX80))
theorem ggX8_winter_X8_no : GoodIn wsX8_winter wsX8_no := (dg_c 5 rfl rfl (dg_c 6 rfl rfl gl_X8_winter_X80))
set_option maxRecDepth 20000 in
theorem gX8_winter_X8_no : GoodIn wsX8_winter (wsV RX8 97 RX8 yX8_no wsX8_no) := goodIn_app (dg_c 1 rfl rfl (dg_c 2 rfl rfl (dg_c 3 rfl rfl (dg_c 4 rfl rfl dg_0)))) ggX8_winter_X8_no
set_option maxRecDepth 20000 in
theorem ggX8_winter_X8_dayIn : GoodIn wsX8_winter wsX8_dayIn := (dg_c 10 rfl rfl (goodIn_app (goodIn_app (dg_c 11 rfl rfl (dg_c 12 rfl rfl (dg_c 13 rfl rfl (dg_c 14 rfl rfl (dg_c 15 rfl rfl (dg_c 16 rfl rfl (dg_c 17 rfl rfl (dg_c 4 rfl rfl (dg_c 18 rfl rfl (dg_c 19 rfl rfl (dg_c 20 rfl rfl (dg_c 21 rfl rfl (dg_c 22 rfl rfl (dg_c 23 rfl rfl (dg_c 24 rfl rfl (dg_c 25 rfl rfl (dg_c 26 rfl rfl (dg_c 27 rfl rfl (dg_c 28 rfl rfl (dg_c 29 rfl rfl (dg_c 30 rfl rfl (dg_c 31 rfl rfl (dg_c 32 rfl rfl (dg_c 33 rfl rfl dg_0)))))))))))))))))))))))) (goodIn_app (dg_c 34 rfl rfl (dg_c 35 rfl rfl (dg_c 36 rfl rfl (dg_c 37 rfl rfl (dg_c 38 rfl rfl (dg_c 39 rfl rfl (dg_c 40 rfl rfl (dg_c 41 rfl rfl (dg_c 42 rfl rfl (dg_c 43 rfl rfl (dg_c 44 rfl rfl (dg_c 45 rfl rfl (dg_c 46 rfl rfl (dg_c 47 rfl rfl (dg_c 48 rfl rfl (dg_c 49 rfl rfl (dg_c 50 rfl rfl (dg_c 51 rfl rfl (dg_c 52 rfl rfl (dg_c 53 rfl rfl (dg_c 54 rfl rfl (dg_c 55 rfl rfl (dg_c 56 rfl rfl (dg_c 57 rfl rfl dg_0)))))))))))))))))))))))) (dg_c 58 rfl rfl (dg_c 59 rfl rfl (dg_c 60 rfl rfl (dg_c 61 rfl rfl (dg_c 62 rfl rfl (dg_c 63 rfl rfl (dg_c 64 rfl rfl (dg_c 65 rfl rfl (dg_c 66 rfl rfl (dg_c 67 rfl rfl (dg_c 68 rfl rfl (dg_c 69 rfl rfl (dg_c 70 rfl rfl (dg_c 71 rfl rfl (dg_c 72 rfl rfl (dg_c 73 rfl rfl (dg_c 74 rfl rfl (dg_c 75 rfl rfl (dg_c 76 rfl rfl (dg_c 77 rfl rfl dg_0)))))))))))))))))))))) gl_X8_winter_X80))
set_option maxRecDepth 20000 in
theorem gX8_winter_X8_dayIn : GoodIn wsX8_winter (wsV RX8 282 RX8 yX8_dayIn wsX8_dayIn) := goodIn_app (dg_c 7 rfl rfl (dg_c 8 rfl rfl (dg_c 9 rfl rfl (dg_c 4 rfl rfl dg_0)))) ggX8_winter_X8_dayIn
theorem dX8_winter_0 : decode cX8_winter 0 = .ok (.iload_n 1, 1) := dq_27 dp_cX8_winter rfl
theorem dX8_winter_1 : decode cX8_winter 1 = .ok (.iconst 1, 1) := dq_4 dp_cX8_winter rfl
theorem dX8_winter_2 : decode cX8_winter 2 = .ok (.if_icmp .lt 9, 3) := dq_161 (v := 9) dp_cX8_winter rfl rfl
theorem dX8_winter_5 : decode cX8_winter 5 = .ok (.iload_n 1, 1) := dq_27 dp_cX8_winter rfl
theorem dX8_winter_6 : decode cX8_winter 6 = .ok (.bipush 60, 2) := dq_16 (v := 60) dp_cX8_winter rfl rfl
theorem dX8_winter_8 : decode cX8_winter 8 = .ok (.if_icmp .le 10, 3) := dq_164 (v := 10) dp_cX8_winter rfl rfl
theorem dX8_winter_11 : decode cX8_winter 11 = .ok (.aload_n 0, 1) := dq_42 dp_cX8_winter rfl
theorem dX8_winter_12 : decode cX8_winter 12 = .ok (.bipush (-6), 2) := dq_16 (v := 250) dp_cX8_winter rfl rfl
theorem dX8_winter_14 : decode cX8_winter 14 = .ok (.invokevirtual 97, 3) := dq_182 dp_cX8_winter rfl
theorem dX8_winter_17 : decode cX8_winter 17 = .ok (.ireturn, 1) := dq_172 dp_cX8_winter rfl
theorem dX8_winter_18 : decode cX8_winter 18 = .ok (.iconst 0, 1) := dq_3 dp_cX8_winter rfl
theorem dX8_winter_19 : decode cX8_winter 19 = .ok (.istore_n 2, 1) := dq_61 dp_cX8_winter rfl
theorem dX8_winter_20 : decode cX8_winter 20 = .ok (.iconst 0, 1) := dq_3 dp_cX8_winter rfl
theorem dX8_winter_21 : decode cX8_winter 21 = .ok (.istore_n 3, 1) := dq_62 dp_cX8_winter rfl
theorem dX8_winter_22 : decode cX8_winter 22 = .ok (.iload_n 3, 1) := dq_29 dp_cX8_winter rfl
theorem dX8_winter_23 : decode cX8_winter 23 = .ok (.iload_n 1, 1) := dq_27 dp_cX8_winter rfl
theorem dX8_winter_24 : decode cX8_winter 24 = .ok (.if_icmp .ge 19, 3) := dq_162 (v := 19) dp_cX8_winter rfl rfl
theorem dX8_winter_27 : decode cX8_winter 27 = .ok (.aload_n 0, 1) := dq_42 dp_cX8_winter rfl
theorem dX8_winter_28 : decode cX8_winter 28 = .ok (.invokevirtual 282, 3) := dq_182 dp_cX8_winter rfl
theorem dX8_winter_31 : decode cX8_winter 31 = .ok (.ifCond .eq 6, 3) := dq_153 (v := 6) dp_cX8_winter rfl rfl
theorem dX8_winter_34 : decode cX8_winter 34 = .ok (.iinc 2 1, 3) := dq_132 (v := 1) dp_cX8_winter rfl (by decide) rfl
theorem dX8_winter_37 : decode cX8_winter 37 = .ok (.iinc 3 1, 3) := dq_132 (v := 1) dp_cX8_winter rfl (by decide) rfl
theorem dX8_winter_40 : decode cX8_winter 40 = .ok (.goto (-18), 3) := dq_167 (v := 65518) dp_cX8_winter rfl rfl
theorem dX8_winter_43 : decode cX8_winter 43 = .ok (.iload_n 2, 1) := dq_28 dp_cX8_winter rfl
theorem dX8_winter_44 : decode cX8_winter 44 = .ok (.ireturn, 1) := dq_172 dp_cX8_winter rfl
set_option maxRecDepth 20000 in
theorem gl_X8_stitch_X80 : GoodIn wsX8_stitch wsX80 := (dg_t (dg_t (dg_t (dg_t (dg_t (dg_t (dg_t (dg_t (dg_t (dg_t (dg_t (dg_t (dg_t gw_wsX80)))))))))))))
theorem ggX8_stitch_X8_isTooth : GoodIn wsX8_stitch wsX8_isTooth := (dg_c 6 rfl rfl (dg_c 7 rfl rfl gl_X8_stitch_X80))
set_option maxRecDepth 20000 in
theorem gX8_stitch_X8_isTooth : GoodIn wsX8_stitch (wsV RX8 129 RX8 yX8_isTooth wsX8_isTooth) := goodIn_app (dg_c 2 rfl rfl (dg_c 3 rfl rfl (dg_c 4 rfl rfl (dg_c 5 rfl rfl dg_0)))) ggX8_stitch_X8_isTooth
set_option maxRecDepth 20000 in
theorem ggX8_stitch_X8_no : GoodIn wsX8_stitch wsX8_no := (dg_c 11 rfl rfl (dg_c 12 rfl rfl gl_X8_stitch_X80))
set_option maxRecDepth 20000 in
theorem gX8_stitch_X8_no : GoodIn wsX8_stitch (wsV RX8 97 RX8 yX8_no wsX8_no) := goodIn_app (dg_c 8 rfl rfl (dg_c 9 rfl rfl (dg_c 10 rfl rfl (dg_c 5 rfl rfl dg_0)))) ggX8_stitch_X8_no
theorem dX8_stitch_0 : decode cX8_stitch 0 = .ok (.aload_n 0, 1) := dq_42 dp_cX8_stitch rfl
theorem dX8_stitch_1 : decode cX8_stitch 1 = .ok (.iload_n 1, 1) := dq_27 dp_cX8_stitch rfl
theorem dX8_stitch_2 : decode cX8_stitch 2 = .ok (.invokevirtual 129, 3) := dq_182 dp_cX8_stitch rfl
theorem dX8_stitch_5 : decode cX8_stitch 5 = .ok (.ifCond .ne 9, 3) := dq_154 (v := 9) dp_cX8_stitch rfl rfl
theorem dX8_stitch_8 : decode cX8_stitch 8 = .ok (.aload_n 0, 1) := dq_42 dp_cX8_stitch rfl
theorem dX8_stitch_9 : decode cX8_stitch 9 = .ok (.iconst (-1), 1) := dq_2 dp_cX8_stitch rfl
theorem dX8_stitch_10 : decode cX8_stitch 10 = .ok (.invokevirtual 97, 3) := dq_182 dp_cX8_stitch rfl
theorem dX8_stitch_13 : decode cX8_stitch 13 = .ok (.ireturn, 1) := dq_172 dp_cX8_stitch rfl
theorem dX8_stitch_14 : decode cX8_stitch 14 = .ok (.iconst 0, 1) := dq_3 dp_cX8_stitch rfl
theorem dX8_stitch_15 : decode cX8_stitch 15 = .ok (.istore_n 2, 1) := dq_61 dp_cX8_stitch rfl
theorem dX8_stitch_16 : decode cX8_stitch 16 = .ok (.iload_n 1, 1) := dq_27 dp_cX8_stitch rfl
theorem dX8_stitch_17 : decode cX8_stitch 17 = .ok (.iconst 2, 1) := dq_5 dp_cX8_stitch rfl
theorem dX8_stitch_18 : decode cX8_stitch 18 = .ok (.isub, 1) := dq_100 dp_cX8_stitch rfl
theorem dX8_stitch_19 : decode cX8_stitch 19 = .ok (.istore_n 3, 1) := dq_62 dp_cX8_stitch rfl
theorem dX8_stitch_20 : decode cX8_stitch 20 = .ok (.iload_n 3, 1) := dq_29 dp_cX8_stitch rfl
theorem dX8_stitch_21 : decode cX8_stitch 21 = .ok (.iload_n 1, 1) := dq_27 dp_cX8_stitch rfl
theorem dX8_stitch_22 : decode cX8_stitch 22 = .ok (.iconst 2, 1) := dq_5 dp_cX8_stitch rfl
theorem dX8_stitch_23 : decode cX8_stitch 23 = .ok (.iadd, 1) := dq_96 dp_cX8_stitch rfl
theorem dX8_stitch_24 : decode cX8_stitch 24 = .ok (.if_icmp .gt 36, 3) := dq_163 (v := 36) dp_cX8_stitch rfl rfl
theorem dX8_stitch_27 : decode cX8_stitch 27 = .ok (.aload_n 0, 1) := dq_42 dp_cX8_stitch rfl
theorem dX8_stitch_28 : decode cX8_stitch 28 = .ok (.iload_n 3, 1) := dq_29 dp_cX8_stitch rfl
theorem dX8_stitch_29 : decode cX8_stitch 29 = .ok (.invokevirtual 129, 3) := dq_182 dp_cX8_stitch rfl
theorem dX8_stitch_32 : decode cX8_stitch 32 = .ok (.ifCond .ne 6, 3) := dq_154 (v := 6) dp_cX8_stitch rfl rfl
theorem dX8_stitch_35 : decode cX8_stitch 35 = .ok (.goto 19, 3) := dq_167 (v := 19) dp_cX8_stitch rfl rfl
theorem dX8_stitch_38 : decode cX8_stitch 38 = .ok (.iload_n 2, 1) := dq_28 dp_cX8_stitch rfl
theorem dX8_stitch_39 : decode cX8_stitch 39 = .ok (.aload_n 0, 1) := dq_42 dp_cX8_stitch rfl
theorem dX8_stitch_40 : decode cX8_stitch 40 = .ok (.getfield 41, 3) := dq_180 dp_cX8_stitch rfl
theorem dX8_stitch_43 : decode cX8_stitch 43 = .ok (.iload_n 3, 1) := dq_29 dp_cX8_stitch rfl
theorem dX8_stitch_44 : decode cX8_stitch 44 = .ok (.iaload, 1) := dq_46 dp_cX8_stitch rfl
theorem dX8_stitch_45 : decode cX8_stitch 45 = .ok (.iadd, 1) := dq_96 dp_cX8_stitch rfl
theorem dX8_stitch_46 : decode cX8_stitch 46 = .ok (.istore_n 2, 1) := dq_61 dp_cX8_stitch rfl
theorem dX8_stitch_47 : decode cX8_stitch 47 = .ok (.aload_n 0, 1) := dq_42 dp_cX8_stitch rfl
theorem dX8_stitch_48 : decode cX8_stitch 48 = .ok (.getfield 41, 3) := dq_180 dp_cX8_stitch rfl
theorem dX8_stitch_51 : decode cX8_stitch 51 = .ok (.iload_n 3, 1) := dq_29 dp_cX8_stitch rfl
theorem dX8_stitch_52 : decode cX8_stitch 52 = .ok (.iconst 0, 1) := dq_3 dp_cX8_stitch rfl
theorem dX8_stitch_53 : decode cX8_stitch 53 = .ok (.iastore, 1) := dq_79 dp_cX8_stitch rfl
theorem dX8_stitch_54 : decode cX8_stitch 54 = .ok (.iinc 3 1, 3) := dq_132 (v := 1) dp_cX8_stitch rfl (by decide) rfl
theorem dX8_stitch_57 : decode cX8_stitch 57 = .ok (.goto (-37), 3) := dq_167 (v := 65499) dp_cX8_stitch rfl rfl
theorem dX8_stitch_60 : decode cX8_stitch 60 = .ok (.iload_n 2, 1) := dq_28 dp_cX8_stitch rfl
theorem dX8_stitch_61 : decode cX8_stitch 61 = .ok (.ireturn, 1) := dq_172 dp_cX8_stitch rfl
theorem dX8_seed_0 : decode cX8_seed 0 = .ok (.aload_n 0, 1) := dq_42 dp_cX8_seed rfl
theorem dX8_seed_1 : decode cX8_seed 1 = .ok (.getfield 19, 3) := dq_180 dp_cX8_seed rfl
theorem dX8_seed_4 : decode cX8_seed 4 = .ok (.istore_n 2, 1) := dq_61 dp_cX8_seed rfl
theorem dX8_seed_5 : decode cX8_seed 5 = .ok (.aload_n 0, 1) := dq_42 dp_cX8_seed rfl
theorem dX8_seed_6 : decode cX8_seed 6 = .ok (.iload_n 1, 1) := dq_27 dp_cX8_seed rfl
theorem dX8_seed_7 : decode cX8_seed 7 = .ok (.putfield 19, 3) := dq_181 dp_cX8_seed rfl
theorem dX8_seed_10 : decode cX8_seed 10 = .ok (.iload_n 2, 1) := dq_28 dp_cX8_seed rfl
theorem dX8_seed_11 : decode cX8_seed 11 = .ok (.ireturn, 1) := dq_172 dp_cX8_seed rfl
theorem dX8_body_0 : decode cX8_body 0 = .ok (.aload_n 0, 1) := dq_42 dp_cX8_body rfl
theorem dX8_body_1 : decode cX8_body 1 = .ok (.getfield 285, 3) := dq_180 dp_cX8_body rfl
theorem dX8_body_4 : decode cX8_body 4 = .ok (.bipush 20, 2) := dq_16 (v := 20) dp_cX8_body rfl rfl
theorem dX8_body_6 : decode cX8_body 6 = .ok (.if_icmp .ge 13, 3) := dq_162 (v := 13) dp_cX8_body rfl rfl
theorem dX8_body_9 : decode cX8_body 9 = .ok (.aload_n 0, 1) := dq_42 dp_cX8_body rfl
theorem dX8_body_10 : decode cX8_body 10 = .ok (.getfield 87, 3) := dq_180 dp_cX8_body rfl
theorem dX8_body_13 : decode cX8_body 13 = .ok (.aload_n 0, 1) := dq_42 dp_cX8_body rfl
theorem dX8_body_14 : decode cX8_body 14 = .ok (.getfield 285, 3) := dq_180 dp_cX8_body rfl
theorem dX8_body_17 : decode cX8_body 17 = .ok (.iload_n 1, 1) := dq_27 dp_cX8_body rfl
theorem dX8_body_18 : decode cX8_body 18 = .ok (.iastore, 1) := dq_79 dp_cX8_body rfl
theorem dX8_body_19 : decode cX8_body 19 = .ok (.aload_n 0, 1) := dq_42 dp_cX8_body rfl
theorem dX8_body_20 : decode cX8_body 20 = .ok (.dup, 1) := dq_89 dp_cX8_body rfl
theorem dX8_body_21 : decode cX8_body 21 = .ok (.getfield 285, 3) := dq_180 dp_cX8_body rfl
theorem dX8_body_24 : decode cX8_body 24 = .ok (.iconst 1, 1) := dq_4 dp_cX8_body rfl
theorem dX8_body_25 : decode cX8_body 25 = .ok (.iadd, 1) := dq_96 dp_cX8_body rfl
theorem dX8_body_26 : decode cX8_body 26 = .ok (.putfield 285, 3) := dq_181 dp_cX8_body rfl
theorem dX8_body_29 : decode cX8_body 29 = .ok (.return_, 1) := dq_177 dp_cX8_body rfl
set_option maxRecDepth 20000 in
theorem gl_X8_pulling_X80 : GoodIn wsX8_pulling wsX80 := (dg_t (dg_t (dg_t (dg_t (dg_t (dg_t (dg_t (dg_t (dg_t (dg_t gw_wsX80))))))))))
theorem ggX8_pulling_X8_body : GoodIn wsX8_pulling wsX8_body := (dg_c 7 rfl rfl (dg_c 8 rfl rfl (dg_c 9 rfl rfl gl_X8_pulling_X80)))
set_option maxRecDepth 20000 in
theorem gX8_pulling_X8_body : GoodIn wsX8_pulling (wsV RX8 288 RX8 yX8_body wsX8_body) := goodIn_app (dg_c 3 rfl rfl (dg_c 4 rfl rfl (dg_c 5 rfl rfl (dg_c 6 rfl rfl dg_0)))) ggX8_pulling_X8_body
theorem dX8_pulling_0 : decode cX8_pulling 0 = .ok (.aload_n 0, 1) := dq_42 dp_cX8_pulling rfl
theorem dX8_pulling_1 : decode cX8_pulling 1 = .ok (.getfield 29, 3) := dq_180 dp_cX8_pulling rfl
theorem dX8_pulling_4 : decode cX8_pulling 4 = .ok (.iload_n 1, 1) := dq_27 dp_cX8_pulling rfl
theorem dX8_pulling_5 : decode cX8_pulling 5 = .ok (.iaload, 1) := dq_46 dp_cX8_pulling rfl
theorem dX8_pulling_6 : decode cX8_pulling 6 = .ok (.istore_n 3, 1) := dq_62 dp_cX8_pulling rfl
theorem dX8_pulling_7 : decode cX8_pulling 7 = .ok (.iload_n 3, 1) := dq_29 dp_cX8_pulling rfl
theorem dX8_pulling_8 : decode cX8_pulling 8 = .ok (.bipush 6, 2) := dq_16 (v := 6) dp_cX8_pulling rfl rfl
theorem dX8_pulling_10 : decode cX8_pulling 10 = .ok (.if_icmp .ne 9, 3) := dq_160 (v := 9) dp_cX8_pulling rfl rfl
theorem dX8_pulling_13 : decode cX8_pulling 13 = .ok (.aload_n 0, 1) := dq_42 dp_cX8_pulling rfl
theorem dX8_pulling_14 : decode cX8_pulling 14 = .ok (.bipush 70, 2) := dq_16 (v := 70) dp_cX8_pulling rfl rfl
theorem dX8_pulling_16 : decode cX8_pulling 16 = .ok (.invokevirtual 288, 3) := dq_182 dp_cX8_pulling rfl
theorem dX8_pulling_19 : decode cX8_pulling 19 = .ok (.iload_n 3, 1) := dq_29 dp_cX8_pulling rfl
theorem dX8_pulling_20 : decode cX8_pulling 20 = .ok (.iconst 4, 1) := dq_7 dp_cX8_pulling rfl
theorem dX8_pulling_21 : decode cX8_pulling 21 = .ok (.if_icmp .eq 9, 3) := dq_159 (v := 9) dp_cX8_pulling rfl rfl
theorem dX8_pulling_24 : decode cX8_pulling 24 = .ok (.iload_n 3, 1) := dq_29 dp_cX8_pulling rfl
theorem dX8_pulling_25 : decode cX8_pulling 25 = .ok (.bipush 6, 2) := dq_16 (v := 6) dp_cX8_pulling rfl rfl
theorem dX8_pulling_27 : decode cX8_pulling 27 = .ok (.if_icmp .ne 9, 3) := dq_160 (v := 9) dp_cX8_pulling rfl rfl
theorem dX8_pulling_30 : decode cX8_pulling 30 = .ok (.aload_n 0, 1) := dq_42 dp_cX8_pulling rfl
theorem dX8_pulling_31 : decode cX8_pulling 31 = .ok (.bipush 51, 2) := dq_16 (v := 51) dp_cX8_pulling rfl rfl
theorem dX8_pulling_33 : decode cX8_pulling 33 = .ok (.invokevirtual 288, 3) := dq_182 dp_cX8_pulling rfl
theorem dX8_pulling_36 : decode cX8_pulling 36 = .ok (.iload_n 3, 1) := dq_29 dp_cX8_pulling rfl
theorem dX8_pulling_37 : decode cX8_pulling 37 = .ok (.iconst 1, 1) := dq_4 dp_cX8_pulling rfl
theorem dX8_pulling_38 : decode cX8_pulling 38 = .ok (.if_icmp .eq 8, 3) := dq_159 (v := 8) dp_cX8_pulling rfl rfl
theorem dX8_pulling_41 : decode cX8_pulling 41 = .ok (.iload_n 3, 1) := dq_29 dp_cX8_pulling rfl
theorem dX8_pulling_42 : decode cX8_pulling 42 = .ok (.iconst 3, 1) := dq_6 dp_cX8_pulling rfl
theorem dX8_pulling_43 : decode cX8_pulling 43 = .ok (.if_icmp .ne 9, 3) := dq_160 (v := 9) dp_cX8_pulling rfl rfl
theorem dX8_pulling_46 : decode cX8_pulling 46 = .ok (.aload_n 0, 1) := dq_42 dp_cX8_pulling rfl
theorem dX8_pulling_47 : decode cX8_pulling 47 = .ok (.bipush 20, 2) := dq_16 (v := 20) dp_cX8_pulling rfl rfl
theorem dX8_pulling_49 : decode cX8_pulling 49 = .ok (.invokevirtual 288, 3) := dq_182 dp_cX8_pulling rfl
theorem dX8_pulling_52 : decode cX8_pulling 52 = .ok (.aload_n 0, 1) := dq_42 dp_cX8_pulling rfl
theorem dX8_pulling_53 : decode cX8_pulling 53 = .ok (.bipush 10, 2) := dq_16 (v := 10) dp_cX8_pulling rfl rfl
theorem dX8_pulling_55 : decode cX8_pulling 55 = .ok (.invokevirtual 288, 3) := dq_182 dp_cX8_pulling rfl
theorem dX8_pulling_58 : decode cX8_pulling 58 = .ok (.iload_n 2, 1) := dq_28 dp_cX8_pulling rfl
theorem dX8_pulling_59 : decode cX8_pulling 59 = .ok (.iload_n 1, 1) := dq_27 dp_cX8_pulling rfl
theorem dX8_pulling_60 : decode cX8_pulling 60 = .ok (.iadd, 1) := dq_96 dp_cX8_pulling rfl
theorem dX8_pulling_61 : decode cX8_pulling 61 = .ok (.istore 4, 2) := dq_54 dp_cX8_pulling rfl
theorem dX8_pulling_63 : decode cX8_pulling 63 = .ok (.iload_n 3, 1) := dq_29 dp_cX8_pulling rfl
theorem dX8_pulling_64 : decode cX8_pulling 64 = .ok (.iconst 1, 1) := dq_4 dp_cX8_pulling rfl
theorem dX8_pulling_65 : decode cX8_pulling 65 = .ok (.if_icmp .eq 8, 3) := dq_159 (v := 8) dp_cX8_pulling rfl rfl
theorem dX8_pulling_68 : decode cX8_pulling 68 = .ok (.iload_n 3, 1) := dq_29 dp_cX8_pulling rfl
theorem dX8_pulling_69 : decode cX8_pulling 69 = .ok (.iconst 3, 1) := dq_6 dp_cX8_pulling rfl
theorem dX8_pulling_70 : decode cX8_pulling 70 = .ok (.if_icmp .ne 14, 3) := dq_160 (v := 14) dp_cX8_pulling rfl rfl
theorem dX8_pulling_73 : decode cX8_pulling 73 = .ok (.iload 4, 2) := dq_21 dp_cX8_pulling rfl
theorem dX8_pulling_75 : decode cX8_pulling 75 = .ok (.aload_n 0, 1) := dq_42 dp_cX8_pulling rfl
theorem dX8_pulling_76 : decode cX8_pulling 76 = .ok (.getfield 32, 3) := dq_180 dp_cX8_pulling rfl
theorem dX8_pulling_79 : decode cX8_pulling 79 = .ok (.iload_n 1, 1) := dq_27 dp_cX8_pulling rfl
theorem dX8_pulling_80 : decode cX8_pulling 80 = .ok (.iaload, 1) := dq_46 dp_cX8_pulling rfl
theorem dX8_pulling_81 : decode cX8_pulling 81 = .ok (.iadd, 1) := dq_96 dp_cX8_pulling rfl
theorem dX8_pulling_82 : decode cX8_pulling 82 = .ok (.istore 4, 2) := dq_54 dp_cX8_pulling rfl
theorem dX8_pulling_84 : decode cX8_pulling 84 = .ok (.iload_n 3, 1) := dq_29 dp_cX8_pulling rfl
theorem dX8_pulling_85 : decode cX8_pulling 85 = .ok (.iconst 4, 1) := dq_7 dp_cX8_pulling rfl
theorem dX8_pulling_86 : decode cX8_pulling 86 = .ok (.if_icmp .eq 9, 3) := dq_159 (v := 9) dp_cX8_pulling rfl rfl
theorem dX8_pulling_89 : decode cX8_pulling 89 = .ok (.iload_n 3, 1) := dq_29 dp_cX8_pulling rfl
theorem dX8_pulling_90 : decode cX8_pulling 90 = .ok (.bipush 6, 2) := dq_16 (v := 6) dp_cX8_pulling rfl rfl
theorem dX8_pulling_92 : decode cX8_pulling 92 = .ok (.if_icmp .ne 9, 3) := dq_160 (v := 9) dp_cX8_pulling rfl rfl
theorem dX8_pulling_95 : decode cX8_pulling 95 = .ok (.iload 4, 2) := dq_21 dp_cX8_pulling rfl
theorem dX8_pulling_97 : decode cX8_pulling 97 = .ok (.iload_n 1, 1) := dq_27 dp_cX8_pulling rfl
theorem dX8_pulling_98 : decode cX8_pulling 98 = .ok (.isub, 1) := dq_100 dp_cX8_pulling rfl
theorem dX8_pulling_99 : decode cX8_pulling 99 = .ok (.istore 4, 2) := dq_54 dp_cX8_pulling rfl
theorem dX8_pulling_101 : decode cX8_pulling 101 = .ok (.iload_n 3, 1) := dq_29 dp_cX8_pulling rfl
theorem dX8_pulling_102 : decode cX8_pulling 102 = .ok (.bipush 6, 2) := dq_16 (v := 6) dp_cX8_pulling rfl rfl
theorem dX8_pulling_104 : decode cX8_pulling 104 = .ok (.if_icmp .ne 10, 3) := dq_160 (v := 10) dp_cX8_pulling rfl rfl
theorem dX8_pulling_107 : decode cX8_pulling 107 = .ok (.iload 4, 2) := dq_21 dp_cX8_pulling rfl
theorem dX8_pulling_109 : decode cX8_pulling 109 = .ok (.iconst 2, 1) := dq_5 dp_cX8_pulling rfl
theorem dX8_pulling_110 : decode cX8_pulling 110 = .ok (.imul, 1) := dq_104 dp_cX8_pulling rfl
theorem dX8_pulling_111 : decode cX8_pulling 111 = .ok (.goto 5, 3) := dq_167 (v := 5) dp_cX8_pulling rfl rfl
theorem dX8_pulling_114 : decode cX8_pulling 114 = .ok (.iload 4, 2) := dq_21 dp_cX8_pulling rfl
theorem dX8_pulling_116 : decode cX8_pulling 116 = .ok (.ireturn, 1) := dq_172 dp_cX8_pulling rfl
set_option maxRecDepth 20000 in
theorem gl_X8_freeing_X80 : GoodIn wsX8_freeing wsX80 := (dg_t (dg_t (dg_t (dg_t (dg_t (dg_t (dg_t (dg_t (dg_t (dg_t (dg_t (dg_t (dg_t (dg_t gw_wsX80))))))))))))))
theorem ggX8_freeing_X8_body : GoodIn wsX8_freeing wsX8_body := (dg_c 7 rfl rfl (dg_c 8 rfl rfl (dg_c 9 rfl rfl gl_X8_freeing_X80)))
set_option maxRecDepth 20000 in
theorem gX8_freeing_X8_body : GoodIn wsX8_freeing (wsV RX8 288 RX8 yX8_body wsX8_body) := goodIn_app (dg_c 3 rfl rfl (dg_c 4 rfl rfl (dg_c 5 rfl rfl (dg_c 6 rfl rfl dg_0)))) ggX8_freeing_X8_body
set_option maxRecDepth 20000 in
theorem ggX8_freeing_X8_pulling : GoodIn wsX8_freeing wsX8_pulling := (dg_c 13 rfl rfl (dg_c 1 rfl rfl (dg_c 2 rfl rfl (dg_c 3 rfl rfl (dg_c 4 rfl rfl (dg_c 5 rfl rfl (dg_c 6 rfl rfl (dg_c 7 rfl rfl (dg_c 8 rfl rfl (dg_c 9 rfl rfl gl_X8_freeing_X80))))))))))
set_option maxRecDepth 20000 in
theorem gX8_freeing_X8_pulling : GoodIn wsX8_freeing (wsV RX8 291 RX8 yX8_pulling wsX8_pulling) := goodIn_app (dg_c 10 rfl rfl (dg_c 11 rfl rfl (dg_c 12 rfl rfl (dg_c 6 rfl rfl dg_0)))) ggX8_freeing_X8_pulling
theorem dX8_freeing_0 : decode cX8_freeing 0 = .ok (.aload_n 0, 1) := dq_42 dp_cX8_freeing rfl
theorem dX8_freeing_1 : decode cX8_freeing 1 = .ok (.getfield 29, 3) := dq_180 dp_cX8_freeing rfl
theorem dX8_freeing_4 : decode cX8_freeing 4 = .ok (.iload_n 1, 1) := dq_27 dp_cX8_freeing rfl
theorem dX8_freeing_5 : decode cX8_freeing 5 = .ok (.iaload, 1) := dq_46 dp_cX8_freeing rfl
theorem dX8_freeing_6 : decode cX8_freeing 6 = .ok (.istore_n 3, 1) := dq_62 dp_cX8_freeing rfl
theorem dX8_freeing_7 : decode cX8_freeing 7 = .ok (.iload_n 2, 1) := dq_28 dp_cX8_freeing rfl
theorem dX8_freeing_8 : decode cX8_freeing 8 = .ok (.istore 4, 2) := dq_54 dp_cX8_freeing rfl
theorem dX8_freeing_10 : decode cX8_freeing 10 = .ok (.iload_n 3, 1) := dq_29 dp_cX8_freeing rfl
theorem dX8_freeing_11 : decode cX8_freeing 11 = .ok (.bipush 6, 2) := dq_16 (v := 6) dp_cX8_freeing rfl rfl
theorem dX8_freeing_13 : decode cX8_freeing 13 = .ok (.if_icmp .ne 19, 3) := dq_160 (v := 19) dp_cX8_freeing rfl rfl
theorem dX8_freeing_16 : decode cX8_freeing 16 = .ok (.aload_n 0, 1) := dq_42 dp_cX8_freeing rfl
theorem dX8_freeing_17 : decode cX8_freeing 17 = .ok (.bipush 71, 2) := dq_16 (v := 71) dp_cX8_freeing rfl rfl
theorem dX8_freeing_19 : decode cX8_freeing 19 = .ok (.invokevirtual 288, 3) := dq_182 dp_cX8_freeing rfl
theorem dX8_freeing_22 : decode cX8_freeing 22 = .ok (.iload_n 2, 1) := dq_28 dp_cX8_freeing rfl
theorem dX8_freeing_23 : decode cX8_freeing 23 = .ok (.aload_n 0, 1) := dq_42 dp_cX8_freeing rfl
theorem dX8_freeing_24 : decode cX8_freeing 24 = .ok (.getfield 32, 3) := dq_180 dp_cX8_freeing rfl
theorem dX8_freeing_27 : decode cX8_freeing 27 = .ok (.iload_n 1, 1) := dq_27 dp_cX8_freeing rfl
theorem dX8_freeing_28 : decode cX8_freeing 28 = .ok (.iaload, 1) := dq_46 dp_cX8_freeing rfl
theorem dX8_freeing_29 : decode cX8_freeing 29 = .ok (.isub, 1) := dq_100 dp_cX8_freeing rfl
theorem dX8_freeing_30 : decode cX8_freeing 30 = .ok (.istore 4, 2) := dq_54 dp_cX8_freeing rfl
theorem dX8_freeing_32 : decode cX8_freeing 32 = .ok (.iload_n 3, 1) := dq_29 dp_cX8_freeing rfl
theorem dX8_freeing_33 : decode cX8_freeing 33 = .ok (.iconst 3, 1) := dq_6 dp_cX8_freeing rfl
theorem dX8_freeing_34 : decode cX8_freeing 34 = .ok (.if_icmp .ne 14, 3) := dq_160 (v := 14) dp_cX8_freeing rfl rfl
theorem dX8_freeing_37 : decode cX8_freeing 37 = .ok (.aload_n 0, 1) := dq_42 dp_cX8_freeing rfl
theorem dX8_freeing_38 : decode cX8_freeing 38 = .ok (.bipush 40, 2) := dq_16 (v := 40) dp_cX8_freeing rfl rfl
theorem dX8_freeing_40 : decode cX8_freeing 40 = .ok (.invokevirtual 288, 3) := dq_182 dp_cX8_freeing rfl
theorem dX8_freeing_43 : decode cX8_freeing 43 = .ok (.iload_n 2, 1) := dq_28 dp_cX8_freeing rfl
theorem dX8_freeing_44 : decode cX8_freeing 44 = .ok (.iconst 1, 1) := dq_4 dp_cX8_freeing rfl
theorem dX8_freeing_45 : decode cX8_freeing 45 = .ok (.iadd, 1) := dq_96 dp_cX8_freeing rfl
theorem dX8_freeing_46 : decode cX8_freeing 46 = .ok (.istore 4, 2) := dq_54 dp_cX8_freeing rfl
theorem dX8_freeing_48 : decode cX8_freeing 48 = .ok (.iload_n 3, 1) := dq_29 dp_cX8_freeing rfl
theorem dX8_freeing_49 : decode cX8_freeing 49 = .ok (.iconst 2, 1) := dq_5 dp_cX8_freeing rfl
theorem dX8_freeing_50 : decode cX8_freeing 50 = .ok (.if_icmp .eq 8, 3) := dq_159 (v := 8) dp_cX8_freeing rfl rfl
theorem dX8_freeing_53 : decode cX8_freeing 53 = .ok (.iload_n 3, 1) := dq_29 dp_cX8_freeing rfl
theorem dX8_freeing_54 : decode cX8_freeing 54 = .ok (.iconst 5, 1) := dq_8 dp_cX8_freeing rfl
theorem dX8_freeing_55 : decode cX8_freeing 55 = .ok (.if_icmp .ne 7, 3) := dq_160 (v := 7) dp_cX8_freeing rfl rfl
theorem dX8_freeing_58 : decode cX8_freeing 58 = .ok (.iconst 1, 1) := dq_4 dp_cX8_freeing rfl
theorem dX8_freeing_59 : decode cX8_freeing 59 = .ok (.goto 4, 3) := dq_167 (v := 4) dp_cX8_freeing rfl rfl
theorem dX8_freeing_62 : decode cX8_freeing 62 = .ok (.iconst 0, 1) := dq_3 dp_cX8_freeing rfl
theorem dX8_freeing_63 : decode cX8_freeing 63 = .ok (.istore 5, 2) := dq_54 dp_cX8_freeing rfl
theorem dX8_freeing_65 : decode cX8_freeing 65 = .ok (.iload 5, 2) := dq_21 dp_cX8_freeing rfl
theorem dX8_freeing_67 : decode cX8_freeing 67 = .ok (.ifCond .eq 9, 3) := dq_153 (v := 9) dp_cX8_freeing rfl rfl
theorem dX8_freeing_70 : decode cX8_freeing 70 = .ok (.aload_n 0, 1) := dq_42 dp_cX8_freeing rfl
theorem dX8_freeing_71 : decode cX8_freeing 71 = .ok (.bipush 30, 2) := dq_16 (v := 30) dp_cX8_freeing rfl rfl
theorem dX8_freeing_73 : decode cX8_freeing 73 = .ok (.invokevirtual 288, 3) := dq_182 dp_cX8_freeing rfl
theorem dX8_freeing_76 : decode cX8_freeing 76 = .ok (.aload_n 0, 1) := dq_42 dp_cX8_freeing rfl
theorem dX8_freeing_77 : decode cX8_freeing 77 = .ok (.bipush 11, 2) := dq_16 (v := 11) dp_cX8_freeing rfl rfl
theorem dX8_freeing_79 : decode cX8_freeing 79 = .ok (.invokevirtual 288, 3) := dq_182 dp_cX8_freeing rfl
theorem dX8_freeing_82 : decode cX8_freeing 82 = .ok (.aload_n 0, 1) := dq_42 dp_cX8_freeing rfl
theorem dX8_freeing_83 : decode cX8_freeing 83 = .ok (.iload_n 1, 1) := dq_27 dp_cX8_freeing rfl
theorem dX8_freeing_84 : decode cX8_freeing 84 = .ok (.iload 4, 2) := dq_21 dp_cX8_freeing rfl
theorem dX8_freeing_86 : decode cX8_freeing 86 = .ok (.invokevirtual 291, 3) := dq_182 dp_cX8_freeing rfl
theorem dX8_freeing_89 : decode cX8_freeing 89 = .ok (.iconst 2, 1) := dq_5 dp_cX8_freeing rfl
theorem dX8_freeing_90 : decode cX8_freeing 90 = .ok (.imul, 1) := dq_104 dp_cX8_freeing rfl
theorem dX8_freeing_91 : decode cX8_freeing 91 = .ok (.istore 6, 2) := dq_54 dp_cX8_freeing rfl
theorem dX8_freeing_93 : decode cX8_freeing 93 = .ok (.iload 5, 2) := dq_21 dp_cX8_freeing rfl
theorem dX8_freeing_95 : decode cX8_freeing 95 = .ok (.ifCond .eq 10, 3) := dq_153 (v := 10) dp_cX8_freeing rfl rfl
theorem dX8_freeing_98 : decode cX8_freeing 98 = .ok (.iload 6, 2) := dq_21 dp_cX8_freeing rfl
theorem dX8_freeing_100 : decode cX8_freeing 100 = .ok (.iconst 3, 1) := dq_6 dp_cX8_freeing rfl
theorem dX8_freeing_101 : decode cX8_freeing 101 = .ok (.imul, 1) := dq_104 dp_cX8_freeing rfl
theorem dX8_freeing_102 : decode cX8_freeing 102 = .ok (.goto 5, 3) := dq_167 (v := 5) dp_cX8_freeing rfl rfl
theorem dX8_freeing_105 : decode cX8_freeing 105 = .ok (.iload 6, 2) := dq_21 dp_cX8_freeing rfl
theorem dX8_freeing_107 : decode cX8_freeing 107 = .ok (.ireturn, 1) := dq_172 dp_cX8_freeing rfl
set_option maxRecDepth 20000 in
theorem gl_X8_resting_X80 : GoodIn wsX8_resting wsX80 := (dg_t (dg_t (dg_t (dg_t (dg_t (dg_t (dg_t (dg_t (dg_t (dg_t (dg_t (dg_t (dg_t (dg_t (dg_t (dg_t (dg_t (dg_t gw_wsX80))))))))))))))))))
theorem ggX8_resting_X8_body : GoodIn wsX8_resting wsX8_body := (dg_c 7 rfl rfl (dg_c 8 rfl rfl (dg_c 9 rfl rfl gl_X8_resting_X80)))
set_option maxRecDepth 20000 in
theorem gX8_resting_X8_body : GoodIn wsX8_resting (wsV RX8 288 RX8 yX8_body wsX8_body) := goodIn_app (dg_c 3 rfl rfl (dg_c 4 rfl rfl (dg_c 5 rfl rfl (dg_c 6 rfl rfl dg_0)))) ggX8_resting_X8_body
set_option maxRecDepth 20000 in
theorem ggX8_resting_X8_freeing : GoodIn wsX8_resting wsX8_freeing := (dg_c 13 rfl rfl (dg_c 1 rfl rfl (dg_c 2 rfl rfl (dg_c 3 rfl rfl (dg_c 4 rfl rfl (dg_c 5 rfl rfl (dg_c 6 rfl rfl (dg_c 7 rfl rfl (dg_c 8 rfl rfl (dg_c 9 rfl rfl (dg_c 14 rfl rfl (dg_c 15 rfl rfl (dg_c 16 rfl rfl (dg_c 17 rfl rfl gl_X8_resting_X80))))))))))))))
set_option maxRecDepth 20000 in
theorem gX8_resting_X8_freeing : GoodIn wsX8_resting (wsV RX8 294 RX8 yX8_freeing wsX8_freeing) := goodIn_app (dg_c 10 rfl rfl (dg_c 11 rfl rfl (dg_c 12 rfl rfl (dg_c 6 rfl rfl dg_0)))) ggX8_resting_X8_freeing
set_option maxRecDepth 20000 in
theorem ggX8_resting_X8_pulling : GoodIn wsX8_resting wsX8_pulling := (dg_c 17 rfl rfl (dg_c 1 rfl rfl (dg_c 2 rfl rfl (dg_c 3 rfl rfl (dg_c 4 rfl rfl (dg_c 5 rfl rfl (dg_c 6 rfl rfl (dg_c 7 rfl rfl (dg_c 8 rfl rfl (dg_c 9 rfl rfl gl_X8_resting_X80))))))))))
set_option maxRecDepth 20000 in
theorem gX8_resting_X8_pulling : GoodIn wsX8_resting (wsV RX8 291 RX8 yX8_pulling wsX8_pulling) := goodIn_app (dg_c 14 rfl rfl (dg_c 15 rfl rfl (dg_c 16 rfl rfl (dg_c 6 rfl rfl dg_0)))) ggX8_resting_X8_pulling
theorem dX8_resting_0 : decode cX8_resting 0 = .ok (.aload_n 0, 1) := dq_42 dp_cX8_resting rfl
theorem dX8_resting_1 : decode cX8_resting 1 = .ok (.getfield 29, 3) := dq_180 dp_cX8_resting rfl
theorem dX8_resting_4 : decode cX8_resting 4 = .ok (.iload_n 1, 1) := dq_27 dp_cX8_resting rfl
theorem dX8_resting_5 : decode cX8_resting 5 = .ok (.iaload, 1) := dq_46 dp_cX8_resting rfl
theorem dX8_resting_6 : decode cX8_resting 6 = .ok (.istore_n 3, 1) := dq_62 dp_cX8_resting rfl
theorem dX8_resting_7 : decode cX8_resting 7 = .ok (.iload_n 3, 1) := dq_29 dp_cX8_resting rfl
theorem dX8_resting_8 : decode cX8_resting 8 = .ok (.iconst 4, 1) := dq_7 dp_cX8_resting rfl
theorem dX8_resting_9 : decode cX8_resting 9 = .ok (.if_icmp .eq 9, 3) := dq_159 (v := 9) dp_cX8_resting rfl rfl
theorem dX8_resting_12 : decode cX8_resting 12 = .ok (.iload_n 3, 1) := dq_29 dp_cX8_resting rfl
theorem dX8_resting_13 : decode cX8_resting 13 = .ok (.bipush 6, 2) := dq_16 (v := 6) dp_cX8_resting rfl rfl
theorem dX8_resting_15 : decode cX8_resting 15 = .ok (.if_icmp .ne 9, 3) := dq_160 (v := 9) dp_cX8_resting rfl rfl
theorem dX8_resting_18 : decode cX8_resting 18 = .ok (.aload_n 0, 1) := dq_42 dp_cX8_resting rfl
theorem dX8_resting_19 : decode cX8_resting 19 = .ok (.bipush 50, 2) := dq_16 (v := 50) dp_cX8_resting rfl rfl
theorem dX8_resting_21 : decode cX8_resting 21 = .ok (.invokevirtual 288, 3) := dq_182 dp_cX8_resting rfl
theorem dX8_resting_24 : decode cX8_resting 24 = .ok (.iload_n 3, 1) := dq_29 dp_cX8_resting rfl
theorem dX8_resting_25 : decode cX8_resting 25 = .ok (.iconst 5, 1) := dq_8 dp_cX8_resting rfl
theorem dX8_resting_26 : decode cX8_resting 26 = .ok (.if_icmp .ne 9, 3) := dq_160 (v := 9) dp_cX8_resting rfl rfl
theorem dX8_resting_29 : decode cX8_resting 29 = .ok (.aload_n 0, 1) := dq_42 dp_cX8_resting rfl
theorem dX8_resting_30 : decode cX8_resting 30 = .ok (.bipush 60, 2) := dq_16 (v := 60) dp_cX8_resting rfl rfl
theorem dX8_resting_32 : decode cX8_resting 32 = .ok (.invokevirtual 288, 3) := dq_182 dp_cX8_resting rfl
theorem dX8_resting_35 : decode cX8_resting 35 = .ok (.aload_n 0, 1) := dq_42 dp_cX8_resting rfl
theorem dX8_resting_36 : decode cX8_resting 36 = .ok (.bipush 12, 2) := dq_16 (v := 12) dp_cX8_resting rfl rfl
theorem dX8_resting_38 : decode cX8_resting 38 = .ok (.invokevirtual 288, 3) := dq_182 dp_cX8_resting rfl
theorem dX8_resting_41 : decode cX8_resting 41 = .ok (.aload_n 0, 1) := dq_42 dp_cX8_resting rfl
theorem dX8_resting_42 : decode cX8_resting 42 = .ok (.iload_n 1, 1) := dq_27 dp_cX8_resting rfl
theorem dX8_resting_43 : decode cX8_resting 43 = .ok (.iload_n 2, 1) := dq_28 dp_cX8_resting rfl
theorem dX8_resting_44 : decode cX8_resting 44 = .ok (.invokevirtual 294, 3) := dq_182 dp_cX8_resting rfl
theorem dX8_resting_47 : decode cX8_resting 47 = .ok (.istore 4, 2) := dq_54 dp_cX8_resting rfl
theorem dX8_resting_49 : decode cX8_resting 49 = .ok (.iload 4, 2) := dq_21 dp_cX8_resting rfl
theorem dX8_resting_51 : decode cX8_resting 51 = .ok (.aload_n 0, 1) := dq_42 dp_cX8_resting rfl
theorem dX8_resting_52 : decode cX8_resting 52 = .ok (.iload_n 1, 1) := dq_27 dp_cX8_resting rfl
theorem dX8_resting_53 : decode cX8_resting 53 = .ok (.iload_n 2, 1) := dq_28 dp_cX8_resting rfl
theorem dX8_resting_54 : decode cX8_resting 54 = .ok (.aload_n 0, 1) := dq_42 dp_cX8_resting rfl
theorem dX8_resting_55 : decode cX8_resting 55 = .ok (.getfield 32, 3) := dq_180 dp_cX8_resting rfl
theorem dX8_resting_58 : decode cX8_resting 58 = .ok (.iload_n 1, 1) := dq_27 dp_cX8_resting rfl
theorem dX8_resting_59 : decode cX8_resting 59 = .ok (.iaload, 1) := dq_46 dp_cX8_resting rfl
theorem dX8_resting_60 : decode cX8_resting 60 = .ok (.isub, 1) := dq_100 dp_cX8_resting rfl
theorem dX8_resting_61 : decode cX8_resting 61 = .ok (.invokevirtual 291, 3) := dq_182 dp_cX8_resting rfl
theorem dX8_resting_64 : decode cX8_resting 64 = .ok (.ixor, 1) := dq_130 dp_cX8_resting rfl
theorem dX8_resting_65 : decode cX8_resting 65 = .ok (.istore 4, 2) := dq_54 dp_cX8_resting rfl
theorem dX8_resting_67 : decode cX8_resting 67 = .ok (.iload_n 3, 1) := dq_29 dp_cX8_resting rfl
theorem dX8_resting_68 : decode cX8_resting 68 = .ok (.iconst 4, 1) := dq_7 dp_cX8_resting rfl
theorem dX8_resting_69 : decode cX8_resting 69 = .ok (.if_icmp .eq 9, 3) := dq_159 (v := 9) dp_cX8_resting rfl rfl
theorem dX8_resting_72 : decode cX8_resting 72 = .ok (.iload_n 3, 1) := dq_29 dp_cX8_resting rfl
theorem dX8_resting_73 : decode cX8_resting 73 = .ok (.bipush 6, 2) := dq_16 (v := 6) dp_cX8_resting rfl rfl
theorem dX8_resting_75 : decode cX8_resting 75 = .ok (.if_icmp .ne 9, 3) := dq_160 (v := 9) dp_cX8_resting rfl rfl
theorem dX8_resting_78 : decode cX8_resting 78 = .ok (.iload 4, 2) := dq_21 dp_cX8_resting rfl
theorem dX8_resting_80 : decode cX8_resting 80 = .ok (.ineg, 1) := dq_116 dp_cX8_resting rfl
theorem dX8_resting_81 : decode cX8_resting 81 = .ok (.goto 17, 3) := dq_167 (v := 17) dp_cX8_resting rfl rfl
theorem dX8_resting_84 : decode cX8_resting 84 = .ok (.iload_n 3, 1) := dq_29 dp_cX8_resting rfl
theorem dX8_resting_85 : decode cX8_resting 85 = .ok (.iconst 5, 1) := dq_8 dp_cX8_resting rfl
theorem dX8_resting_86 : decode cX8_resting 86 = .ok (.if_icmp .ne 10, 3) := dq_160 (v := 10) dp_cX8_resting rfl rfl
theorem dX8_resting_89 : decode cX8_resting 89 = .ok (.iload 4, 2) := dq_21 dp_cX8_resting rfl
theorem dX8_resting_91 : decode cX8_resting 91 = .ok (.iconst 5, 1) := dq_8 dp_cX8_resting rfl
theorem dX8_resting_92 : decode cX8_resting 92 = .ok (.ixor, 1) := dq_130 dp_cX8_resting rfl
theorem dX8_resting_93 : decode cX8_resting 93 = .ok (.goto 5, 3) := dq_167 (v := 5) dp_cX8_resting rfl rfl
theorem dX8_resting_96 : decode cX8_resting 96 = .ok (.iload 4, 2) := dq_21 dp_cX8_resting rfl
theorem dX8_resting_98 : decode cX8_resting 98 = .ok (.ireturn, 1) := dq_172 dp_cX8_resting rfl
set_option maxRecDepth 20000 in
theorem gl_X8_act_X80 : GoodIn wsX8_act wsX80 := (dg_t (dg_r gw_wsX80))
theorem ggX8_act_X8_isPull : GoodIn wsX8_act wsX8_isPull := (dg_c 6 rfl rfl (dg_c 7 rfl rfl gl_X8_act_X80))
set_option maxRecDepth 20000 in
theorem gX8_act_X8_isPull : GoodIn wsX8_act (wsV RX8 101 RX8 yX8_isPull wsX8_isPull) := goodIn_app (dg_c 2 rfl rfl (dg_c 3 rfl rfl (dg_c 4 rfl rfl (dg_c 5 rfl rfl dg_0)))) ggX8_act_X8_isPull
set_option maxRecDepth 20000 in
theorem ggX8_act_X8_pulling : GoodIn wsX8_act wsX8_pulling := (dg_c 11 rfl rfl (dg_c 12 rfl rfl (dg_c 13 rfl rfl (dg_c 14 rfl rfl (dg_c 15 rfl rfl (dg_c 16 rfl rfl (dg_c 5 rfl rfl (dg_c 17 rfl rfl (dg_c 1 rfl rfl (dg_c 18 rfl rfl gl_X8_act_X80))))))))))
set_option maxRecDepth 20000 in
theorem gX8_act_X8_pulling : GoodIn wsX8_act (wsV RX8 291 RX8 yX8_pulling wsX8_pulling) := goodIn_app (dg_c 8 rfl rfl (dg_c 9 rfl rfl (dg_c 10 rfl rfl (dg_c 5 rfl rfl dg_0)))) ggX8_act_X8_pulling
set_option maxRecDepth 20000 in
theorem ggX8_act_X8_freeing : GoodIn wsX8_act wsX8_freeing := (dg_c 22 rfl rfl (dg_c 12 rfl rfl (dg_c 13 rfl rfl (dg_c 14 rfl rfl (dg_c 15 rfl rfl (dg_c 16 rfl rfl (dg_c 5 rfl rfl (dg_c 17 rfl rfl (dg_c 1 rfl rfl (dg_c 18 rfl rfl (dg_c 8 rfl rfl (dg_c 9 rfl rfl (dg_c 10 rfl rfl (dg_c 11 rfl rfl gl_X8_act_X80))))))))))))))
set_option maxRecDepth 20000 in
theorem gX8_act_X8_freeing : GoodIn wsX8_act (wsV RX8 294 RX8 yX8_freeing wsX8_freeing) := goodIn_app (dg_c 19 rfl rfl (dg_c 20 rfl rfl (dg_c 21 rfl rfl (dg_c 5 rfl rfl dg_0)))) ggX8_act_X8_freeing
set_option maxRecDepth 20000 in
theorem ggX8_act_X8_resting : GoodIn wsX8_act wsX8_resting := (dg_c 26 rfl rfl (dg_c 12 rfl rfl (dg_c 13 rfl rfl (dg_c 14 rfl rfl (dg_c 15 rfl rfl (dg_c 16 rfl rfl (dg_c 5 rfl rfl (dg_c 17 rfl rfl (dg_c 1 rfl rfl (dg_c 18 rfl rfl (dg_c 19 rfl rfl (dg_c 20 rfl rfl (dg_c 21 rfl rfl (dg_c 22 rfl rfl (dg_c 8 rfl rfl (dg_c 9 rfl rfl (dg_c 10 rfl rfl (dg_c 11 rfl rfl gl_X8_act_X80))))))))))))))))))
set_option maxRecDepth 20000 in
theorem gX8_act_X8_resting : GoodIn wsX8_act (wsV RX8 297 RX8 yX8_resting wsX8_resting) := goodIn_app (dg_c 23 rfl rfl (dg_c 24 rfl rfl (dg_c 25 rfl rfl (dg_c 5 rfl rfl dg_0)))) ggX8_act_X8_resting
theorem dX8_act_0 : decode cX8_act 0 = .ok (.aload_n 0, 1) := dq_42 dp_cX8_act rfl
theorem dX8_act_1 : decode cX8_act 1 = .ok (.iconst 0, 1) := dq_3 dp_cX8_act rfl
theorem dX8_act_2 : decode cX8_act 2 = .ok (.putfield 285, 3) := dq_181 dp_cX8_act rfl
theorem dX8_act_5 : decode cX8_act 5 = .ok (.aload_n 0, 1) := dq_42 dp_cX8_act rfl
theorem dX8_act_6 : decode cX8_act 6 = .ok (.iload_n 1, 1) := dq_27 dp_cX8_act rfl
theorem dX8_act_7 : decode cX8_act 7 = .ok (.invokevirtual 101, 3) := dq_182 dp_cX8_act rfl
theorem dX8_act_10 : decode cX8_act 10 = .ok (.ifCond .eq 12, 3) := dq_153 (v := 12) dp_cX8_act rfl rfl
theorem dX8_act_13 : decode cX8_act 13 = .ok (.iload_n 2, 1) := dq_28 dp_cX8_act rfl
theorem dX8_act_14 : decode cX8_act 14 = .ok (.ifCond .lt 8, 3) := dq_155 (v := 8) dp_cX8_act rfl rfl
theorem dX8_act_17 : decode cX8_act 17 = .ok (.iload_n 2, 1) := dq_28 dp_cX8_act rfl
theorem dX8_act_18 : decode cX8_act 18 = .ok (.iconst 2, 1) := dq_5 dp_cX8_act rfl
theorem dX8_act_19 : decode cX8_act 19 = .ok (.if_icmp .le 5, 3) := dq_164 (v := 5) dp_cX8_act rfl rfl
theorem dX8_act_22 : decode cX8_act 22 = .ok (.iconst 0, 1) := dq_3 dp_cX8_act rfl
theorem dX8_act_23 : decode cX8_act 23 = .ok (.ireturn, 1) := dq_172 dp_cX8_act rfl
theorem dX8_act_24 : decode cX8_act 24 = .ok (.iload_n 2, 1) := dq_28 dp_cX8_act rfl
theorem dX8_act_25 : decode cX8_act 25 = .ok (.ifCond .ne 12, 3) := dq_154 (v := 12) dp_cX8_act rfl rfl
theorem dX8_act_28 : decode cX8_act 28 = .ok (.aload_n 0, 1) := dq_42 dp_cX8_act rfl
theorem dX8_act_29 : decode cX8_act 29 = .ok (.iload_n 1, 1) := dq_27 dp_cX8_act rfl
theorem dX8_act_30 : decode cX8_act 30 = .ok (.iload_n 3, 1) := dq_29 dp_cX8_act rfl
theorem dX8_act_31 : decode cX8_act 31 = .ok (.invokevirtual 291, 3) := dq_182 dp_cX8_act rfl
theorem dX8_act_34 : decode cX8_act 34 = .ok (.goto 23, 3) := dq_167 (v := 23) dp_cX8_act rfl rfl
theorem dX8_act_37 : decode cX8_act 37 = .ok (.iload_n 2, 1) := dq_28 dp_cX8_act rfl
theorem dX8_act_38 : decode cX8_act 38 = .ok (.iconst 1, 1) := dq_4 dp_cX8_act rfl
theorem dX8_act_39 : decode cX8_act 39 = .ok (.if_icmp .ne 12, 3) := dq_160 (v := 12) dp_cX8_act rfl rfl
theorem dX8_act_42 : decode cX8_act 42 = .ok (.aload_n 0, 1) := dq_42 dp_cX8_act rfl
theorem dX8_act_43 : decode cX8_act 43 = .ok (.iload_n 1, 1) := dq_27 dp_cX8_act rfl
theorem dX8_act_44 : decode cX8_act 44 = .ok (.iload_n 3, 1) := dq_29 dp_cX8_act rfl
theorem dX8_act_45 : decode cX8_act 45 = .ok (.invokevirtual 294, 3) := dq_182 dp_cX8_act rfl
theorem dX8_act_48 : decode cX8_act 48 = .ok (.goto 9, 3) := dq_167 (v := 9) dp_cX8_act rfl rfl
theorem dX8_act_51 : decode cX8_act 51 = .ok (.aload_n 0, 1) := dq_42 dp_cX8_act rfl
theorem dX8_act_52 : decode cX8_act 52 = .ok (.iload_n 1, 1) := dq_27 dp_cX8_act rfl
theorem dX8_act_53 : decode cX8_act 53 = .ok (.iload_n 3, 1) := dq_29 dp_cX8_act rfl
theorem dX8_act_54 : decode cX8_act 54 = .ok (.invokevirtual 297, 3) := dq_182 dp_cX8_act rfl
theorem dX8_act_57 : decode cX8_act 57 = .ok (.ireturn, 1) := dq_172 dp_cX8_act rfl
theorem dX8_trace_0 : decode cX8_trace 0 = .ok (.iload_n 1, 1) := dq_27 dp_cX8_trace rfl
theorem dX8_trace_1 : decode cX8_trace 1 = .ok (.ifCond .lt 26, 3) := dq_155 (v := 26) dp_cX8_trace rfl rfl
theorem dX8_trace_4 : decode cX8_trace 4 = .ok (.iload_n 1, 1) := dq_27 dp_cX8_trace rfl
theorem dX8_trace_5 : decode cX8_trace 5 = .ok (.bipush 20, 2) := dq_16 (v := 20) dp_cX8_trace rfl rfl
theorem dX8_trace_7 : decode cX8_trace 7 = .ok (.if_icmp .ge 20, 3) := dq_162 (v := 20) dp_cX8_trace rfl rfl
theorem dX8_trace_10 : decode cX8_trace 10 = .ok (.iload_n 1, 1) := dq_27 dp_cX8_trace rfl
theorem dX8_trace_11 : decode cX8_trace 11 = .ok (.aload_n 0, 1) := dq_42 dp_cX8_trace rfl
theorem dX8_trace_12 : decode cX8_trace 12 = .ok (.getfield 285, 3) := dq_180 dp_cX8_trace rfl
theorem dX8_trace_15 : decode cX8_trace 15 = .ok (.if_icmp .ge 12, 3) := dq_162 (v := 12) dp_cX8_trace rfl rfl
theorem dX8_trace_18 : decode cX8_trace 18 = .ok (.aload_n 0, 1) := dq_42 dp_cX8_trace rfl
theorem dX8_trace_19 : decode cX8_trace 19 = .ok (.getfield 87, 3) := dq_180 dp_cX8_trace rfl
theorem dX8_trace_22 : decode cX8_trace 22 = .ok (.iload_n 1, 1) := dq_27 dp_cX8_trace rfl
theorem dX8_trace_23 : decode cX8_trace 23 = .ok (.iaload, 1) := dq_46 dp_cX8_trace rfl
theorem dX8_trace_24 : decode cX8_trace 24 = .ok (.goto 4, 3) := dq_167 (v := 4) dp_cX8_trace rfl rfl
theorem dX8_trace_27 : decode cX8_trace 27 = .ok (.iconst (-1), 1) := dq_2 dp_cX8_trace rfl
theorem dX8_trace_28 : decode cX8_trace 28 = .ok (.ireturn, 1) := dq_172 dp_cX8_trace rfl
theorem dX8_status_0 : decode cX8_status 0 = .ok (.iload_n 1, 1) := dq_27 dp_cX8_status rfl
theorem dX8_status_1 : decode cX8_status 1 = .ok (.bipush 11, 2) := dq_16 (v := 11) dp_cX8_status rfl rfl
theorem dX8_status_3 : decode cX8_status 3 = .ok (.if_icmp .lt 19, 3) := dq_161 (v := 19) dp_cX8_status rfl rfl
theorem dX8_status_6 : decode cX8_status 6 = .ok (.iload_n 1, 1) := dq_27 dp_cX8_status rfl
theorem dX8_status_7 : decode cX8_status 7 = .ok (.bipush 17, 2) := dq_16 (v := 17) dp_cX8_status rfl rfl
theorem dX8_status_9 : decode cX8_status 9 = .ok (.if_icmp .gt 13, 3) := dq_163 (v := 13) dp_cX8_status rfl rfl
theorem dX8_status_12 : decode cX8_status 12 = .ok (.aload_n 0, 1) := dq_42 dp_cX8_status rfl
theorem dX8_status_13 : decode cX8_status 13 = .ok (.getfield 25, 3) := dq_180 dp_cX8_status rfl
theorem dX8_status_16 : decode cX8_status 16 = .ok (.iload_n 1, 1) := dq_27 dp_cX8_status rfl
theorem dX8_status_17 : decode cX8_status 17 = .ok (.bipush 10, 2) := dq_16 (v := 10) dp_cX8_status rfl rfl
theorem dX8_status_19 : decode cX8_status 19 = .ok (.isub, 1) := dq_100 dp_cX8_status rfl
theorem dX8_status_20 : decode cX8_status 20 = .ok (.iaload, 1) := dq_46 dp_cX8_status rfl
theorem dX8_status_21 : decode cX8_status 21 = .ok (.ireturn, 1) := dq_172 dp_cX8_status rfl
theorem dX8_status_22 : decode cX8_status 22 = .ok (.iload_n 1, 1) := dq_27 dp_cX8_status rfl
theorem dX8_status_23 : decode cX8_status 23 = .ok (.tableswitch 103 0 9 #[53, 58, 63, 68, 73, 78, 83, 88, 93, 98], 53) := by decide +kernel
theorem dX8_status_76 : decode cX8_status 76 = .ok (.aload_n 0, 1) := dq_42 dp_cX8_status rfl
theorem dX8_status_77 : decode cX8_status 77 = .ok (.getfield 90, 3) := dq_180 dp_cX8_status rfl
theorem dX8_status_80 : decode cX8_status 80 = .ok (.ireturn, 1) := dq_172 dp_cX8_status rfl
theorem dX8_status_81 : decode cX8_status 81 = .ok (.aload_n 0, 1) := dq_42 dp_cX8_status rfl
theorem dX8_status_82 : decode cX8_status 82 = .ok (.getfield 7, 3) := dq_180 dp_cX8_status rfl
theorem dX8_status_85 : decode cX8_status 85 = .ok (.ireturn, 1) := dq_172 dp_cX8_status rfl
theorem dX8_status_86 : decode cX8_status 86 = .ok (.aload_n 0, 1) := dq_42 dp_cX8_status rfl
theorem dX8_status_87 : decode cX8_status 87 = .ok (.getfield 122, 3) := dq_180 dp_cX8_status rfl
theorem dX8_status_90 : decode cX8_status 90 = .ok (.ireturn, 1) := dq_172 dp_cX8_status rfl
theorem dX8_status_91 : decode cX8_status 91 = .ok (.aload_n 0, 1) := dq_42 dp_cX8_status rfl
theorem dX8_status_92 : decode cX8_status 92 = .ok (.getfield 115, 3) := dq_180 dp_cX8_status rfl
theorem dX8_status_95 : decode cX8_status 95 = .ok (.ireturn, 1) := dq_172 dp_cX8_status rfl
theorem dX8_status_96 : decode cX8_status 96 = .ok (.aload_n 0, 1) := dq_42 dp_cX8_status rfl
theorem dX8_status_97 : decode cX8_status 97 = .ok (.getfield 188, 3) := dq_180 dp_cX8_status rfl
theorem dX8_status_100 : decode cX8_status 100 = .ok (.ireturn, 1) := dq_172 dp_cX8_status rfl
theorem dX8_status_101 : decode cX8_status 101 = .ok (.aload_n 0, 1) := dq_42 dp_cX8_status rfl
theorem dX8_status_102 : decode cX8_status 102 = .ok (.getfield 13, 3) := dq_180 dp_cX8_status rfl
theorem dX8_status_105 : decode cX8_status 105 = .ok (.ireturn, 1) := dq_172 dp_cX8_status rfl
theorem dX8_status_106 : decode cX8_status 106 = .ok (.aload_n 0, 1) := dq_42 dp_cX8_status rfl
theorem dX8_status_107 : decode cX8_status 107 = .ok (.getfield 135, 3) := dq_180 dp_cX8_status rfl
theorem dX8_status_110 : decode cX8_status 110 = .ok (.ireturn, 1) := dq_172 dp_cX8_status rfl
theorem dX8_status_111 : decode cX8_status 111 = .ok (.aload_n 0, 1) := dq_42 dp_cX8_status rfl
theorem dX8_status_112 : decode cX8_status 112 = .ok (.getfield 16, 3) := dq_180 dp_cX8_status rfl
theorem dX8_status_115 : decode cX8_status 115 = .ok (.ireturn, 1) := dq_172 dp_cX8_status rfl
theorem dX8_status_116 : decode cX8_status 116 = .ok (.aload_n 0, 1) := dq_42 dp_cX8_status rfl
theorem dX8_status_117 : decode cX8_status 117 = .ok (.getfield 19, 3) := dq_180 dp_cX8_status rfl
theorem dX8_status_120 : decode cX8_status 120 = .ok (.ireturn, 1) := dq_172 dp_cX8_status rfl
theorem dX8_status_121 : decode cX8_status 121 = .ok (.aload_n 0, 1) := dq_42 dp_cX8_status rfl
theorem dX8_status_122 : decode cX8_status 122 = .ok (.getfield 285, 3) := dq_180 dp_cX8_status rfl
theorem dX8_status_125 : decode cX8_status 125 = .ok (.ireturn, 1) := dq_172 dp_cX8_status rfl
theorem dX8_status_126 : decode cX8_status 126 = .ok (.iconst (-1), 1) := dq_2 dp_cX8_status rfl
theorem dX8_status_127 : decode cX8_status 127 = .ok (.ireturn, 1) := dq_172 dp_cX8_status rfl
end
section
theorem gl_X8_no_X80 : GoodIn wsX8_no wsX80 := (dg_t (dg_t gw_wsX80))
theorem hi_X8_no_8 : ∀ w ∈ u_ws RX8 TX8 38, w ∈ wsX8_no := fun w h => (gl_X8_no_X80 w h).1
set_option maxHeartbeats 4000000 in
set_option maxRecDepth 100000 in
theorem c_M_no_1 (l : Launch) (D : va_G) (cI cJ cZ cP cS : ClassId) (po : zPool) (m0 mrf mki mpa mta mla msl mco mhe mso msi msh mce mca mwo mnu mte mwa mke mma mth mtr : Nat) (npu nte nat_ nde nto nse nhu nga nsd nfa nba npl nen nnu nwr nra nik : Int32) (grf : Nat → Int32) (hy0 : 0 ≤ npu.toInt) (hy1 : npu.toInt ≤ 8) (hy2 : 4 ≤ nte.toInt) (hy3 : nte.toInt ≤ 40) (hy4 : 0 ≤ nat_.toInt) (hy5 : nat_.toInt ≤ 40) (hy6 : 0 ≤ nde.toInt) (hy7 : nde.toInt ≤ 24) (hy8 : 0 ≤ nhu.toInt) (hy9 : nhu.toInt ≤ 9) (hy10 : 0 ≤ nra.toInt) (hy11 : nra.toInt ≤ 2000) (hy12 : 0 ≤ nik.toInt) (hy13 : nik.toInt ≤ 1) (hpz : Nat) : Met l yX8_no wsX8_no ({ frames := 0, cells := 0, slots := 0, locals := 0 }) (va_Pc [.ref m0, .int (-1)] (zW D (zKT cI cJ cZ cP cS) po [(zMO m0 npu nte nat_ nde nto nse nhu nga nsd nfa mrf mki mpa mta mla msl mco mhe mso msi msh mce mca mwo mnu mte nba npl nen nnu nwr mwa mke mma mth mtr nra nik), (mrf, .inl (cI, 8, .inl grf))] hpz)) (va_Qi (fun (r : Int32) (grf2 : (Nat → Int32)) => r = (-1)) (zB D [(zMO m0 npu nte nat_ nde nto nse nhu nga nsd nfa mrf mki mpa mta mla msl mco mhe mso msi msh mce mca mwo mnu mte nba npl nen nnu nwr mwa mke mma mth mtr nra nik), (mrf, .inl (cI, 8, .inl grf))] hpz (fun (grf2 : Nat → Int32) => [(zMO m0 npu nte nat_ nde nto nse nhu nga nsd nfa mrf mki mpa mta mla msl mco mhe mso msi msh mce mca mwo mnu mte nba npl nen nnu nwr mwa mke mma mth mtr nra nik), (mrf, .inl (cI, 8, .inl grf2))])) (va_A [(zMO m0 npu nte nat_ nde nto nse nhu nga nsd nfa mrf mki mpa mta mla msl mco mhe mso msi msh mce mca mwo mnu mte nba npl nen nnu nwr mwa mke mma mth mtr nra nik), (mrf, .inl (cI, 8, .inl grf))] hpz)) 0 0 (va_A [(zMO m0 npu nte nat_ nde nto nse nhu nga nsd nfa mrf mki mpa mta mla msl mco mhe mso msi msh mce mca mwo mnu mte nba npl nen nnu nwr mwa mke mma mth mtr nra nik), (mrf, .inl (cI, 8, .inl grf))] hpz) := by
  refine Met.ofW (cc := cX8_no) (maxL := 2) (ret := (some .int)) (by decide) rfl ?_
  intro p e s m args below meth c s₁ B hml hv
  obtain ⟨rfl, hsz, hP, hK, hD0, hN, hZ⟩ := hv
  have hx := B.exec
  have hb := B.bytes
  have hr := B.returns
  have hts := atoms_spec (ws := wsX8_no) B.pre
  have hown : s.vm.findClass RX8 = some m.cls := findClass_of_methodNamed B.named
  have hlocks := B.notSynchronized
  subst hsz
  have hD := hD0.self (sz := s.heap.size)
  have hA := zA_of hD
  have hl := lv_entry ([.ref m0, .int (-1)]) (n := 2) (Nat.le_of_ble_eq_true rfl)
  rw [lg_entry_eq]
  generalize (lg_sl ([.ref m0, .int (-1)]) ++ List.replicate (2 - (lg_sl ([.ref m0, .int (-1)])).length) Slot.unset).toArray = ls at hl ⊢
  replace hl : lv_has ls 2 [(0, .ref m0), (1, .int (-1))] := hl
  refine zw_begin hP hD (fun H locs hP1 hS => ?_)
  clear hP
  have hP := hP1
  clear hP1
  refine lv_aload_n hx hb dX8_no_0 rfl (lv_at hl 0 rfl) ?_
  refine va_get (D := D) (ci := 8) (v := .ref mrf) (C := RX8) (T := TX8) (N := 38) hx hb hts hi_X8_no_8 hown hK hP 0 rfl rfl 10 (by decide) (hts (.fieldLink RX8 25 "TheLiningsInItModel" "refused" "[I") (List.mem_of_getElem? (i := 1) rfl)) (fun _ h9 => h9) rfl dX8_no_1 ?_
  refine lv_iload_n hx hb dX8_no_4 rfl (lv_at hl 1 rfl) ?_
  refine lv_ineg hx hb dX8_no_5 ?_
  refine lv_topi (fun y_1 ey_1 => ?_)
  obtain rfl : y_1 = 1 := ey_1.trans (by decide)
  refine lv_dup2_11 hx hb dX8_no_6 rfl rfl ?_
  refine va_iald hx hb hK hP 1 0 rfl rfl (zf_in (by decide) (by decide)) dX8_no_7 ?_
  refine lv_topi (fun x_2 ex_2 => ?_)
  refine lv_iconst (v := 1) hx hb dX8_no_8 (by decide) ?_
  refine lv_iadd hx hb dX8_no_9 ?_
  refine lv_topi (fun x_3 ex_3 => ?_)
  refine va_iast hx hb hK hP hD hS 1 0 rfl rfl (zf_in (by decide) (by decide)) dX8_no_10 (fun H locs hP hD hS => ?_)
  obtain ⟨g_4, hg_4⟩ : ∃ g : Nat → Int32, g = upd grf (1 : Int32).toNatClampNeg x_3 := ⟨_, rfl⟩
  rw [← hg_4] at hP hD
  clear hg_4
  have h9R := zRe (ws' := [(zMO m0 npu nte nat_ nde nto nse nhu nga nsd nfa mrf mki mpa mta mla msl mco mhe mso msi msh mce mca mwo mnu mte nba npl nen nnu nwr mwa mke mma mth mtr nra nik), (mrf, .inl (cI, 8, .inl g_4))]) hP hD rfl
  clear hP hD
  obtain ⟨hP, hD⟩ := h9R
  refine lv_iload_n hx hb dX8_no_11 rfl (lv_at hl 1 rfl) ?_
  exact W.iret (v := (-1)) hx hb hr (fun t ht hW => ⟨⟨(-1), g_4, rfl, rfl, zRet ht hP hD [0, 1] (by decide) rfl⟩, hS.F ht⟩) hS.2.2 dX8_no_12
set_option maxHeartbeats 4000000 in
set_option maxRecDepth 100000 in
theorem c_M_no_2 (l : Launch) (D : va_G) (cI cJ cZ cP cS : ClassId) (po : zPool) (m0 mrf mki mpa mta mla msl mco mhe mso msi msh mce mca mwo mnu mte mwa mke mma mth mtr : Nat) (npu nte nat_ nde nto nse nhu nga nsd nfa nba npl nen nnu nwr nra nik : Int32) (grf : Nat → Int32) (hy0 : 0 ≤ npu.toInt) (hy1 : npu.toInt ≤ 8) (hy2 : 4 ≤ nte.toInt) (hy3 : nte.toInt ≤ 40) (hy4 : 0 ≤ nat_.toInt) (hy5 : nat_.toInt ≤ 40) (hy6 : 0 ≤ nde.toInt) (hy7 : nde.toInt ≤ 24) (hy8 : 0 ≤ nhu.toInt) (hy9 : nhu.toInt ≤ 9) (hy10 : 0 ≤ nra.toInt) (hy11 : nra.toInt ≤ 2000) (hy12 : 0 ≤ nik.toInt) (hy13 : nik.toInt ≤ 1) (hpz : Nat) : Met l yX8_no wsX8_no ({ frames := 0, cells := 0, slots := 0, locals := 0 }) (va_Pc [.ref m0, .int (-2)] (zW D (zKT cI cJ cZ cP cS) po [(zMO m0 npu nte nat_ nde nto nse nhu nga nsd nfa mrf mki mpa mta mla msl mco mhe mso msi msh mce mca mwo mnu mte nba npl nen nnu nwr mwa mke mma mth mtr nra nik), (mrf, .inl (cI, 8, .inl grf))] hpz)) (va_Qi (fun (r : Int32) (grf2 : (Nat → Int32)) => r = (-2)) (zB D [(zMO m0 npu nte nat_ nde nto nse nhu nga nsd nfa mrf mki mpa mta mla msl mco mhe mso msi msh mce mca mwo mnu mte nba npl nen nnu nwr mwa mke mma mth mtr nra nik), (mrf, .inl (cI, 8, .inl grf))] hpz (fun (grf2 : Nat → Int32) => [(zMO m0 npu nte nat_ nde nto nse nhu nga nsd nfa mrf mki mpa mta mla msl mco mhe mso msi msh mce mca mwo mnu mte nba npl nen nnu nwr mwa mke mma mth mtr nra nik), (mrf, .inl (cI, 8, .inl grf2))])) (va_A [(zMO m0 npu nte nat_ nde nto nse nhu nga nsd nfa mrf mki mpa mta mla msl mco mhe mso msi msh mce mca mwo mnu mte nba npl nen nnu nwr mwa mke mma mth mtr nra nik), (mrf, .inl (cI, 8, .inl grf))] hpz)) 0 0 (va_A [(zMO m0 npu nte nat_ nde nto nse nhu nga nsd nfa mrf mki mpa mta mla msl mco mhe mso msi msh mce mca mwo mnu mte nba npl nen nnu nwr mwa mke mma mth mtr nra nik), (mrf, .inl (cI, 8, .inl grf))] hpz) := by
  refine Met.ofW (cc := cX8_no) (maxL := 2) (ret := (some .int)) (by decide) rfl ?_
  intro p e s m args below meth c s₁ B hml hv
  obtain ⟨rfl, hsz, hP, hK, hD0, hN, hZ⟩ := hv
  have hx := B.exec
  have hb := B.bytes
  have hr := B.returns
  have hts := atoms_spec (ws := wsX8_no) B.pre
  have hown : s.vm.findClass RX8 = some m.cls := findClass_of_methodNamed B.named
  have hlocks := B.notSynchronized
  subst hsz
  have hD := hD0.self (sz := s.heap.size)
  have hA := zA_of hD
  have hl := lv_entry ([.ref m0, .int (-2)]) (n := 2) (Nat.le_of_ble_eq_true rfl)
  rw [lg_entry_eq]
  generalize (lg_sl ([.ref m0, .int (-2)]) ++ List.replicate (2 - (lg_sl ([.ref m0, .int (-2)])).length) Slot.unset).toArray = ls at hl ⊢
  replace hl : lv_has ls 2 [(0, .ref m0), (1, .int (-2))] := hl
  refine zw_begin hP hD (fun H locs hP1 hS => ?_)
  clear hP
  have hP := hP1
  clear hP1
  refine lv_aload_n hx hb dX8_no_0 rfl (lv_at hl 0 rfl) ?_
  refine va_get (D := D) (ci := 8) (v := .ref mrf) (C := RX8) (T := TX8) (N := 38) hx hb hts hi_X8_no_8 hown hK hP 0 rfl rfl 10 (by decide) (hts (.fieldLink RX8 25 "TheLiningsInItModel" "refused" "[I") (List.mem_of_getElem? (i := 1) rfl)) (fun _ h9 => h9) rfl dX8_no_1 ?_
  refine lv_iload_n hx hb dX8_no_4 rfl (lv_at hl 1 rfl) ?_
  refine lv_ineg hx hb dX8_no_5 ?_
  refine lv_topi (fun y_1 ey_1 => ?_)
  obtain rfl : y_1 = 2 := ey_1.trans (by decide)
  refine lv_dup2_11 hx hb dX8_no_6 rfl rfl ?_
  refine va_iald hx hb hK hP 1 0 rfl rfl (zf_in (by decide) (by decide)) dX8_no_7 ?_
  refine lv_topi (fun x_2 ex_2 => ?_)
  refine lv_iconst (v := 1) hx hb dX8_no_8 (by decide) ?_
  refine lv_iadd hx hb dX8_no_9 ?_
  refine lv_topi (fun x_3 ex_3 => ?_)
  refine va_iast hx hb hK hP hD hS 1 0 rfl rfl (zf_in (by decide) (by decide)) dX8_no_10 (fun H locs hP hD hS => ?_)
  obtain ⟨g_4, hg_4⟩ : ∃ g : Nat → Int32, g = upd grf (2 : Int32).toNatClampNeg x_3 := ⟨_, rfl⟩
  rw [← hg_4] at hP hD
  clear hg_4
  have h9R := zRe (ws' := [(zMO m0 npu nte nat_ nde nto nse nhu nga nsd nfa mrf mki mpa mta mla msl mco mhe mso msi msh mce mca mwo mnu mte nba npl nen nnu nwr mwa mke mma mth mtr nra nik), (mrf, .inl (cI, 8, .inl g_4))]) hP hD rfl
  clear hP hD
  obtain ⟨hP, hD⟩ := h9R
  refine lv_iload_n hx hb dX8_no_11 rfl (lv_at hl 1 rfl) ?_
  exact W.iret (v := (-2)) hx hb hr (fun t ht hW => ⟨⟨(-2), g_4, rfl, rfl, zRet ht hP hD [0, 1] (by decide) rfl⟩, hS.F ht⟩) hS.2.2 dX8_no_12
set_option maxHeartbeats 4000000 in
set_option maxRecDepth 100000 in
theorem c_M_no_3 (l : Launch) (D : va_G) (cI cJ cZ cP cS : ClassId) (po : zPool) (m0 mrf mki mpa mta mla msl mco mhe mso msi msh mce mca mwo mnu mte mwa mke mma mth mtr : Nat) (npu nte nat_ nde nto nse nhu nga nsd nfa nba npl nen nnu nwr nra nik : Int32) (grf : Nat → Int32) (hy0 : 0 ≤ npu.toInt) (hy1 : npu.toInt ≤ 8) (hy2 : 4 ≤ nte.toInt) (hy3 : nte.toInt ≤ 40) (hy4 : 0 ≤ nat_.toInt) (hy5 : nat_.toInt ≤ 40) (hy6 : 0 ≤ nde.toInt) (hy7 : nde.toInt ≤ 24) (hy8 : 0 ≤ nhu.toInt) (hy9 : nhu.toInt ≤ 9) (hy10 : 0 ≤ nra.toInt) (hy11 : nra.toInt ≤ 2000) (hy12 : 0 ≤ nik.toInt) (hy13 : nik.toInt ≤ 1) (hpz : Nat) : Met l yX8_no wsX8_no ({ frames := 0, cells := 0, slots := 0, locals := 0 }) (va_Pc [.ref m0, .int (-3)] (zW D (zKT cI cJ cZ cP cS) po [(zMO m0 npu nte nat_ nde nto nse nhu nga nsd nfa mrf mki mpa mta mla msl mco mhe mso msi msh mce mca mwo mnu mte nba npl nen nnu nwr mwa mke mma mth mtr nra nik), (mrf, .inl (cI, 8, .inl grf))] hpz)) (va_Qi (fun (r : Int32) (grf2 : (Nat → Int32)) => r = (-3)) (zB D [(zMO m0 npu nte nat_ nde nto nse nhu nga nsd nfa mrf mki mpa mta mla msl mco mhe mso msi msh mce mca mwo mnu mte nba npl nen nnu nwr mwa mke mma mth mtr nra nik), (mrf, .inl (cI, 8, .inl grf))] hpz (fun (grf2 : Nat → Int32) => [(zMO m0 npu nte nat_ nde nto nse nhu nga nsd nfa mrf mki mpa mta mla msl mco mhe mso msi msh mce mca mwo mnu mte nba npl nen nnu nwr mwa mke mma mth mtr nra nik), (mrf, .inl (cI, 8, .inl grf2))])) (va_A [(zMO m0 npu nte nat_ nde nto nse nhu nga nsd nfa mrf mki mpa mta mla msl mco mhe mso msi msh mce mca mwo mnu mte nba npl nen nnu nwr mwa mke mma mth mtr nra nik), (mrf, .inl (cI, 8, .inl grf))] hpz)) 0 0 (va_A [(zMO m0 npu nte nat_ nde nto nse nhu nga nsd nfa mrf mki mpa mta mla msl mco mhe mso msi msh mce mca mwo mnu mte nba npl nen nnu nwr mwa mke mma mth mtr nra nik), (mrf, .inl (cI, 8, .inl grf))] hpz) := by
  refine Met.ofW (cc := cX8_no) (maxL := 2) (ret := (some .int)) (by decide) rfl ?_
  intro p e s m args below meth c s₁ B hml hv
  obtain ⟨rfl, hsz, hP, hK, hD0, hN, hZ⟩ := hv
  have hx := B.exec
  have hb := B.bytes
  have hr := B.returns
  have hts := atoms_spec (ws := wsX8_no) B.pre
  have hown : s.vm.findClass RX8 = some m.cls := findClass_of_methodNamed B.named
  have hlocks := B.notSynchronized
  subst hsz
  have hD := hD0.self (sz := s.heap.size)
  have hA := zA_of hD
  have hl := lv_entry ([.ref m0, .int (-3)]) (n := 2) (Nat.le_of_ble_eq_true rfl)
  rw [lg_entry_eq]
  generalize (lg_sl ([.ref m0, .int (-3)]) ++ List.replicate (2 - (lg_sl ([.ref m0, .int (-3)])).length) Slot.unset).toArray = ls at hl ⊢
  replace hl : lv_has ls 2 [(0, .ref m0), (1, .int (-3))] := hl
  refine zw_begin hP hD (fun H locs hP1 hS => ?_)
  clear hP
  have hP := hP1
  clear hP1
  refine lv_aload_n hx hb dX8_no_0 rfl (lv_at hl 0 rfl) ?_
  refine va_get (D := D) (ci := 8) (v := .ref mrf) (C := RX8) (T := TX8) (N := 38) hx hb hts hi_X8_no_8 hown hK hP 0 rfl rfl 10 (by decide) (hts (.fieldLink RX8 25 "TheLiningsInItModel" "refused" "[I") (List.mem_of_getElem? (i := 1) rfl)) (fun _ h9 => h9) rfl dX8_no_1 ?_
  refine lv_iload_n hx hb dX8_no_4 rfl (lv_at hl 1 rfl) ?_
  refine lv_ineg hx hb dX8_no_5 ?_
  refine lv_topi (fun y_1 ey_1 => ?_)
  obtain rfl : y_1 = 3 := ey_1.trans (by decide)
  refine lv_dup2_11 hx hb dX8_no_6 rfl rfl ?_
  refine va_iald hx hb hK hP 1 0 rfl rfl (zf_in (by decide) (by decide)) dX8_no_7 ?_
  refine lv_topi (fun x_2 ex_2 => ?_)
  refine lv_iconst (v := 1) hx hb dX8_no_8 (by decide) ?_
  refine lv_iadd hx hb dX8_no_9 ?_
  refine lv_topi (fun x_3 ex_3 => ?_)
  refine va_iast hx hb hK hP hD hS 1 0 rfl rfl (zf_in (by decide) (by decide)) dX8_no_10 (fun H locs hP hD hS => ?_)
  obtain ⟨g_4, hg_4⟩ : ∃ g : Nat → Int32, g = upd grf (3 : Int32).toNatClampNeg x_3 := ⟨_, rfl⟩
  rw [← hg_4] at hP hD
  clear hg_4
  have h9R := zRe (ws' := [(zMO m0 npu nte nat_ nde nto nse nhu nga nsd nfa mrf mki mpa mta mla msl mco mhe mso msi msh mce mca mwo mnu mte nba npl nen nnu nwr mwa mke mma mth mtr nra nik), (mrf, .inl (cI, 8, .inl g_4))]) hP hD rfl
  clear hP hD
  obtain ⟨hP, hD⟩ := h9R
  refine lv_iload_n hx hb dX8_no_11 rfl (lv_at hl 1 rfl) ?_
  exact W.iret (v := (-3)) hx hb hr (fun t ht hW => ⟨⟨(-3), g_4, rfl, rfl, zRet ht hP hD [0, 1] (by decide) rfl⟩, hS.F ht⟩) hS.2.2 dX8_no_12
set_option maxHeartbeats 4000000 in
set_option maxRecDepth 100000 in
theorem c_M_no_4 (l : Launch) (D : va_G) (cI cJ cZ cP cS : ClassId) (po : zPool) (m0 mrf mki mpa mta mla msl mco mhe mso msi msh mce mca mwo mnu mte mwa mke mma mth mtr : Nat) (npu nte nat_ nde nto nse nhu nga nsd nfa nba npl nen nnu nwr nra nik : Int32) (grf : Nat → Int32) (hy0 : 0 ≤ npu.toInt) (hy1 : npu.toInt ≤ 8) (hy2 : 4 ≤ nte.toInt) (hy3 : nte.toInt ≤ 40) (hy4 : 0 ≤ nat_.toInt) (hy5 : nat_.toInt ≤ 40) (hy6 : 0 ≤ nde.toInt) (hy7 : nde.toInt ≤ 24) (hy8 : 0 ≤ nhu.toInt) (hy9 : nhu.toInt ≤ 9) (hy10 : 0 ≤ nra.toInt) (hy11 : nra.toInt ≤ 2000) (hy12 : 0 ≤ nik.toInt) (hy13 : nik.toInt ≤ 1) (hpz : Nat) : Met l yX8_no wsX8_no ({ frames := 0, cells := 0, slots := 0, locals := 0 }) (va_Pc [.ref m0, .int (-4)] (zW D (zKT cI cJ cZ cP cS) po [(zMO m0 npu nte nat_ nde nto nse nhu nga nsd nfa mrf mki mpa mta mla msl mco mhe mso msi msh mce mca mwo mnu mte nba npl nen nnu nwr mwa mke mma mth mtr nra nik), (mrf, .inl (cI, 8, .inl grf))] hpz)) (va_Qi (fun (r : Int32) (grf2 : (Nat → Int32)) => r = (-4)) (zB D [(zMO m0 npu nte nat_ nde nto nse nhu nga nsd nfa mrf mki mpa mta mla msl mco mhe mso msi msh mce mca mwo mnu mte nba npl nen nnu nwr mwa mke mma mth mtr nra nik), (mrf, .inl (cI, 8, .inl grf))] hpz (fun (grf2 : Nat → Int32) => [(zMO m0 npu nte nat_ nde nto nse nhu nga nsd nfa mrf mki mpa mta mla msl mco mhe mso msi msh mce mca mwo mnu mte nba npl nen nnu nwr mwa mke mma mth mtr nra nik), (mrf, .inl (cI, 8, .inl grf2))])) (va_A [(zMO m0 npu nte nat_ nde nto nse nhu nga nsd nfa mrf mki mpa mta mla msl mco mhe mso msi msh mce mca mwo mnu mte nba npl nen nnu nwr mwa mke mma mth mtr nra nik), (mrf, .inl (cI, 8, .inl grf))] hpz)) 0 0 (va_A [(zMO m0 npu nte nat_ nde nto nse nhu nga nsd nfa mrf mki mpa mta mla msl mco mhe mso msi msh mce mca mwo mnu mte nba npl nen nnu nwr mwa mke mma mth mtr nra nik), (mrf, .inl (cI, 8, .inl grf))] hpz) := by
  refine Met.ofW (cc := cX8_no) (maxL := 2) (ret := (some .int)) (by decide) rfl ?_
  intro p e s m args below meth c s₁ B hml hv
  obtain ⟨rfl, hsz, hP, hK, hD0, hN, hZ⟩ := hv
  have hx := B.exec
  have hb := B.bytes
  have hr := B.returns
  have hts := atoms_spec (ws := wsX8_no) B.pre
  have hown : s.vm.findClass RX8 = some m.cls := findClass_of_methodNamed B.named
  have hlocks := B.notSynchronized
  subst hsz
  have hD := hD0.self (sz := s.heap.size)
  have hA := zA_of hD
  have hl := lv_entry ([.ref m0, .int (-4)]) (n := 2) (Nat.le_of_ble_eq_true rfl)
  rw [lg_entry_eq]
  generalize (lg_sl ([.ref m0, .int (-4)]) ++ List.replicate (2 - (lg_sl ([.ref m0, .int (-4)])).length) Slot.unset).toArray = ls at hl ⊢
  replace hl : lv_has ls 2 [(0, .ref m0), (1, .int (-4))] := hl
  refine zw_begin hP hD (fun H locs hP1 hS => ?_)
  clear hP
  have hP := hP1
  clear hP1
  refine lv_aload_n hx hb dX8_no_0 rfl (lv_at hl 0 rfl) ?_
  refine va_get (D := D) (ci := 8) (v := .ref mrf) (C := RX8) (T := TX8) (N := 38) hx hb hts hi_X8_no_8 hown hK hP 0 rfl rfl 10 (by decide) (hts (.fieldLink RX8 25 "TheLiningsInItModel" "refused" "[I") (List.mem_of_getElem? (i := 1) rfl)) (fun _ h9 => h9) rfl dX8_no_1 ?_
  refine lv_iload_n hx hb dX8_no_4 rfl (lv_at hl 1 rfl) ?_
  refine lv_ineg hx hb dX8_no_5 ?_
  refine lv_topi (fun y_1 ey_1 => ?_)
  obtain rfl : y_1 = 4 := ey_1.trans (by decide)
  refine lv_dup2_11 hx hb dX8_no_6 rfl rfl ?_
  refine va_iald hx hb hK hP 1 0 rfl rfl (zf_in (by decide) (by decide)) dX8_no_7 ?_
  refine lv_topi (fun x_2 ex_2 => ?_)
  refine lv_iconst (v := 1) hx hb dX8_no_8 (by decide) ?_
  refine lv_iadd hx hb dX8_no_9 ?_
  refine lv_topi (fun x_3 ex_3 => ?_)
  refine va_iast hx hb hK hP hD hS 1 0 rfl rfl (zf_in (by decide) (by decide)) dX8_no_10 (fun H locs hP hD hS => ?_)
  obtain ⟨g_4, hg_4⟩ : ∃ g : Nat → Int32, g = upd grf (4 : Int32).toNatClampNeg x_3 := ⟨_, rfl⟩
  rw [← hg_4] at hP hD
  clear hg_4
  have h9R := zRe (ws' := [(zMO m0 npu nte nat_ nde nto nse nhu nga nsd nfa mrf mki mpa mta mla msl mco mhe mso msi msh mce mca mwo mnu mte nba npl nen nnu nwr mwa mke mma mth mtr nra nik), (mrf, .inl (cI, 8, .inl g_4))]) hP hD rfl
  clear hP hD
  obtain ⟨hP, hD⟩ := h9R
  refine lv_iload_n hx hb dX8_no_11 rfl (lv_at hl 1 rfl) ?_
  exact W.iret (v := (-4)) hx hb hr (fun t ht hW => ⟨⟨(-4), g_4, rfl, rfl, zRet ht hP hD [0, 1] (by decide) rfl⟩, hS.F ht⟩) hS.2.2 dX8_no_12
set_option maxHeartbeats 4000000 in
set_option maxRecDepth 100000 in
theorem c_M_no_5 (l : Launch) (D : va_G) (cI cJ cZ cP cS : ClassId) (po : zPool) (m0 mrf mki mpa mta mla msl mco mhe mso msi msh mce mca mwo mnu mte mwa mke mma mth mtr : Nat) (npu nte nat_ nde nto nse nhu nga nsd nfa nba npl nen nnu nwr nra nik : Int32) (grf : Nat → Int32) (hy0 : 0 ≤ npu.toInt) (hy1 : npu.toInt ≤ 8) (hy2 : 4 ≤ nte.toInt) (hy3 : nte.toInt ≤ 40) (hy4 : 0 ≤ nat_.toInt) (hy5 : nat_.toInt ≤ 40) (hy6 : 0 ≤ nde.toInt) (hy7 : nde.toInt ≤ 24) (hy8 : 0 ≤ nhu.toInt) (hy9 : nhu.toInt ≤ 9) (hy10 : 0 ≤ nra.toInt) (hy11 : nra.toInt ≤ 2000) (hy12 : 0 ≤ nik.toInt) (hy13 : nik.toInt ≤ 1) (hpz : Nat) : Met l yX8_no wsX8_no ({ frames := 0, cells := 0, slots := 0, locals := 0 }) (va_Pc [.ref m0, .int (-5)] (zW D (zKT cI cJ cZ cP cS) po [(zMO m0 npu nte nat_ nde nto nse nhu nga nsd nfa mrf mki mpa mta mla msl mco mhe mso msi msh mce mca mwo mnu mte nba npl nen nnu nwr mwa mke mma mth mtr nra nik), (mrf, .inl (cI, 8, .inl grf))] hpz)) (va_Qi (fun (r : Int32) (grf2 : (Nat → Int32)) => r = (-5)) (zB D [(zMO m0 npu nte nat_ nde nto nse nhu nga nsd nfa mrf mki mpa mta mla msl mco mhe mso msi msh mce mca mwo mnu mte nba npl nen nnu nwr mwa mke mma mth mtr nra nik), (mrf, .inl (cI, 8, .inl grf))] hpz (fun (grf2 : Nat → Int32) => [(zMO m0 npu nte nat_ nde nto nse nhu nga nsd nfa mrf mki mpa mta mla msl mco mhe mso msi msh mce mca mwo mnu mte nba npl nen nnu nwr mwa mke mma mth mtr nra nik), (mrf, .inl (cI, 8, .inl grf2))])) (va_A [(zMO m0 npu nte nat_ nde nto nse nhu nga nsd nfa mrf mki mpa mta mla msl mco mhe mso msi msh mce mca mwo mnu mte nba npl nen nnu nwr mwa mke mma mth mtr nra nik), (mrf, .inl (cI, 8, .inl grf))] hpz)) 0 0 (va_A [(zMO m0 npu nte nat_ nde nto nse nhu nga nsd nfa mrf mki mpa mta mla msl mco mhe mso msi msh mce mca mwo mnu mte nba npl nen nnu nwr mwa mke mma mth mtr nra nik), (mrf, .inl (cI, 8, .inl grf))] hpz) := by
  refine Met.ofW (cc := cX8_no) (maxL := 2) (ret := (some .int)) (by decide) rfl ?_
  intro p e s m args below meth c s₁ B hml hv
  obtain ⟨rfl, hsz, hP, hK, hD0, hN, hZ⟩ := hv
  have hx := B.exec
  have hb := B.bytes
  have hr := B.returns
  have hts := atoms_spec (ws := wsX8_no) B.pre
  have hown : s.vm.findClass RX8 = some m.cls := findClass_of_methodNamed B.named
  have hlocks := B.notSynchronized
  subst hsz
  have hD := hD0.self (sz := s.heap.size)
  have hA := zA_of hD
  have hl := lv_entry ([.ref m0, .int (-5)]) (n := 2) (Nat.le_of_ble_eq_true rfl)
  rw [lg_entry_eq]
  generalize (lg_sl ([.ref m0, .int (-5)]) ++ List.replicate (2 - (lg_sl ([.ref m0, .int (-5)])).length) Slot.unset).toArray = ls at hl ⊢
  replace hl : lv_has ls 2 [(0, .ref m0), (1, .int (-5))] := hl
  refine zw_begin hP hD (fun H locs hP1 hS => ?_)
  clear hP
  have hP := hP1
  clear hP1
  refine lv_aload_n hx hb dX8_no_0 rfl (lv_at hl 0 rfl) ?_
  refine va_get (D := D) (ci := 8) (v := .ref mrf) (C := RX8) (T := TX8) (N := 38) hx hb hts hi_X8_no_8 hown hK hP 0 rfl rfl 10 (by decide) (hts (.fieldLink RX8 25 "TheLiningsInItModel" "refused" "[I") (List.mem_of_getElem? (i := 1) rfl)) (fun _ h9 => h9) rfl dX8_no_1 ?_
  refine lv_iload_n hx hb dX8_no_4 rfl (lv_at hl 1 rfl) ?_
  refine lv_ineg hx hb dX8_no_5 ?_
  refine lv_topi (fun y_1 ey_1 => ?_)
  obtain rfl : y_1 = 5 := ey_1.trans (by decide)
  refine lv_dup2_11 hx hb dX8_no_6 rfl rfl ?_
  refine va_iald hx hb hK hP 1 0 rfl rfl (zf_in (by decide) (by decide)) dX8_no_7 ?_
  refine lv_topi (fun x_2 ex_2 => ?_)
  refine lv_iconst (v := 1) hx hb dX8_no_8 (by decide) ?_
  refine lv_iadd hx hb dX8_no_9 ?_
  refine lv_topi (fun x_3 ex_3 => ?_)
  refine va_iast hx hb hK hP hD hS 1 0 rfl rfl (zf_in (by decide) (by decide)) dX8_no_10 (fun H locs hP hD hS => ?_)
  obtain ⟨g_4, hg_4⟩ : ∃ g : Nat → Int32, g = upd grf (5 : Int32).toNatClampNeg x_3 := ⟨_, rfl⟩
  rw [← hg_4] at hP hD
  clear hg_4
  have h9R := zRe (ws' := [(zMO m0 npu nte nat_ nde nto nse nhu nga nsd nfa mrf mki mpa mta mla msl mco mhe mso msi msh mce mca mwo mnu mte nba npl nen nnu nwr mwa mke mma mth mtr nra nik), (mrf, .inl (cI, 8, .inl g_4))]) hP hD rfl
  clear hP hD
  obtain ⟨hP, hD⟩ := h9R
  refine lv_iload_n hx hb dX8_no_11 rfl (lv_at hl 1 rfl) ?_
  exact W.iret (v := (-5)) hx hb hr (fun t ht hW => ⟨⟨(-5), g_4, rfl, rfl, zRet ht hP hD [0, 1] (by decide) rfl⟩, hS.F ht⟩) hS.2.2 dX8_no_12
set_option maxHeartbeats 4000000 in
set_option maxRecDepth 100000 in
theorem c_M_no_6 (l : Launch) (D : va_G) (cI cJ cZ cP cS : ClassId) (po : zPool) (m0 mrf mki mpa mta mla msl mco mhe mso msi msh mce mca mwo mnu mte mwa mke mma mth mtr : Nat) (npu nte nat_ nde nto nse nhu nga nsd nfa nba npl nen nnu nwr nra nik : Int32) (grf : Nat → Int32) (hy0 : 0 ≤ npu.toInt) (hy1 : npu.toInt ≤ 8) (hy2 : 4 ≤ nte.toInt) (hy3 : nte.toInt ≤ 40) (hy4 : 0 ≤ nat_.toInt) (hy5 : nat_.toInt ≤ 40) (hy6 : 0 ≤ nde.toInt) (hy7 : nde.toInt ≤ 24) (hy8 : 0 ≤ nhu.toInt) (hy9 : nhu.toInt ≤ 9) (hy10 : 0 ≤ nra.toInt) (hy11 : nra.toInt ≤ 2000) (hy12 : 0 ≤ nik.toInt) (hy13 : nik.toInt ≤ 1) (hpz : Nat) : Met l yX8_no wsX8_no ({ frames := 0, cells := 0, slots := 0, locals := 0 }) (va_Pc [.ref m0, .int (-6)] (zW D (zKT cI cJ cZ cP cS) po [(zMO m0 npu nte nat_ nde nto nse nhu nga nsd nfa mrf mki mpa mta mla msl mco mhe mso msi msh mce mca mwo mnu mte nba npl nen nnu nwr mwa mke mma mth mtr nra nik), (mrf, .inl (cI, 8, .inl grf))] hpz)) (va_Qi (fun (r : Int32) (grf2 : (Nat → Int32)) => r = (-6)) (zB D [(zMO m0 npu nte nat_ nde nto nse nhu nga nsd nfa mrf mki mpa mta mla msl mco mhe mso msi msh mce mca mwo mnu mte nba npl nen nnu nwr mwa mke mma mth mtr nra nik), (mrf, .inl (cI, 8, .inl grf))] hpz (fun (grf2 : Nat → Int32) => [(zMO m0 npu nte nat_ nde nto nse nhu nga nsd nfa mrf mki mpa mta mla msl mco mhe mso msi msh mce mca mwo mnu mte nba npl nen nnu nwr mwa mke mma mth mtr nra nik), (mrf, .inl (cI, 8, .inl grf2))])) (va_A [(zMO m0 npu nte nat_ nde nto nse nhu nga nsd nfa mrf mki mpa mta mla msl mco mhe mso msi msh mce mca mwo mnu mte nba npl nen nnu nwr mwa mke mma mth mtr nra nik), (mrf, .inl (cI, 8, .inl grf))] hpz)) 0 0 (va_A [(zMO m0 npu nte nat_ nde nto nse nhu nga nsd nfa mrf mki mpa mta mla msl mco mhe mso msi msh mce mca mwo mnu mte nba npl nen nnu nwr mwa mke mma mth mtr nra nik), (mrf, .inl (cI, 8, .inl grf))] hpz) := by
  refine Met.ofW (cc := cX8_no) (maxL := 2) (ret := (some .int)) (by decide) rfl ?_
  intro p e s m args below meth c s₁ B hml hv
  obtain ⟨rfl, hsz, hP, hK, hD0, hN, hZ⟩ := hv
  have hx := B.exec
  have hb := B.bytes
  have hr := B.returns
  have hts := atoms_spec (ws := wsX8_no) B.pre
  have hown : s.vm.findClass RX8 = some m.cls := findClass_of_methodNamed B.named
  have hlocks := B.notSynchronized
  subst hsz
  have hD := hD0.self (sz := s.heap.size)
  have hA := zA_of hD
  have hl := lv_entry ([.ref m0, .int (-6)]) (n := 2) (Nat.le_of_ble_eq_true rfl)
  rw [lg_entry_eq]
  generalize (lg_sl ([.ref m0, .int (-6)]) ++ List.replicate (2 - (lg_sl ([.ref m0, .int (-6)])).length) Slot.unset).toArray = ls at hl ⊢
  replace hl : lv_has ls 2 [(0, .ref m0), (1, .int (-6))] := hl
  refine zw_begin hP hD (fun H locs hP1 hS => ?_)
  clear hP
  have hP := hP1
  clear hP1
  refine lv_aload_n hx hb dX8_no_0 rfl (lv_at hl 0 rfl) ?_
  refine va_get (D := D) (ci := 8) (v := .ref mrf) (C := RX8) (T := TX8) (N := 38) hx hb hts hi_X8_no_8 hown hK hP 0 rfl rfl 10 (by decide) (hts (.fieldLink RX8 25 "TheLiningsInItModel" "refused" "[I") (List.mem_of_getElem? (i := 1) rfl)) (fun _ h9 => h9) rfl dX8_no_1 ?_
  refine lv_iload_n hx hb dX8_no_4 rfl (lv_at hl 1 rfl) ?_
  refine lv_ineg hx hb dX8_no_5 ?_
  refine lv_topi (fun y_1 ey_1 => ?_)
  obtain rfl : y_1 = 6 := ey_1.trans (by decide)
  refine lv_dup2_11 hx hb dX8_no_6 rfl rfl ?_
  refine va_iald hx hb hK hP 1 0 rfl rfl (zf_in (by decide) (by decide)) dX8_no_7 ?_
  refine lv_topi (fun x_2 ex_2 => ?_)
  refine lv_iconst (v := 1) hx hb dX8_no_8 (by decide) ?_
  refine lv_iadd hx hb dX8_no_9 ?_
  refine lv_topi (fun x_3 ex_3 => ?_)
  refine va_iast hx hb hK hP hD hS 1 0 rfl rfl (zf_in (by decide) (by decide)) dX8_no_10 (fun H locs hP hD hS => ?_)
  obtain ⟨g_4, hg_4⟩ : ∃ g : Nat → Int32, g = upd grf (6 : Int32).toNatClampNeg x_3 := ⟨_, rfl⟩
  rw [← hg_4] at hP hD
  clear hg_4
  have h9R := zRe (ws' := [(zMO m0 npu nte nat_ nde nto nse nhu nga nsd nfa mrf mki mpa mta mla msl mco mhe mso msi msh mce mca mwo mnu mte nba npl nen nnu nwr mwa mke mma mth mtr nra nik), (mrf, .inl (cI, 8, .inl g_4))]) hP hD rfl
  clear hP hD
  obtain ⟨hP, hD⟩ := h9R
  refine lv_iload_n hx hb dX8_no_11 rfl (lv_at hl 1 rfl) ?_
  exact W.iret (v := (-6)) hx hb hr (fun t ht hW => ⟨⟨(-6), g_4, rfl, rfl, zRet ht hP hD [0, 1] (by decide) rfl⟩, hS.F ht⟩) hS.2.2 dX8_no_12
set_option maxHeartbeats 4000000 in
set_option maxRecDepth 100000 in
theorem c_M_no_7 (l : Launch) (D : va_G) (cI cJ cZ cP cS : ClassId) (po : zPool) (m0 mrf mki mpa mta mla msl mco mhe mso msi msh mce mca mwo mnu mte mwa mke mma mth mtr : Nat) (npu nte nat_ nde nto nse nhu nga nsd nfa nba npl nen nnu nwr nra nik : Int32) (grf : Nat → Int32) (hy0 : 0 ≤ npu.toInt) (hy1 : npu.toInt ≤ 8) (hy2 : 4 ≤ nte.toInt) (hy3 : nte.toInt ≤ 40) (hy4 : 0 ≤ nat_.toInt) (hy5 : nat_.toInt ≤ 40) (hy6 : 0 ≤ nde.toInt) (hy7 : nde.toInt ≤ 24) (hy8 : 0 ≤ nhu.toInt) (hy9 : nhu.toInt ≤ 9) (hy10 : 0 ≤ nra.toInt) (hy11 : nra.toInt ≤ 2000) (hy12 : 0 ≤ nik.toInt) (hy13 : nik.toInt ≤ 1) (hpz : Nat) : Met l yX8_no wsX8_no ({ frames := 0, cells := 0, slots := 0, locals := 0 }) (va_Pc [.ref m0, .int (-7)] (zW D (zKT cI cJ cZ cP cS) po [(zMO m0 npu nte nat_ nde nto nse nhu nga nsd nfa mrf mki mpa mta mla msl mco mhe mso msi msh mce mca mwo mnu mte nba npl nen nnu nwr mwa mke mma mth mtr nra nik), (mrf, .inl (cI, 8, .inl grf))] hpz)) (va_Qi (fun (r : Int32) (grf2 : (Nat → Int32)) => r = (-7)) (zB D [(zMO m0 npu nte nat_ nde nto nse nhu nga nsd nfa mrf mki mpa mta mla msl mco mhe mso msi msh mce mca mwo mnu mte nba npl nen nnu nwr mwa mke mma mth mtr nra nik), (mrf, .inl (cI, 8, .inl grf))] hpz (fun (grf2 : Nat → Int32) => [(zMO m0 npu nte nat_ nde nto nse nhu nga nsd nfa mrf mki mpa mta mla msl mco mhe mso msi msh mce mca mwo mnu mte nba npl nen nnu nwr mwa mke mma mth mtr nra nik), (mrf, .inl (cI, 8, .inl grf2))])) (va_A [(zMO m0 npu nte nat_ nde nto nse nhu nga nsd nfa mrf mki mpa mta mla msl mco mhe mso msi msh mce mca mwo mnu mte nba npl nen nnu nwr mwa mke mma mth mtr nra nik), (mrf, .inl (cI, 8, .inl grf))] hpz)) 0 0 (va_A [(zMO m0 npu nte nat_ nde nto nse nhu nga nsd nfa mrf mki mpa mta mla msl mco mhe mso msi msh mce mca mwo mnu mte nba npl nen nnu nwr mwa mke mma mth mtr nra nik), (mrf, .inl (cI, 8, .inl grf))] hpz) := by
  refine Met.ofW (cc := cX8_no) (maxL := 2) (ret := (some .int)) (by decide) rfl ?_
  intro p e s m args below meth c s₁ B hml hv
  obtain ⟨rfl, hsz, hP, hK, hD0, hN, hZ⟩ := hv
  have hx := B.exec
  have hb := B.bytes
  have hr := B.returns
  have hts := atoms_spec (ws := wsX8_no) B.pre
  have hown : s.vm.findClass RX8 = some m.cls := findClass_of_methodNamed B.named
  have hlocks := B.notSynchronized
  subst hsz
  have hD := hD0.self (sz := s.heap.size)
  have hA := zA_of hD
  have hl := lv_entry ([.ref m0, .int (-7)]) (n := 2) (Nat.le_of_ble_eq_true rfl)
  rw [lg_entry_eq]
  generalize (lg_sl ([.ref m0, .int (-7)]) ++ List.replicate (2 - (lg_sl ([.ref m0, .int (-7)])).length) Slot.unset).toArray = ls at hl ⊢
  replace hl : lv_has ls 2 [(0, .ref m0), (1, .int (-7))] := hl
  refine zw_begin hP hD (fun H locs hP1 hS => ?_)
  clear hP
  have hP := hP1
  clear hP1
  refine lv_aload_n hx hb dX8_no_0 rfl (lv_at hl 0 rfl) ?_
  refine va_get (D := D) (ci := 8) (v := .ref mrf) (C := RX8) (T := TX8) (N := 38) hx hb hts hi_X8_no_8 hown hK hP 0 rfl rfl 10 (by decide) (hts (.fieldLink RX8 25 "TheLiningsInItModel" "refused" "[I") (List.mem_of_getElem? (i := 1) rfl)) (fun _ h9 => h9) rfl dX8_no_1 ?_
  refine lv_iload_n hx hb dX8_no_4 rfl (lv_at hl 1 rfl) ?_
  refine lv_ineg hx hb dX8_no_5 ?_
  refine lv_topi (fun y_1 ey_1 => ?_)
  obtain rfl : y_1 = 7 := ey_1.trans (by decide)
  refine lv_dup2_11 hx hb dX8_no_6 rfl rfl ?_
  refine va_iald hx hb hK hP 1 0 rfl rfl (zf_in (by decide) (by decide)) dX8_no_7 ?_
  refine lv_topi (fun x_2 ex_2 => ?_)
  refine lv_iconst (v := 1) hx hb dX8_no_8 (by decide) ?_
  refine lv_iadd hx hb dX8_no_9 ?_
  refine lv_topi (fun x_3 ex_3 => ?_)
  refine va_iast hx hb hK hP hD hS 1 0 rfl rfl (zf_in (by decide) (by decide)) dX8_no_10 (fun H locs hP hD hS => ?_)
  obtain ⟨g_4, hg_4⟩ : ∃ g : Nat → Int32, g = upd grf (7 : Int32).toNatClampNeg x_3 := ⟨_, rfl⟩
  rw [← hg_4] at hP hD
  clear hg_4
  have h9R := zRe (ws' := [(zMO m0 npu nte nat_ nde nto nse nhu nga nsd nfa mrf mki mpa mta mla msl mco mhe mso msi msh mce mca mwo mnu mte nba npl nen nnu nwr mwa mke mma mth mtr nra nik), (mrf, .inl (cI, 8, .inl g_4))]) hP hD rfl
  clear hP hD
  obtain ⟨hP, hD⟩ := h9R
  refine lv_iload_n hx hb dX8_no_11 rfl (lv_at hl 1 rfl) ?_
  exact W.iret (v := (-7)) hx hb hr (fun t ht hW => ⟨⟨(-7), g_4, rfl, rfl, zRet ht hP hD [0, 1] (by decide) rfl⟩, hS.F ht⟩) hS.2.2 dX8_no_12
set_option maxHeartbeats 4000000 in
set_option maxRecDepth 100000 in
theorem c_M_no (l : Launch) (D : va_G) (cI cJ cZ cP cS : ClassId) (po : zPool) (m0 mrf mki mpa mta mla msl mco mhe mso msi msh mce mca mwo mnu mte mwa mke mma mth mtr : Nat) (npu nte nat_ nde nto nse nhu nga nsd nfa nba npl nen nnu nwr nra nik : Int32) (grf : Nat → Int32) (b_ : Int32) (hy0 : 0 ≤ npu.toInt) (hy1 : npu.toInt ≤ 8) (hy2 : 4 ≤ nte.toInt) (hy3 : nte.toInt ≤ 40) (hy4 : 0 ≤ nat_.toInt) (hy5 : nat_.toInt ≤ 40) (hy6 : 0 ≤ nde.toInt) (hy7 : nde.toInt ≤ 24) (hy8 : 0 ≤ nhu.toInt) (hy9 : nhu.toInt ≤ 9) (hy10 : 0 ≤ nra.toInt) (hy11 : nra.toInt ≤ 2000) (hy12 : 0 ≤ nik.toInt) (hy13 : nik.toInt ≤ 1) (hy14 : (-7) ≤ b_.toInt) (hy15 : b_.toInt ≤ -1) (hpz : Nat) : Met l yX8_no wsX8_no ({ frames := 0, cells := 0, slots := 0, locals := 0 }) (va_Pc [.ref m0, .int b_] (zW D (zKT cI cJ cZ cP cS) po [(zMO m0 npu nte nat_ nde nto nse nhu nga nsd nfa mrf mki mpa mta mla msl mco mhe mso msi msh mce mca mwo mnu mte nba npl nen nnu nwr mwa mke mma mth mtr nra nik), (mrf, .inl (cI, 8, .inl grf))] hpz)) (va_Qi (fun (r : Int32) (grf2 : (Nat → Int32)) => r = b_) (zB D [(zMO m0 npu nte nat_ nde nto nse nhu nga nsd nfa mrf mki mpa mta mla msl mco mhe mso msi msh mce mca mwo mnu mte nba npl nen nnu nwr mwa mke mma mth mtr nra nik), (mrf, .inl (cI, 8, .inl grf))] hpz (fun (grf2 : Nat → Int32) => [(zMO m0 npu nte nat_ nde nto nse nhu nga nsd nfa mrf mki mpa mta mla msl mco mhe mso msi msh mce mca mwo mnu mte nba npl nen nnu nwr mwa mke mma mth mtr nra nik), (mrf, .inl (cI, 8, .inl grf2))])) (va_A [(zMO m0 npu nte nat_ nde nto nse nhu nga nsd nfa mrf mki mpa mta mla msl mco mhe mso msi msh mce mca mwo mnu mte nba npl nen nnu nwr mwa mke mma mth mtr nra nik), (mrf, .inl (cI, 8, .inl grf))] hpz)) 0 0 (va_A [(zMO m0 npu nte nat_ nde nto nse nhu nga nsd nfa mrf mki mpa mta mla msl mco mhe mso msi msh mce mca mwo mnu mte nba npl nen nnu nwr mwa mke mma mth mtr nra nik), (mrf, .inl (cI, 8, .inl grf))] hpz) := by
  refine Met.ofW (cc := cX8_no) (maxL := 2) (ret := (some .int)) (by decide) rfl ?_
  intro p e s m args below meth c s₁ B hml hv
  obtain ⟨rfl, hsz, hP, hK, hD0, hN, hZ⟩ := hv
  have hx := B.exec
  have hb := B.bytes
  have hr := B.returns
  have hts := atoms_spec (ws := wsX8_no) B.pre
  have hown : s.vm.findClass RX8 = some m.cls := findClass_of_methodNamed B.named
  have hlocks := B.notSynchronized
  subst hsz
  have hD := hD0.self (sz := s.heap.size)
  have hA := zA_of hD
  have hl := lv_entry ([.ref m0, .int b_]) (n := 2) (Nat.le_of_ble_eq_true rfl)
  rw [lg_entry_eq]
  generalize (lg_sl ([.ref m0, .int b_]) ++ List.replicate (2 - (lg_sl ([.ref m0, .int b_])).length) Slot.unset).toArray = ls at hl ⊢
  replace hl : lv_has ls 2 [(0, .ref m0), (1, .int b_)] := hl
  refine zw_begin hP hD (fun H locs hP1 hS => ?_)
  clear hP
  have hP := hP1
  clear hP1
  refine lv_aload_n hx hb dX8_no_0 rfl (lv_at hl 0 rfl) ?_
  refine va_get (D := D) (ci := 8) (v := .ref mrf) (C := RX8) (T := TX8) (N := 38) hx hb hts hi_X8_no_8 hown hK hP 0 rfl rfl 10 (by decide) (hts (.fieldLink RX8 25 "TheLiningsInItModel" "refused" "[I") (List.mem_of_getElem? (i := 1) rfl)) (fun _ h9 => h9) rfl dX8_no_1 ?_
  refine lv_iload_n hx hb dX8_no_4 rfl (lv_at hl 1 rfl) ?_
  refine lv_ineg hx hb dX8_no_5 ?_
  refine lv_topi (fun x_1 ex_1 => ?_)
  have qx_1 : x_1.toInt = -b_.toInt := by rw [ex_1]; exact zf_neg rfl (by omega) (by omega)
  refine lv_dup2_11 hx hb dX8_no_6 rfl rfl ?_
  refine va_iald hx hb hK hP 1 0 rfl rfl (zf_in (by omega) (by omega)) dX8_no_7 ?_
  refine lv_topi (fun x_2 ex_2 => ?_)
  refine lv_iconst (v := 1) hx hb dX8_no_8 (by decide) ?_
  refine lv_iadd hx hb dX8_no_9 ?_
  refine lv_topi (fun x_3 ex_3 => ?_)
  refine va_iast hx hb hK hP hD hS 1 0 rfl rfl (zf_in (by omega) (by omega)) dX8_no_10 (fun H locs hP hD hS => ?_)
  obtain ⟨g_4, hg_4⟩ : ∃ g : Nat → Int32, g = upd grf x_1.toNatClampNeg x_3 := ⟨_, rfl⟩
  rw [← hg_4] at hP hD
  clear hg_4
  have h9R := zRe (ws' := [(zMO m0 npu nte nat_ nde nto nse nhu nga nsd nfa mrf mki mpa mta mla msl mco mhe mso msi msh mce mca mwo mnu mte nba npl nen nnu nwr mwa mke mma mth mtr nra nik), (mrf, .inl (cI, 8, .inl g_4))]) hP hD rfl
  clear hP hD
  obtain ⟨hP, hD⟩ := h9R
  refine lv_iload_n hx hb dX8_no_11 rfl (lv_at hl 1 rfl) ?_
  exact W.iret (v := b_) hx hb hr (fun t ht hW => ⟨⟨b_, g_4, rfl, rfl, zRet ht hP hD [0, 1] (by decide) rfl⟩, hS.F ht⟩) hS.2.2 dX8_no_12
theorem gl_X8_noTen_X80 : GoodIn wsX8_noTen wsX80 := (dg_t (dg_t gw_wsX80))
theorem hi_X8_noTen_8 : ∀ w ∈ u_ws RX8 TX8 38, w ∈ wsX8_noTen := fun w h => (gl_X8_noTen_X80 w h).1
set_option maxHeartbeats 4000000 in
set_option maxRecDepth 100000 in
theorem c_M_noTen_5 (l : Launch) (D : va_G) (cI cJ cZ cP cS : ClassId) (po : zPool) (m0 mrf mki mpa mta mla msl mco mhe mso msi msh mce mca mwo mnu mte mwa mke mma mth mtr : Nat) (npu nte nat_ nde nto nse nhu nga nsd nfa nba npl nen nnu nwr nra nik : Int32) (grf : Nat → Int32) (hy0 : 0 ≤ npu.toInt) (hy1 : npu.toInt ≤ 8) (hy2 : 4 ≤ nte.toInt) (hy3 : nte.toInt ≤ 40) (hy4 : 0 ≤ nat_.toInt) (hy5 : nat_.toInt ≤ 40) (hy6 : 0 ≤ nde.toInt) (hy7 : nde.toInt ≤ 24) (hy8 : 0 ≤ nhu.toInt) (hy9 : nhu.toInt ≤ 9) (hy10 : 0 ≤ nra.toInt) (hy11 : nra.toInt ≤ 2000) (hy12 : 0 ≤ nik.toInt) (hy13 : nik.toInt ≤ 1) (hpz : Nat) : Met l yX8_noTen wsX8_noTen ({ frames := 0, cells := 0, slots := 0, locals := 0 }) (va_Pc [.ref m0, .int (-5)] (zW D (zKT cI cJ cZ cP cS) po [(zMO m0 npu nte nat_ nde nto nse nhu nga nsd nfa mrf mki mpa mta mla msl mco mhe mso msi msh mce mca mwo mnu mte nba npl nen nnu nwr mwa mke mma mth mtr nra nik), (mrf, .inl (cI, 8, .inl grf))] hpz)) (va_Qi (fun (r : Int32) (grf2 : (Nat → Int32)) => r = (-15)) (zB D [(zMO m0 npu nte nat_ nde nto nse nhu nga nsd nfa mrf mki mpa mta mla msl mco mhe mso msi msh mce mca mwo mnu mte nba npl nen nnu nwr mwa mke mma mth mtr nra nik), (mrf, .inl (cI, 8, .inl grf))] hpz (fun (grf2 : Nat → Int32) => [(zMO m0 npu nte nat_ nde nto nse nhu nga nsd nfa mrf mki mpa mta mla msl mco mhe mso msi msh mce mca mwo mnu mte nba npl nen nnu nwr mwa mke mma mth mtr nra nik), (mrf, .inl (cI, 8, .inl grf2))])) (va_A [(zMO m0 npu nte nat_ nde nto nse nhu nga nsd nfa mrf mki mpa mta mla msl mco mhe mso msi msh mce mca mwo mnu mte nba npl nen nnu nwr mwa mke mma mth mtr nra nik), (mrf, .inl (cI, 8, .inl grf))] hpz)) 0 0 (va_A [(zMO m0 npu nte nat_ nde nto nse nhu nga nsd nfa mrf mki mpa mta mla msl mco mhe mso msi msh mce mca mwo mnu mte nba npl nen nnu nwr mwa mke mma mth mtr nra nik), (mrf, .inl (cI, 8, .inl grf))] hpz) := by
  refine Met.ofW (cc := cX8_noTen) (maxL := 2) (ret := (some .int)) (by decide) rfl ?_
  intro p e s m args below meth c s₁ B hml hv
  obtain ⟨rfl, hsz, hP, hK, hD0, hN, hZ⟩ := hv
  have hx := B.exec
  have hb := B.bytes
  have hr := B.returns
  have hts := atoms_spec (ws := wsX8_noTen) B.pre
  have hown : s.vm.findClass RX8 = some m.cls := findClass_of_methodNamed B.named
  have hlocks := B.notSynchronized
  subst hsz
  have hD := hD0.self (sz := s.heap.size)
  have hA := zA_of hD
  have hl := lv_entry ([.ref m0, .int (-5)]) (n := 2) (Nat.le_of_ble_eq_true rfl)
  rw [lg_entry_eq]
  generalize (lg_sl ([.ref m0, .int (-5)]) ++ List.replicate (2 - (lg_sl ([.ref m0, .int (-5)])).length) Slot.unset).toArray = ls at hl ⊢
  replace hl : lv_has ls 2 [(0, .ref m0), (1, .int (-5))] := hl
  refine zw_begin hP hD (fun H locs hP1 hS => ?_)
  clear hP
  have hP := hP1
  clear hP1
  refine lv_aload_n hx hb dX8_noTen_0 rfl (lv_at hl 0 rfl) ?_
  refine va_get (D := D) (ci := 8) (v := .ref mrf) (C := RX8) (T := TX8) (N := 38) hx hb hts hi_X8_noTen_8 hown hK hP 0 rfl rfl 10 (by decide) (hts (.fieldLink RX8 25 "TheLiningsInItModel" "refused" "[I") (List.mem_of_getElem? (i := 1) rfl)) (fun _ h9 => h9) rfl dX8_noTen_1 ?_
  refine lv_iload_n hx hb dX8_noTen_4 rfl (lv_at hl 1 rfl) ?_
  refine lv_ineg hx hb dX8_noTen_5 ?_
  refine lv_topi (fun y_1 ey_1 => ?_)
  obtain rfl : y_1 = 5 := ey_1.trans (by decide)
  refine lv_dup2_11 hx hb dX8_noTen_6 rfl rfl ?_
  refine va_iald hx hb hK hP 1 0 rfl rfl (zf_in (by decide) (by decide)) dX8_noTen_7 ?_
  refine lv_topi (fun x_2 ex_2 => ?_)
  refine lv_iconst (v := 1) hx hb dX8_noTen_8 (by decide) ?_
  refine lv_iadd hx hb dX8_noTen_9 ?_
  refine lv_topi (fun x_3 ex_3 => ?_)
  refine va_iast hx hb hK hP hD hS 1 0 rfl rfl (zf_in (by decide) (by decide)) dX8_noTen_10 (fun H locs hP hD hS => ?_)
  obtain ⟨g_4, hg_4⟩ : ∃ g : Nat → Int32, g = upd grf (5 : Int32).toNatClampNeg x_3 := ⟨_, rfl⟩
  rw [← hg_4] at hP hD
  clear hg_4
  have h9R := zRe (ws' := [(zMO m0 npu nte nat_ nde nto nse nhu nga nsd nfa mrf mki mpa mta mla msl mco mhe mso msi msh mce mca mwo mnu mte nba npl nen nnu nwr mwa mke mma mth mtr nra nik), (mrf, .inl (cI, 8, .inl g_4))]) hP hD rfl
  clear hP hD
  obtain ⟨hP, hD⟩ := h9R
  refine lv_iload_n hx hb dX8_noTen_11 rfl (lv_at hl 1 rfl) ?_
  refine lv_bipush (v := 10) hx hb dX8_noTen_12 (by decide) ?_
  refine lv_isub hx hb dX8_noTen_14 ?_
  refine lv_topi (fun y_5 ey_5 => ?_)
  obtain rfl : y_5 = (-15) := ey_5.trans (by decide)
  exact W.iret (v := (-15)) hx hb hr (fun t ht hW => ⟨⟨(-15), g_4, rfl, rfl, zRet ht hP hD [0, 1] (by decide) rfl⟩, hS.F ht⟩) hS.2.2 dX8_noTen_15
set_option maxHeartbeats 4000000 in
set_option maxRecDepth 100000 in
theorem c_M_noTen_6 (l : Launch) (D : va_G) (cI cJ cZ cP cS : ClassId) (po : zPool) (m0 mrf mki mpa mta mla msl mco mhe mso msi msh mce mca mwo mnu mte mwa mke mma mth mtr : Nat) (npu nte nat_ nde nto nse nhu nga nsd nfa nba npl nen nnu nwr nra nik : Int32) (grf : Nat → Int32) (hy0 : 0 ≤ npu.toInt) (hy1 : npu.toInt ≤ 8) (hy2 : 4 ≤ nte.toInt) (hy3 : nte.toInt ≤ 40) (hy4 : 0 ≤ nat_.toInt) (hy5 : nat_.toInt ≤ 40) (hy6 : 0 ≤ nde.toInt) (hy7 : nde.toInt ≤ 24) (hy8 : 0 ≤ nhu.toInt) (hy9 : nhu.toInt ≤ 9) (hy10 : 0 ≤ nra.toInt) (hy11 : nra.toInt ≤ 2000) (hy12 : 0 ≤ nik.toInt) (hy13 : nik.toInt ≤ 1) (hpz : Nat) : Met l yX8_noTen wsX8_noTen ({ frames := 0, cells := 0, slots := 0, locals := 0 }) (va_Pc [.ref m0, .int (-6)] (zW D (zKT cI cJ cZ cP cS) po [(zMO m0 npu nte nat_ nde nto nse nhu nga nsd nfa mrf mki mpa mta mla msl mco mhe mso msi msh mce mca mwo mnu mte nba npl nen nnu nwr mwa mke mma mth mtr nra nik), (mrf, .inl (cI, 8, .inl grf))] hpz)) (va_Qi (fun (r : Int32) (grf2 : (Nat → Int32)) => r = (-16)) (zB D [(zMO m0 npu nte nat_ nde nto nse nhu nga nsd nfa mrf mki mpa mta mla msl mco mhe mso msi msh mce mca mwo mnu mte nba npl nen nnu nwr mwa mke mma mth mtr nra nik), (mrf, .inl (cI, 8, .inl grf))] hpz (fun (grf2 : Nat → Int32) => [(zMO m0 npu nte nat_ nde nto nse nhu nga nsd nfa mrf mki mpa mta mla msl mco mhe mso msi msh mce mca mwo mnu mte nba npl nen nnu nwr mwa mke mma mth mtr nra nik), (mrf, .inl (cI, 8, .inl grf2))])) (va_A [(zMO m0 npu nte nat_ nde nto nse nhu nga nsd nfa mrf mki mpa mta mla msl mco mhe mso msi msh mce mca mwo mnu mte nba npl nen nnu nwr mwa mke mma mth mtr nra nik), (mrf, .inl (cI, 8, .inl grf))] hpz)) 0 0 (va_A [(zMO m0 npu nte nat_ nde nto nse nhu nga nsd nfa mrf mki mpa mta mla msl mco mhe mso msi msh mce mca mwo mnu mte nba npl nen nnu nwr mwa mke mma mth mtr nra nik), (mrf, .inl (cI, 8, .inl grf))] hpz) := by
  refine Met.ofW (cc := cX8_noTen) (maxL := 2) (ret := (some .int)) (by decide) rfl ?_
  intro p e s m args below meth c s₁ B hml hv
  obtain ⟨rfl, hsz, hP, hK, hD0, hN, hZ⟩ := hv
  have hx := B.exec
  have hb := B.bytes
  have hr := B.returns
  have hts := atoms_spec (ws := wsX8_noTen) B.pre
  have hown : s.vm.findClass RX8 = some m.cls := findClass_of_methodNamed B.named
  have hlocks := B.notSynchronized
  subst hsz
  have hD := hD0.self (sz := s.heap.size)
  have hA := zA_of hD
  have hl := lv_entry ([.ref m0, .int (-6)]) (n := 2) (Nat.le_of_ble_eq_true rfl)
  rw [lg_entry_eq]
  generalize (lg_sl ([.ref m0, .int (-6)]) ++ List.replicate (2 - (lg_sl ([.ref m0, .int (-6)])).length) Slot.unset).toArray = ls at hl ⊢
  replace hl : lv_has ls 2 [(0, .ref m0), (1, .int (-6))] := hl
  refine zw_begin hP hD (fun H locs hP1 hS => ?_)
  clear hP
  have hP := hP1
  clear hP1
  refine lv_aload_n hx hb dX8_noTen_0 rfl (lv_at hl 0 rfl) ?_
  refine va_get (D := D) (ci := 8) (v := .ref mrf) (C := RX8) (T := TX8) (N := 38) hx hb hts hi_X8_noTen_8 hown hK hP 0 rfl rfl 10 (by decide) (hts (.fieldLink RX8 25 "TheLiningsInItModel" "refused" "[I") (List.mem_of_getElem? (i := 1) rfl)) (fun _ h9 => h9) rfl dX8_noTen_1 ?_
  refine lv_iload_n hx hb dX8_noTen_4 rfl (lv_at hl 1 rfl) ?_
  refine lv_ineg hx hb dX8_noTen_5 ?_
  refine lv_topi (fun y_1 ey_1 => ?_)
  obtain rfl : y_1 = 6 := ey_1.trans (by decide)
  refine lv_dup2_11 hx hb dX8_noTen_6 rfl rfl ?_
  refine va_iald hx hb hK hP 1 0 rfl rfl (zf_in (by decide) (by decide)) dX8_noTen_7 ?_
  refine lv_topi (fun x_2 ex_2 => ?_)
  refine lv_iconst (v := 1) hx hb dX8_noTen_8 (by decide) ?_
  refine lv_iadd hx hb dX8_noTen_9 ?_
  refine lv_topi (fun x_3 ex_3 => ?_)
  refine va_iast hx hb hK hP hD hS 1 0 rfl rfl (zf_in (by decide) (by decide)) dX8_noTen_10 (fun H locs hP hD hS => ?_)
  obtain ⟨g_4, hg_4⟩ : ∃ g : Nat → Int32, g = upd grf (6 : Int32).toNatClampNeg x_3 := ⟨_, rfl⟩
  rw [← hg_4] at hP hD
  clear hg_4
  have h9R := zRe (ws' := [(zMO m0 npu nte nat_ nde nto nse nhu nga nsd nfa mrf mki mpa mta mla msl mco mhe mso msi msh mce mca mwo mnu mte nba npl nen nnu nwr mwa mke mma mth mtr nra nik), (mrf, .inl (cI, 8, .inl g_4))]) hP hD rfl
  clear hP hD
  obtain ⟨hP, hD⟩ := h9R
  refine lv_iload_n hx hb dX8_noTen_11 rfl (lv_at hl 1 rfl) ?_
  refine lv_bipush (v := 10) hx hb dX8_noTen_12 (by decide) ?_
  refine lv_isub hx hb dX8_noTen_14 ?_
  refine lv_topi (fun y_5 ey_5 => ?_)
  obtain rfl : y_5 = (-16) := ey_5.trans (by decide)
  exact W.iret (v := (-16)) hx hb hr (fun t ht hW => ⟨⟨(-16), g_4, rfl, rfl, zRet ht hP hD [0, 1] (by decide) rfl⟩, hS.F ht⟩) hS.2.2 dX8_noTen_15
set_option maxHeartbeats 4000000 in
set_option maxRecDepth 100000 in
theorem c_M_isShelf (l : Launch) (D : va_G) (cI cJ cZ cP cS : ClassId) (po : zPool) (m0 mrf mki mpa mta mla msl mco mhe mso msi msh mce mca mwo mnu mte mwa mke mma mth mtr : Nat) (npu nte nat_ nde nto nse nhu nga nsd nfa nba npl nen nnu nwr nra nik : Int32) (s_ : Int32) (hy0 : 0 ≤ npu.toInt) (hy1 : npu.toInt ≤ 8) (hy2 : 4 ≤ nte.toInt) (hy3 : nte.toInt ≤ 40) (hy4 : 0 ≤ nat_.toInt) (hy5 : nat_.toInt ≤ 40) (hy6 : 0 ≤ nde.toInt) (hy7 : nde.toInt ≤ 24) (hy8 : 0 ≤ nhu.toInt) (hy9 : nhu.toInt ≤ 9) (hy10 : 0 ≤ nra.toInt) (hy11 : nra.toInt ≤ 2000) (hy12 : 0 ≤ nik.toInt) (hy13 : nik.toInt ≤ 1) : Met l yX8_isShelf wsX8_isShelf ({ frames := 0, cells := 0, slots := 0, locals := 0 }) (va_Pc [.ref m0, .int s_] (zR D (zKT cI cJ cZ cP cS) po [(zMO m0 npu nte nat_ nde nto nse nhu nga nsd nfa mrf mki mpa mta mla msl mco mhe mso msi msh mce mca mwo mnu mte nba npl nen nnu nwr mwa mke mma mth mtr nra nik)])) (vp_Si (fun r => (r = 0 ∧ s_.toInt < 0) ∨ (r = 0 ∧ 0 ≤ s_.toInt ∧ 8 ≤ s_.toInt) ∨ (r = 1 ∧ 0 ≤ s_.toInt ∧ s_.toInt < 8))) 0 0 (fun _ => False) := by
  refine Met.ofW (cc := cX8_isShelf) (maxL := 2) (ret := (some .boolean)) (by decide) rfl ?_
  intro p e s m args below meth c s₁ B hml hv
  obtain ⟨rfl, hP, hK, hN, hZ⟩ := hv
  have hx := B.exec
  have hb := B.bytes
  have hr := B.returns
  have hts := atoms_spec (ws := wsX8_isShelf) B.pre
  have hown : s.vm.findClass RX8 = some m.cls := findClass_of_methodNamed B.named
  have hlocks := B.notSynchronized
  have hl := lv_entry ([.ref m0, .int s_]) (n := 2) (Nat.le_of_ble_eq_true rfl)
  rw [lg_entry_eq]
  generalize (lg_sl ([.ref m0, .int s_]) ++ List.replicate (2 - (lg_sl ([.ref m0, .int s_])).length) Slot.unset).toArray = ls at hl ⊢
  replace hl : lv_has ls 2 [(0, .ref m0), (1, .int s_)] := hl
  refine lv_iload_n hx hb dX8_isShelf_0 rfl (lv_at hl 1 rfl) ?_
  refine lv_if_lt (tgt := 14) hx hb dX8_isShelf_1 (by decide) (fun c_1 => ?_) (fun c_1 => ?_)
  · have fc_1 : s_.toInt < 0 := zf_lt c_1 rfl (by decide)
    refine lv_iconst (v := 0) hx hb dX8_isShelf_14 (by decide) ?_
    exact W.zret (v := 0) hx hb hr (by decide) (fun t ht hW => ⟨0, rfl, Or.inl (⟨rfl, (by first | omega | decide)⟩), ht⟩) (fun q hq => by cases hq) dX8_isShelf_15
  · have fc_1 : 0 ≤ s_.toInt := zf_nlt c_1 rfl (by decide)
    refine lv_iload_n hx hb dX8_isShelf_4 rfl (lv_at hl 1 rfl) ?_
    refine lv_bipush (v := 8) hx hb dX8_isShelf_5 (by decide) ?_
    refine lv_icmp_ge (tgt := 14) hx hb dX8_isShelf_7 (by decide) (fun c_2 => ?_) (fun c_2 => ?_)
    · have fc_2 : 8 ≤ s_.toInt := zf_le c_2 (by decide) rfl
      refine lv_iconst (v := 0) hx hb dX8_isShelf_14 (by decide) ?_
      exact W.zret (v := 0) hx hb hr (by decide) (fun t ht hW => ⟨0, rfl, Or.inr (Or.inl (⟨rfl, (by first | omega | decide), (by first | omega | decide)⟩)), ht⟩) (fun q hq => by cases hq) dX8_isShelf_15
    · have fc_2 : s_.toInt < 8 := zf_nle c_2 (by decide) rfl
      refine lv_iconst (v := 1) hx hb dX8_isShelf_10 (by decide) ?_
      refine lv_goto (tgt := 15) hx hb dX8_isShelf_11 (by decide) ?_
      exact W.zret (v := 1) hx hb hr (by decide) (fun t ht hW => ⟨1, rfl, Or.inr (Or.inr (⟨rfl, (by first | omega | decide), (by first | omega | decide)⟩)), ht⟩) (fun q hq => by cases hq) dX8_isShelf_15
theorem gl_X8_isPull_X80 : GoodIn wsX8_isPull wsX80 := (dg_t (dg_t gw_wsX80))
theorem hi_X8_isPull_8 : ∀ w ∈ u_ws RX8 TX8 38, w ∈ wsX8_isPull := fun w h => (gl_X8_isPull_X80 w h).1
set_option maxHeartbeats 4000000 in
set_option maxRecDepth 100000 in
theorem c_M_isPull (l : Launch) (D : va_G) (cI cJ cZ cP cS : ClassId) (po : zPool) (m0 mrf mki mpa mta mla msl mco mhe mso msi msh mce mca mwo mnu mte mwa mke mma mth mtr : Nat) (npu nte nat_ nde nto nse nhu nga nsd nfa nba npl nen nnu nwr nra nik : Int32) (p_ : Int32) (hy0 : 0 ≤ npu.toInt) (hy1 : npu.toInt ≤ 8) (hy2 : 4 ≤ nte.toInt) (hy3 : nte.toInt ≤ 40) (hy4 : 0 ≤ nat_.toInt) (hy5 : nat_.toInt ≤ 40) (hy6 : 0 ≤ nde.toInt) (hy7 : nde.toInt ≤ 24) (hy8 : 0 ≤ nhu.toInt) (hy9 : nhu.toInt ≤ 9) (hy10 : 0 ≤ nra.toInt) (hy11 : nra.toInt ≤ 2000) (hy12 : 0 ≤ nik.toInt) (hy13 : nik.toInt ≤ 1) : Met l yX8_isPull wsX8_isPull ({ frames := 0, cells := 0, slots := 0, locals := 0 }) (va_Pc [.ref m0, .int p_] (zR D (zKT cI cJ cZ cP cS) po [(zMO m0 npu nte nat_ nde nto nse nhu nga nsd nfa mrf mki mpa mta mla msl mco mhe mso msi msh mce mca mwo mnu mte nba npl nen nnu nwr mwa mke mma mth mtr nra nik)])) (vp_Si (fun r => (r = 0 ∧ p_.toInt < 0) ∨ (r = 0 ∧ 0 ≤ p_.toInt ∧ npu.toInt ≤ p_.toInt) ∨ (r = 1 ∧ 0 ≤ p_.toInt ∧ p_.toInt < npu.toInt))) 0 0 (fun _ => False) := by
  refine Met.ofW (cc := cX8_isPull) (maxL := 2) (ret := (some .boolean)) (by decide) rfl ?_
  intro p e s m args below meth c s₁ B hml hv
  obtain ⟨rfl, hP, hK, hN, hZ⟩ := hv
  have hx := B.exec
  have hb := B.bytes
  have hr := B.returns
  have hts := atoms_spec (ws := wsX8_isPull) B.pre
  have hown : s.vm.findClass RX8 = some m.cls := findClass_of_methodNamed B.named
  have hlocks := B.notSynchronized
  have hl := lv_entry ([.ref m0, .int p_]) (n := 2) (Nat.le_of_ble_eq_true rfl)
  rw [lg_entry_eq]
  generalize (lg_sl ([.ref m0, .int p_]) ++ List.replicate (2 - (lg_sl ([.ref m0, .int p_])).length) Slot.unset).toArray = ls at hl ⊢
  replace hl : lv_has ls 2 [(0, .ref m0), (1, .int p_)] := hl
  refine lv_iload_n hx hb dX8_isPull_0 rfl (lv_at hl 1 rfl) ?_
  refine lv_if_lt (tgt := 16) hx hb dX8_isPull_1 (by decide) (fun c_1 => ?_) (fun c_1 => ?_)
  · have fc_1 : p_.toInt < 0 := zf_lt c_1 rfl (by decide)
    refine lv_iconst (v := 0) hx hb dX8_isPull_16 (by decide) ?_
    exact W.zret (v := 0) hx hb hr (by decide) (fun t ht hW => ⟨0, rfl, Or.inl (⟨rfl, (by first | omega | decide)⟩), ht⟩) (fun q hq => by cases hq) dX8_isPull_17
  · have fc_1 : 0 ≤ p_.toInt := zf_nlt c_1 rfl (by decide)
    refine lv_iload_n hx hb dX8_isPull_4 rfl (lv_at hl 1 rfl) ?_
    refine lv_aload_n hx hb dX8_isPull_5 rfl (lv_at hl 0 rfl) ?_
    refine va_get (D := D) (ci := 8) (v := .int npu) (C := RX8) (T := TX8) (N := 38) hx hb hts hi_X8_isPull_8 hown hK hP 0 rfl rfl 0 (by decide) (hts (.fieldLink RX8 90 "TheLiningsInItModel" "pulls" "I") (List.mem_of_getElem? (i := 1) rfl)) (fun _ h9 => h9) rfl dX8_isPull_6 ?_
    refine lv_icmp_ge (tgt := 16) hx hb dX8_isPull_9 (by decide) (fun c_2 => ?_) (fun c_2 => ?_)
    · have fc_2 : npu.toInt ≤ p_.toInt := zf_le c_2 rfl rfl
      refine lv_iconst (v := 0) hx hb dX8_isPull_16 (by decide) ?_
      exact W.zret (v := 0) hx hb hr (by decide) (fun t ht hW => ⟨0, rfl, Or.inr (Or.inl (⟨rfl, (by first | omega | decide), (by first | omega | decide)⟩)), ht⟩) (fun q hq => by cases hq) dX8_isPull_17
    · have fc_2 : p_.toInt < npu.toInt := zf_nle c_2 rfl rfl
      refine lv_iconst (v := 1) hx hb dX8_isPull_12 (by decide) ?_
      refine lv_goto (tgt := 17) hx hb dX8_isPull_13 (by decide) ?_
      exact W.zret (v := 1) hx hb hr (by decide) (fun t ht hW => ⟨1, rfl, Or.inr (Or.inr (⟨rfl, (by first | omega | decide), (by first | omega | decide)⟩)), ht⟩) (fun q hq => by cases hq) dX8_isPull_17
theorem gl_X8_isTooth_X80 : GoodIn wsX8_isTooth wsX80 := (dg_t (dg_t gw_wsX80))
theorem hi_X8_isTooth_8 : ∀ w ∈ u_ws RX8 TX8 38, w ∈ wsX8_isTooth := fun w h => (gl_X8_isTooth_X80 w h).1
set_option maxHeartbeats 4000000 in
set_option maxRecDepth 100000 in
theorem c_M_isTooth (l : Launch) (D : va_G) (cI cJ cZ cP cS : ClassId) (po : zPool) (m0 mrf mki mpa mta mla msl mco mhe mso msi msh mce mca mwo mnu mte mwa mke mma mth mtr : Nat) (npu nte nat_ nde nto nse nhu nga nsd nfa nba npl nen nnu nwr nra nik : Int32) (t_ : Int32) (hy0 : 0 ≤ npu.toInt) (hy1 : npu.toInt ≤ 8) (hy2 : 4 ≤ nte.toInt) (hy3 : nte.toInt ≤ 40) (hy4 : 0 ≤ nat_.toInt) (hy5 : nat_.toInt ≤ 40) (hy6 : 0 ≤ nde.toInt) (hy7 : nde.toInt ≤ 24) (hy8 : 0 ≤ nhu.toInt) (hy9 : nhu.toInt ≤ 9) (hy10 : 0 ≤ nra.toInt) (hy11 : nra.toInt ≤ 2000) (hy12 : 0 ≤ nik.toInt) (hy13 : nik.toInt ≤ 1) : Met l yX8_isTooth wsX8_isTooth ({ frames := 0, cells := 0, slots := 0, locals := 0 }) (va_Pc [.ref m0, .int t_] (zR D (zKT cI cJ cZ cP cS) po [(zMO m0 npu nte nat_ nde nto nse nhu nga nsd nfa mrf mki mpa mta mla msl mco mhe mso msi msh mce mca mwo mnu mte nba npl nen nnu nwr mwa mke mma mth mtr nra nik)])) (vp_Si (fun r => (r = 0 ∧ t_.toInt < 0) ∨ (r = 0 ∧ 0 ≤ t_.toInt ∧ nte.toInt ≤ t_.toInt) ∨ (r = 1 ∧ 0 ≤ t_.toInt ∧ t_.toInt < nte.toInt))) 0 0 (fun _ => False) := by
  refine Met.ofW (cc := cX8_isTooth) (maxL := 2) (ret := (some .boolean)) (by decide) rfl ?_
  intro p e s m args below meth c s₁ B hml hv
  obtain ⟨rfl, hP, hK, hN, hZ⟩ := hv
  have hx := B.exec
  have hb := B.bytes
  have hr := B.returns
  have hts := atoms_spec (ws := wsX8_isTooth) B.pre
  have hown : s.vm.findClass RX8 = some m.cls := findClass_of_methodNamed B.named
  have hlocks := B.notSynchronized
  have hl := lv_entry ([.ref m0, .int t_]) (n := 2) (Nat.le_of_ble_eq_true rfl)
  rw [lg_entry_eq]
  generalize (lg_sl ([.ref m0, .int t_]) ++ List.replicate (2 - (lg_sl ([.ref m0, .int t_])).length) Slot.unset).toArray = ls at hl ⊢
  replace hl : lv_has ls 2 [(0, .ref m0), (1, .int t_)] := hl
  refine lv_iload_n hx hb dX8_isTooth_0 rfl (lv_at hl 1 rfl) ?_
  refine lv_if_lt (tgt := 16) hx hb dX8_isTooth_1 (by decide) (fun c_1 => ?_) (fun c_1 => ?_)
  · have fc_1 : t_.toInt < 0 := zf_lt c_1 rfl (by decide)
    refine lv_iconst (v := 0) hx hb dX8_isTooth_16 (by decide) ?_
    exact W.zret (v := 0) hx hb hr (by decide) (fun t ht hW => ⟨0, rfl, Or.inl (⟨rfl, (by first | omega | decide)⟩), ht⟩) (fun q hq => by cases hq) dX8_isTooth_17
  · have fc_1 : 0 ≤ t_.toInt := zf_nlt c_1 rfl (by decide)
    refine lv_iload_n hx hb dX8_isTooth_4 rfl (lv_at hl 1 rfl) ?_
    refine lv_aload_n hx hb dX8_isTooth_5 rfl (lv_at hl 0 rfl) ?_
    refine va_get (D := D) (ci := 8) (v := .int nte) (C := RX8) (T := TX8) (N := 38) hx hb hts hi_X8_isTooth_8 hown hK hP 0 rfl rfl 1 (by decide) (hts (.fieldLink RX8 7 "TheLiningsInItModel" "teeth" "I") (List.mem_of_getElem? (i := 1) rfl)) (fun _ h9 => h9) rfl dX8_isTooth_6 ?_
    refine lv_icmp_ge (tgt := 16) hx hb dX8_isTooth_9 (by decide) (fun c_2 => ?_) (fun c_2 => ?_)
    · have fc_2 : nte.toInt ≤ t_.toInt := zf_le c_2 rfl rfl
      refine lv_iconst (v := 0) hx hb dX8_isTooth_16 (by decide) ?_
      exact W.zret (v := 0) hx hb hr (by decide) (fun t ht hW => ⟨0, rfl, Or.inr (Or.inl (⟨rfl, (by first | omega | decide), (by first | omega | decide)⟩)), ht⟩) (fun q hq => by cases hq) dX8_isTooth_17
    · have fc_2 : t_.toInt < nte.toInt := zf_nle c_2 rfl rfl
      refine lv_iconst (v := 1) hx hb dX8_isTooth_12 (by decide) ?_
      refine lv_goto (tgt := 17) hx hb dX8_isTooth_13 (by decide) ?_
      exact W.zret (v := 1) hx hb hr (by decide) (fun t ht hW => ⟨1, rfl, Or.inr (Or.inr (⟨rfl, (by first | omega | decide), (by first | omega | decide)⟩)), ht⟩) (fun q hq => by cases hq) dX8_isTooth_17
theorem hi_X8_row_8 : ∀ w ∈ u_ws RX8 TX8 38, w ∈ wsX8_row := fun w h => (gl_X8_row_X80 w h).1
theorem hi_X8_set_8 : ∀ w ∈ u_ws RX8 TX8 38, w ∈ wsX8_set := fun w h => (gl_X8_set_X80 w h).1
theorem hi_X8_copy_8 : ∀ w ∈ u_ws RX8 TX8 38, w ∈ wsX8_copy := fun w h => (gl_X8_copy_X80 w h).1
theorem gl_X8_element_X80 : GoodIn wsX8_element wsX80 := (dg_t (dg_t (dg_t (dg_t (dg_t (dg_t (dg_t (dg_t (dg_t gw_wsX80)))))))))
theorem hi_X8_element_8 : ∀ w ∈ u_ws RX8 TX8 38, w ∈ wsX8_element := fun w h => (gl_X8_element_X80 w h).1
theorem hi_X8_show_8 : ∀ w ∈ u_ws RX8 TX8 38, w ∈ wsX8_show := fun w h => (gl_X8_show_X80 w h).1
end
section
theorem gl_X8_holds_X80 : GoodIn wsX8_holds wsX80 := (dg_t (dg_t (dg_t (dg_t (dg_t (dg_t (dg_t (dg_t (dg_t gw_wsX80)))))))))
theorem hi_X8_holds_8 : ∀ w ∈ u_ws RX8 TX8 38, w ∈ wsX8_holds := fun w h => (gl_X8_holds_X80 w h).1
theorem gl_X8_wanted_X80 : GoodIn wsX8_wanted wsX80 := (dg_t (dg_t (dg_t (dg_t (dg_t (dg_t (dg_t gw_wsX80)))))))
theorem hi_X8_wanted_8 : ∀ w ∈ u_ws RX8 TX8 38, w ∈ wsX8_wanted := fun w h => (gl_X8_wanted_X80 w h).1
set_option maxHeartbeats 4000000 in
set_option maxRecDepth 100000 in
theorem c_M_wanted (l : Launch) (D : va_G) (cI cJ cZ cP cS : ClassId) (po : zPool) (m0 mrf mki mpa mta mla msl mco mhe mso msi msh mce mca mwo mnu mte mwa mke mma mth mtr : Nat) (npu nte nat_ nde nto nse nhu nga nsd nfa nba npl nen nnu nwr nra nik : Int32) (ghe : Nat → Int32) (s_ : Int32) (hy0 : 0 ≤ npu.toInt) (hy1 : npu.toInt ≤ 8) (hy2 : 4 ≤ nte.toInt) (hy3 : nte.toInt ≤ 40) (hy4 : 0 ≤ nat_.toInt) (hy5 : nat_.toInt ≤ 40) (hy6 : 0 ≤ nde.toInt) (hy7 : nde.toInt ≤ 24) (hy8 : 0 ≤ nhu.toInt) (hy9 : nhu.toInt ≤ 9) (hy10 : 0 ≤ nra.toInt) (hy11 : nra.toInt ≤ 2000) (hy12 : 0 ≤ nik.toInt) (hy13 : nik.toInt ≤ 1) (hp_ghe : zRg ghe (0) 2) : Met l yX8_wanted wsX8_wanted ({ frames := 1, cells := 0, slots := 0, locals := 21 }) (va_Pc [.ref m0, .int s_] (zR D (zKT cI cJ cZ cP cS) po [(zMO m0 npu nte nat_ nde nto nse nhu nga nsd nfa mrf mki mpa mta mla msl mco mhe mso msi msh mce mca mwo mnu mte nba npl nen nnu nwr mwa mke mma mth mtr nra nik), (mhe, .inl (cI, 8, .inl ghe))])) (vp_Si (fun r => (r = (-1) ∧ s_.toInt < 0) ∨ (r = (-1) ∧ 0 ≤ s_.toInt ∧ 8 ≤ s_.toInt) ∨ (r = 0 ∧ 0 ≤ s_.toInt ∧ s_.toInt < 8) ∨ (r = (-3) ∧ 0 ≤ s_.toInt ∧ s_.toInt < 8) ∨ (r = (-2) ∧ 0 ≤ s_.toInt ∧ s_.toInt < 8))) 0 0 (fun _ => False) := by
  refine Met.ofW (cc := cX8_wanted) (maxL := 2) (ret := (some .int)) (by decide) rfl ?_
  intro p e s m args below meth c s₁ B hml hv
  obtain ⟨rfl, hP, hK, hN, hZ⟩ := hv
  have hx := B.exec
  have hb := B.bytes
  have hr := B.returns
  have hts := atoms_spec (ws := wsX8_wanted) B.pre
  have hown : s.vm.findClass RX8 = some m.cls := findClass_of_methodNamed B.named
  have hlocks := B.notSynchronized
  have hl := lv_entry ([.ref m0, .int s_]) (n := 2) (Nat.le_of_ble_eq_true rfl)
  rw [lg_entry_eq]
  generalize (lg_sl ([.ref m0, .int s_]) ++ List.replicate (2 - (lg_sl ([.ref m0, .int s_])).length) Slot.unset).toArray = ls at hl ⊢
  replace hl : lv_has ls 2 [(0, .ref m0), (1, .int s_)] := hl
  refine lv_aload_n hx hb dX8_wanted_0 rfl (lv_at hl 0 rfl) ?_
  refine lv_iload_n hx hb dX8_wanted_1 rfl (lv_at hl 1 rfl) ?_
  refine zc_V (As := [.int s_]) (rest := []) ⟨hx, hb, hml, hown, hts⟩ (c_M_isShelf l D cI cJ cZ cP cS po m0 mrf mki mpa mta mla msl mco mhe mso msi msh mce mca mwo mnu mte mwa mke mma mth mtr (npu) (nte) (nat_) (nde) (nto) (nse) (nhu) (nga) (nsd) (nfa) (nba) (npl) (nen) (nnu) (nwr) (nra) (nik) (s_) hy0 hy1 hy2 hy3 hy4 hy5 hy6 hy7 hy8 hy9 hy10 hy11 hy12 hy13) (cwV 1 hts gX8_wanted_X8_isShelf rfl rfl rfl ⟨rfl, dh_X8_isShelf⟩ ⟨Nat.le_of_ble_eq_true rfl, Nat.le_of_ble_eq_true rfl⟩) hK hN hZ hP (hP.sub [0] rfl) (va_recv (q := (RX8, TX8, 38)) hK hP (ci := 8) (q0 := 0) rfl rfl) rfl hl.1 rfl (Nat.le_of_ble_eq_true rfl) dX8_wanted_2 ⟨Nat.le_of_ble_eq_true rfl, Nat.le_of_ble_eq_true rfl⟩ (fun r_1 hr_1 => ?_)
  rcases hr_1 with ⟨rfl, g_2⟩ | ⟨rfl, g_3, g_4⟩ | ⟨rfl, g_5, g_6⟩
  · refine lv_if_ne (tgt := 12) hx hb dX8_wanted_5 (by decide) (fun c_7 => ?_) (fun c_7 => ?_)
    · exact absurd c_7 (by decide)
    · refine lv_iconst (v := (-1)) hx hb dX8_wanted_8 (by decide) ?_
      refine lv_goto (tgt := 42) hx hb dX8_wanted_9 (by decide) ?_
      exact W.iret (v := (-1)) hx hb hr (fun t ht hW => ⟨(-1), rfl, Or.inl (⟨rfl, (by first | omega | decide)⟩), ht⟩) (fun q hq => by cases hq) dX8_wanted_42
  · refine lv_if_ne (tgt := 12) hx hb dX8_wanted_5 (by decide) (fun c_8 => ?_) (fun c_8 => ?_)
    · exact absurd c_8 (by decide)
    · refine lv_iconst (v := (-1)) hx hb dX8_wanted_8 (by decide) ?_
      refine lv_goto (tgt := 42) hx hb dX8_wanted_9 (by decide) ?_
      exact W.iret (v := (-1)) hx hb hr (fun t ht hW => ⟨(-1), rfl, Or.inr (Or.inl (⟨rfl, (by first | omega | decide), (by first | omega | decide)⟩)), ht⟩) (fun q hq => by cases hq) dX8_wanted_42
  · refine lv_if_ne (tgt := 12) hx hb dX8_wanted_5 (by decide) (fun c_9 => ?_) (fun c_9 => ?_)
    · refine lv_aload_n hx hb dX8_wanted_12 rfl (lv_at hl 0 rfl) ?_
      refine va_get (D := D) (ci := 8) (v := .ref mhe) (C := RX8) (T := TX8) (N := 38) hx hb hts hi_X8_wanted_8 hown hK hP 0 rfl rfl 17 (by decide) (hts (.fieldLink RX8 47 "TheLiningsInItModel" "held" "[I") (List.mem_of_getElem? (i := 1) rfl)) (fun _ h9 => h9) rfl dX8_wanted_13 ?_
      refine lv_iload_n hx hb dX8_wanted_16 rfl (lv_at hl 1 rfl) ?_
      refine va_iald hx hb hK hP 1 0 rfl rfl (zf_in (by omega) (by omega)) dX8_wanted_17 ?_
      refine lv_topi (fun x_10 ex_10 => ?_)
      have bx_10 : 0 ≤ x_10.toInt ∧ x_10.toInt ≤ 2 := by rw [ex_10]; exact hp_ghe _
      refine lv_iconst (v := 2) hx hb dX8_wanted_18 (by decide) ?_
      refine lv_icmp_ne (tgt := 27) hx hb dX8_wanted_19 (by decide) (fun c_11 => ?_) (fun c_11 => ?_)
      · have fc_11 : x_10.toInt ≠ 2 := zf_ne c_11 rfl (by decide)
        refine lv_aload_n hx hb dX8_wanted_27 rfl (lv_at hl 0 rfl) ?_
        refine va_get (D := D) (ci := 8) (v := .ref mhe) (C := RX8) (T := TX8) (N := 38) hx hb hts hi_X8_wanted_8 hown hK hP 0 rfl rfl 17 (by decide) (hts (.fieldLink RX8 47 "TheLiningsInItModel" "held" "[I") (List.mem_of_getElem? (i := 1) rfl)) (fun _ h9 => h9) rfl dX8_wanted_28 ?_
        refine lv_iload_n hx hb dX8_wanted_31 rfl (lv_at hl 1 rfl) ?_
        refine va_iald hx hb hK hP 1 0 rfl rfl (zf_in (by omega) (by omega)) dX8_wanted_32 ?_
        refine lv_topi (fun x_12 ex_12 => ?_)
        have bx_12 : 0 ≤ x_12.toInt ∧ x_12.toInt ≤ 2 := by rw [ex_12]; exact hp_ghe _
        refine lv_if_ne (tgt := 41) hx hb dX8_wanted_33 (by decide) (fun c_13 => ?_) (fun c_13 => ?_)
        · have fc_13 : x_12.toInt ≠ 0 := zf_ne c_13 rfl (by decide)
          refine lv_iconst (v := 0) hx hb dX8_wanted_41 (by decide) ?_
          exact W.iret (v := 0) hx hb hr (fun t ht hW => ⟨0, rfl, Or.inr (Or.inr (Or.inl (⟨rfl, (by first | omega | decide), (by first | omega | decide)⟩))), ht⟩) (fun q hq => by cases hq) dX8_wanted_42
        · have fc_13 : x_12.toInt = 0 := zf_eq c_13 rfl (by decide)
          refine lv_bipush (v := (-3)) hx hb dX8_wanted_36 (by decide) ?_
          refine lv_goto (tgt := 42) hx hb dX8_wanted_38 (by decide) ?_
          exact W.iret (v := (-3)) hx hb hr (fun t ht hW => ⟨(-3), rfl, Or.inr (Or.inr (Or.inr (Or.inl (⟨rfl, (by first | omega | decide), (by first | omega | decide)⟩)))), ht⟩) (fun q hq => by cases hq) dX8_wanted_42
      · have fc_11 : x_10.toInt = 2 := zf_eq c_11 rfl (by decide)
        refine lv_bipush (v := (-2)) hx hb dX8_wanted_22 (by decide) ?_
        refine lv_goto (tgt := 42) hx hb dX8_wanted_24 (by decide) ?_
        exact W.iret (v := (-2)) hx hb hr (fun t ht hW => ⟨(-2), rfl, Or.inr (Or.inr (Or.inr (Or.inr (⟨rfl, (by first | omega | decide), (by first | omega | decide)⟩)))), ht⟩) (fun q hq => by cases hq) dX8_wanted_42
    · exact absurd c_9 (by decide)
theorem gl_X8_intAt_X80 : GoodIn wsX8_intAt wsX80 := (dg_t (dg_t gw_wsX80))
theorem hi_X8_intAt_8 : ∀ w ∈ u_ws RX8 TX8 38, w ∈ wsX8_intAt := fun w h => (gl_X8_intAt_X80 w h).1
set_option maxHeartbeats 4000000 in
set_option maxRecDepth 100000 in
theorem c_M_intAt (l : Launch) (D : va_G) (cI cJ cZ cP cS : ClassId) (po : zPool) (m0 mrf mki mpa mta mla msl mco mhe mso msi msh mce mca mwo mnu mte mwa mke mma mth mtr : Nat) (npu nte nat_ nde nto nse nhu nga nsd nfa nba npl nen nnu nwr nra nik : Int32) (gce : Nat → Int64) (s_ i : Int32) (hy0 : 0 ≤ npu.toInt) (hy1 : npu.toInt ≤ 8) (hy2 : 4 ≤ nte.toInt) (hy3 : nte.toInt ≤ 40) (hy4 : 0 ≤ nat_.toInt) (hy5 : nat_.toInt ≤ 40) (hy6 : 0 ≤ nde.toInt) (hy7 : nde.toInt ≤ 24) (hy8 : 0 ≤ nhu.toInt) (hy9 : nhu.toInt ≤ 9) (hy10 : 0 ≤ nra.toInt) (hy11 : nra.toInt ≤ 2000) (hy12 : 0 ≤ nik.toInt) (hy13 : nik.toInt ≤ 1) (hy14 : 0 ≤ s_.toInt) (hy15 : s_.toInt ≤ 7) (hy16 : 0 ≤ i.toInt) (hy17 : i.toInt ≤ 159) : Met l yX8_intAt wsX8_intAt ({ frames := 0, cells := 0, slots := 0, locals := 0 }) (va_Pc [.ref m0, .int s_, .int i] (zR D (zKT cI cJ cZ cP cS) po [(zMO m0 npu nte nat_ nde nto nse nhu nga nsd nfa mrf mki mpa mta mla msl mco mhe mso msi msh mce mca mwo mnu mte nba npl nen nnu nwr mwa mke mma mth mtr nra nik), (mce, .inl (cJ, 1280, .inr (.inl gce)))])) (vp_Si (fun r => True)) 0 0 (fun _ => False) := by
  refine Met.ofW (cc := cX8_intAt) (maxL := 3) (ret := (some .int)) (by decide) rfl ?_
  intro p e s m args below meth c s₁ B hml hv
  obtain ⟨rfl, hP, hK, hN, hZ⟩ := hv
  have hx := B.exec
  have hb := B.bytes
  have hr := B.returns
  have hts := atoms_spec (ws := wsX8_intAt) B.pre
  have hown : s.vm.findClass RX8 = some m.cls := findClass_of_methodNamed B.named
  have hlocks := B.notSynchronized
  have hl := lv_entry ([.ref m0, .int s_, .int i]) (n := 3) (Nat.le_of_ble_eq_true rfl)
  rw [lg_entry_eq]
  generalize (lg_sl ([.ref m0, .int s_, .int i]) ++ List.replicate (3 - (lg_sl ([.ref m0, .int s_, .int i])).length) Slot.unset).toArray = ls at hl ⊢
  replace hl : lv_has ls 3 [(0, .ref m0), (1, .int s_), (2, .int i)] := hl
  refine lv_aload_n hx hb dX8_intAt_0 rfl (lv_at hl 0 rfl) ?_
  refine va_get (D := D) (ci := 8) (v := .ref mce) (C := RX8) (T := TX8) (N := 38) hx hb hts hi_X8_intAt_8 hown hK hP 0 rfl rfl 21 (by decide) (hts (.fieldLink RX8 59 "TheLiningsInItModel" "cells" "[J") (List.mem_of_getElem? (i := 1) rfl)) (fun _ h9 => h9) rfl dX8_intAt_1 ?_
  refine lv_sipush (v := 160) hx hb dX8_intAt_4 (by decide) ?_
  refine lv_iload_n hx hb dX8_intAt_7 rfl (lv_at hl 1 rfl) ?_
  refine lv_imul hx hb dX8_intAt_8 ?_
  refine lv_topi (fun x_1 ex_1 => ?_)
  have qx_1 : x_1.toInt = 160 * s_.toInt := by rw [ex_1]; exact zf_mul (by decide) rfl (by omega) (by omega)
  refine lv_iload_n hx hb dX8_intAt_9 rfl (lv_at hl 2 rfl) ?_
  refine lv_iadd hx hb dX8_intAt_10 ?_
  refine lv_topi (fun x_2 ex_2 => ?_)
  have qx_2 : x_2.toInt = x_1.toInt + i.toInt := by rw [ex_2]; exact zf_add rfl rfl (by omega) (by omega)
  refine va_lald hx hb hK hP 1 1 rfl rfl (zf_in (by omega) (by omega)) dX8_intAt_11 ?_
  refine lv_topl (fun x_3 ex_3 => ?_)
  refine lv_l2i hx hb dX8_intAt_12 rfl ?_
  refine lv_topi (fun x_4 ex_4 => ?_)
  exact W.iret (v := x_4) hx hb hr (fun t ht hW => ⟨x_4, rfl, trivial, ht⟩) (fun q hq => by cases hq) dX8_intAt_13
theorem gl_X8_ways_X80 : GoodIn wsX8_ways wsX80 := (dg_t (dg_t (dg_t (dg_t gw_wsX80))))
theorem hi_X8_ways_8 : ∀ w ∈ u_ws RX8 TX8 38, w ∈ wsX8_ways := fun w h => (gl_X8_ways_X80 w h).1
set_option maxHeartbeats 4000000 in
set_option maxRecDepth 100000 in
theorem c_M_ways (l : Launch) (D : va_G) (cI cJ cZ cP cS : ClassId) (po : zPool) (m0 mrf mki mpa mta mla msl mco mhe mso msi msh mce mca mwo mnu mte mwa mke mma mth mtr : Nat) (npu nte nat_ nde nto nse nhu nga nsd nfa nba npl nen nnu nwr nra nik : Int32) (gki gpa : Nat → Int32) (p_ d : Int32) (hy0 : 0 ≤ npu.toInt) (hy1 : npu.toInt ≤ 8) (hy2 : 4 ≤ nte.toInt) (hy3 : nte.toInt ≤ 40) (hy4 : 0 ≤ nat_.toInt) (hy5 : nat_.toInt ≤ 40) (hy6 : 0 ≤ nde.toInt) (hy7 : nde.toInt ≤ 24) (hy8 : 0 ≤ nhu.toInt) (hy9 : nhu.toInt ≤ 9) (hy10 : 0 ≤ nra.toInt) (hy11 : nra.toInt ≤ 2000) (hy12 : 0 ≤ nik.toInt) (hy13 : nik.toInt ≤ 1) (hy14 : 0 ≤ p_.toInt) (hy15 : p_.toInt ≤ 7) (hp_gki : zRg gki (0) 6) (hp_gpa : zRg gpa (0) 9) : Met l yX8_ways wsX8_ways ({ frames := 0, cells := 0, slots := 0, locals := 0 }) (va_Pc [.ref m0, .int p_, .int d] (zR D (zKT cI cJ cZ cP cS) po [(zMO m0 npu nte nat_ nde nto nse nhu nga nsd nfa mrf mki mpa mta mla msl mco mhe mso msi msh mce mca mwo mnu mte nba npl nen nnu nwr mwa mke mma mth mtr nra nik), (mki, .inl (cI, 8, .inl gki)), (mpa, .inl (cI, 8, .inl gpa))])) (vp_Si (fun r => 0 ≤ r.toInt ∧ r.toInt ≤ 12)) 0 0 (fun _ => False) := by
  refine Met.ofW (cc := cX8_ways) (maxL := 4) (ret := (some .int)) (by decide) rfl ?_
  intro p e s m args below meth c s₁ B hml hv
  obtain ⟨rfl, hP, hK, hN, hZ⟩ := hv
  have hx := B.exec
  have hb := B.bytes
  have hr := B.returns
  have hts := atoms_spec (ws := wsX8_ways) B.pre
  have hown : s.vm.findClass RX8 = some m.cls := findClass_of_methodNamed B.named
  have hlocks := B.notSynchronized
  have hl := lv_entry ([.ref m0, .int p_, .int d]) (n := 4) (Nat.le_of_ble_eq_true rfl)
  rw [lg_entry_eq]
  generalize (lg_sl ([.ref m0, .int p_, .int d]) ++ List.replicate (4 - (lg_sl ([.ref m0, .int p_, .int d])).length) Slot.unset).toArray = ls at hl ⊢
  replace hl : lv_has ls 4 [(0, .ref m0), (1, .int p_), (2, .int d)] := hl
  refine lv_bipush (v := 6) hx hb dX8_ways_0 (by decide) ?_
  refine lv_iload_n hx hb dX8_ways_2 rfl (lv_at hl 2 rfl) ?_
  refine lv_iconst (v := 4) hx hb dX8_ways_3 (by decide) ?_
  refine lv_idiv hx hb dX8_ways_4 (by decide) ?_
  refine lv_topi (fun x_1 ex_1 => ?_)
  refine lv_isub hx hb dX8_ways_5 ?_
  refine lv_topi (fun x_2 ex_2 => ?_)
  refine lv_istore_n (lv' := [(3, .int x_2), (0, .ref m0), (1, .int p_), (2, .int d)]) hx hb dX8_ways_6 rfl hl (by decide) rfl (fun ls hl => ?_)
  refine lv_aload_n hx hb dX8_ways_7 rfl (lv_at hl 1 rfl) ?_
  refine va_get (D := D) (ci := 8) (v := .ref mki) (C := RX8) (T := TX8) (N := 38) hx hb hts hi_X8_ways_8 hown hK hP 0 rfl rfl 11 (by decide) (hts (.fieldLink RX8 29 "TheLiningsInItModel" "kind" "[I") (List.mem_of_getElem? (i := 1) rfl)) (fun _ h9 => h9) rfl dX8_ways_8 ?_
  refine lv_iload_n hx hb dX8_ways_11 rfl (lv_at hl 2 rfl) ?_
  refine va_iald hx hb hK hP 1 0 rfl rfl (zf_in (by omega) (by omega)) dX8_ways_12 ?_
  refine lv_topi (fun x_3 ex_3 => ?_)
  have bx_3 : 0 ≤ x_3.toInt ∧ x_3.toInt ≤ 6 := by rw [ex_3]; exact hp_gki _
  have hsp : x_3 = 0 ∨ x_3 = 1 ∨ x_3 = 2 ∨ x_3 = 3 ∨ x_3 = 4 ∨ x_3 = 5 ∨ x_3 = 6 := by
    rcases (show x_3.toInt = 0 ∨ x_3.toInt = 1 ∨ x_3.toInt = 2 ∨ x_3.toInt = 3 ∨ x_3.toInt = 4 ∨ x_3.toInt = 5 ∨ x_3.toInt = 6 by omega) with h9 | h9 | h9 | h9 | h9 | h9 | h9
    · refine Or.inl ?_; exact zf_val h9 (by decide)
    · refine Or.inr (Or.inl ?_); exact zf_val h9 (by decide)
    · refine Or.inr (Or.inr (Or.inl ?_)); exact zf_val h9 (by decide)
    · refine Or.inr (Or.inr (Or.inr (Or.inl ?_))); exact zf_val h9 (by decide)
    · refine Or.inr (Or.inr (Or.inr (Or.inr (Or.inl ?_)))); exact zf_val h9 (by decide)
    · refine Or.inr (Or.inr (Or.inr (Or.inr (Or.inr (Or.inl ?_))))); exact zf_val h9 (by decide)
    · refine Or.inr (Or.inr (Or.inr (Or.inr (Or.inr (Or.inr (?_)))))); exact zf_val h9 (by decide)
  rcases hsp with rfl | rfl | rfl | rfl | rfl | rfl | rfl
  · have kc0 : (0 : Int32).toInt = 0 := by decide
    refine lv_tableOut (tgt := 113) hx hb dX8_ways_13 (by decide) (by decide) ?_
    refine lv_iload_n hx hb dX8_ways_113 rfl (lv_at hl 0 rfl) ?_
    refine lv_aload_n hx hb dX8_ways_114 rfl (lv_at hl 1 rfl) ?_
    refine va_get (D := D) (ci := 8) (v := .int nhu) (C := RX8) (T := TX8) (N := 38) hx hb hts hi_X8_ways_8 hown hK hP 0 rfl rfl 6 (by decide) (hts (.fieldLink RX8 135 "TheLiningsInItModel" "hurry" "I") (List.mem_of_getElem? (i := 3) rfl)) (fun _ h9 => h9) rfl dX8_ways_115 ?_
    refine lv_iconst (v := 3) hx hb dX8_ways_118 (by decide) ?_
    refine lv_idiv hx hb dX8_ways_119 (by decide) ?_
    refine lv_topi (fun x_4 ex_4 => ?_)
    have qx_4 : x_4.toInt = nhu.toInt / 3 := by rw [ex_4]; exact zf_div rfl (by decide) (by omega) (by omega)
    refine lv_isub hx hb dX8_ways_120 ?_
    refine lv_topi (fun x_5 ex_5 => ?_)
    refine lv_istore_n (lv' := [(3, .int x_5), (0, .ref m0), (1, .int p_), (2, .int d)]) hx hb dX8_ways_121 rfl hl (by decide) rfl (fun ls hl => ?_)
    refine lv_iload_n hx hb dX8_ways_122 rfl (lv_at hl 0 rfl) ?_
    refine lv_if_ge (tgt := 130) hx hb dX8_ways_123 (by decide) (fun c_6 => ?_) (fun c_6 => ?_)
    · have fc_6 : 0 ≤ x_5.toInt := zf_le c_6 (by decide) rfl
      refine lv_iload_n hx hb dX8_ways_130 rfl (lv_at hl 0 rfl) ?_
      refine lv_bipush (v := 12) hx hb dX8_ways_131 (by decide) ?_
      refine lv_icmp_le (tgt := 141) hx hb dX8_ways_133 (by decide) (fun c_7 => ?_) (fun c_7 => ?_)
      · have fc_7 : x_5.toInt ≤ 12 := zf_le c_7 rfl (by decide)
        refine lv_iload_n hx hb dX8_ways_141 rfl (lv_at hl 0 rfl) ?_
        exact W.iret (v := x_5) hx hb hr (fun t ht hW => ⟨x_5, rfl, ⟨by omega, by omega⟩, ht⟩) (fun q hq => by cases hq) dX8_ways_142
      · have fc_7 : 12 < x_5.toInt := zf_nle c_7 rfl (by decide)
        refine lv_bipush (v := 12) hx hb dX8_ways_136 (by decide) ?_
        refine lv_goto (tgt := 142) hx hb dX8_ways_138 (by decide) ?_
        exact W.iret (v := 12) hx hb hr (fun t ht hW => ⟨12, rfl, ⟨by decide, by decide⟩, ht⟩) (fun q hq => by cases hq) dX8_ways_142
    · have fc_6 : x_5.toInt < 0 := zf_nle c_6 (by decide) rfl
      refine lv_iconst (v := 0) hx hb dX8_ways_126 (by decide) ?_
      refine lv_goto (tgt := 142) hx hb dX8_ways_127 (by decide) ?_
      exact W.iret (v := 0) hx hb hr (fun t ht hW => ⟨0, rfl, ⟨by decide, by decide⟩, ht⟩) (fun q hq => by cases hq) dX8_ways_142
  · have kc1 : (1 : Int32).toInt = 1 := by decide
    refine lv_tableIn (tgt := 52) hx hb dX8_ways_13 (by decide) (by decide) rfl (by decide) ?_
    obtain ⟨x_8, ex_8⟩ : ∃ y : Int32, y = x_2 + 2 := ⟨_, rfl⟩
    refine lv_iinc (v := x_8) (lv' := [(3, .int x_8), (0, .ref m0), (1, .int p_), (2, .int d)]) hx hb dX8_ways_52 hl (k := 0) rfl ex_8.symm (by decide) rfl (fun ls hl => ?_)
    refine lv_goto (tgt := 113) hx hb dX8_ways_55 (by decide) ?_
    refine lv_iload_n hx hb dX8_ways_113 rfl (lv_at hl 0 rfl) ?_
    refine lv_aload_n hx hb dX8_ways_114 rfl (lv_at hl 1 rfl) ?_
    refine va_get (D := D) (ci := 8) (v := .int nhu) (C := RX8) (T := TX8) (N := 38) hx hb hts hi_X8_ways_8 hown hK hP 0 rfl rfl 6 (by decide) (hts (.fieldLink RX8 135 "TheLiningsInItModel" "hurry" "I") (List.mem_of_getElem? (i := 3) rfl)) (fun _ h9 => h9) rfl dX8_ways_115 ?_
    refine lv_iconst (v := 3) hx hb dX8_ways_118 (by decide) ?_
    refine lv_idiv hx hb dX8_ways_119 (by decide) ?_
    refine lv_topi (fun x_9 ex_9 => ?_)
    have qx_9 : x_9.toInt = nhu.toInt / 3 := by rw [ex_9]; exact zf_div rfl (by decide) (by omega) (by omega)
    refine lv_isub hx hb dX8_ways_120 ?_
    refine lv_topi (fun x_10 ex_10 => ?_)
    refine lv_istore_n (lv' := [(3, .int x_10), (0, .ref m0), (1, .int p_), (2, .int d)]) hx hb dX8_ways_121 rfl hl (by decide) rfl (fun ls hl => ?_)
    refine lv_iload_n hx hb dX8_ways_122 rfl (lv_at hl 0 rfl) ?_
    refine lv_if_ge (tgt := 130) hx hb dX8_ways_123 (by decide) (fun c_11 => ?_) (fun c_11 => ?_)
    · have fc_11 : 0 ≤ x_10.toInt := zf_le c_11 (by decide) rfl
      refine lv_iload_n hx hb dX8_ways_130 rfl (lv_at hl 0 rfl) ?_
      refine lv_bipush (v := 12) hx hb dX8_ways_131 (by decide) ?_
      refine lv_icmp_le (tgt := 141) hx hb dX8_ways_133 (by decide) (fun c_12 => ?_) (fun c_12 => ?_)
      · have fc_12 : x_10.toInt ≤ 12 := zf_le c_12 rfl (by decide)
        refine lv_iload_n hx hb dX8_ways_141 rfl (lv_at hl 0 rfl) ?_
        exact W.iret (v := x_10) hx hb hr (fun t ht hW => ⟨x_10, rfl, ⟨by omega, by omega⟩, ht⟩) (fun q hq => by cases hq) dX8_ways_142
      · have fc_12 : 12 < x_10.toInt := zf_nle c_12 rfl (by decide)
        refine lv_bipush (v := 12) hx hb dX8_ways_136 (by decide) ?_
        refine lv_goto (tgt := 142) hx hb dX8_ways_138 (by decide) ?_
        exact W.iret (v := 12) hx hb hr (fun t ht hW => ⟨12, rfl, ⟨by decide, by decide⟩, ht⟩) (fun q hq => by cases hq) dX8_ways_142
    · have fc_11 : x_10.toInt < 0 := zf_nle c_11 (by decide) rfl
      refine lv_iconst (v := 0) hx hb dX8_ways_126 (by decide) ?_
      refine lv_goto (tgt := 142) hx hb dX8_ways_127 (by decide) ?_
      exact W.iret (v := 0) hx hb hr (fun t ht hW => ⟨0, rfl, ⟨by decide, by decide⟩, ht⟩) (fun q hq => by cases hq) dX8_ways_142
  · have kc2 : (2 : Int32).toInt = 2 := by decide
    refine lv_tableIn (tgt := 74) hx hb dX8_ways_13 (by decide) (by decide) rfl (by decide) ?_
    refine lv_iload_n hx hb dX8_ways_74 rfl (lv_at hl 0 rfl) ?_
    refine lv_aload_n hx hb dX8_ways_75 rfl (lv_at hl 1 rfl) ?_
    refine va_get (D := D) (ci := 8) (v := .ref mpa) (C := RX8) (T := TX8) (N := 38) hx hb hts hi_X8_ways_8 hown hK hP 0 rfl rfl 12 (by decide) (hts (.fieldLink RX8 32 "TheLiningsInItModel" "part" "[I") (List.mem_of_getElem? (i := 2) rfl)) (fun _ h9 => h9) rfl dX8_ways_76 ?_
    refine lv_iload_n hx hb dX8_ways_79 rfl (lv_at hl 2 rfl) ?_
    refine va_iald hx hb hK hP 2 0 rfl rfl (zf_in (by omega) (by omega)) dX8_ways_80 ?_
    refine lv_topi (fun x_13 ex_13 => ?_)
    have bx_13 : 0 ≤ x_13.toInt ∧ x_13.toInt ≤ 9 := by rw [ex_13]; exact hp_gpa _
    refine lv_iconst (v := 3) hx hb dX8_ways_81 (by decide) ?_
    refine lv_idiv hx hb dX8_ways_82 (by decide) ?_
    refine lv_topi (fun x_14 ex_14 => ?_)
    have qx_14 : x_14.toInt = x_13.toInt / 3 := by rw [ex_14]; exact zf_div rfl (by decide) (by omega) (by omega)
    refine lv_iadd hx hb dX8_ways_83 ?_
    refine lv_topi (fun x_15 ex_15 => ?_)
    refine lv_istore_n (lv' := [(3, .int x_15), (0, .ref m0), (1, .int p_), (2, .int d)]) hx hb dX8_ways_84 rfl hl (by decide) rfl (fun ls hl => ?_)
    refine lv_goto (tgt := 113) hx hb dX8_ways_85 (by decide) ?_
    refine lv_iload_n hx hb dX8_ways_113 rfl (lv_at hl 0 rfl) ?_
    refine lv_aload_n hx hb dX8_ways_114 rfl (lv_at hl 1 rfl) ?_
    refine va_get (D := D) (ci := 8) (v := .int nhu) (C := RX8) (T := TX8) (N := 38) hx hb hts hi_X8_ways_8 hown hK hP 0 rfl rfl 6 (by decide) (hts (.fieldLink RX8 135 "TheLiningsInItModel" "hurry" "I") (List.mem_of_getElem? (i := 3) rfl)) (fun _ h9 => h9) rfl dX8_ways_115 ?_
    refine lv_iconst (v := 3) hx hb dX8_ways_118 (by decide) ?_
    refine lv_idiv hx hb dX8_ways_119 (by decide) ?_
    refine lv_topi (fun x_16 ex_16 => ?_)
    have qx_16 : x_16.toInt = nhu.toInt / 3 := by rw [ex_16]; exact zf_div rfl (by decide) (by omega) (by omega)
    refine lv_isub hx hb dX8_ways_120 ?_
    refine lv_topi (fun x_17 ex_17 => ?_)
    refine lv_istore_n (lv' := [(3, .int x_17), (0, .ref m0), (1, .int p_), (2, .int d)]) hx hb dX8_ways_121 rfl hl (by decide) rfl (fun ls hl => ?_)
    refine lv_iload_n hx hb dX8_ways_122 rfl (lv_at hl 0 rfl) ?_
    refine lv_if_ge (tgt := 130) hx hb dX8_ways_123 (by decide) (fun c_18 => ?_) (fun c_18 => ?_)
    · have fc_18 : 0 ≤ x_17.toInt := zf_le c_18 (by decide) rfl
      refine lv_iload_n hx hb dX8_ways_130 rfl (lv_at hl 0 rfl) ?_
      refine lv_bipush (v := 12) hx hb dX8_ways_131 (by decide) ?_
      refine lv_icmp_le (tgt := 141) hx hb dX8_ways_133 (by decide) (fun c_19 => ?_) (fun c_19 => ?_)
      · have fc_19 : x_17.toInt ≤ 12 := zf_le c_19 rfl (by decide)
        refine lv_iload_n hx hb dX8_ways_141 rfl (lv_at hl 0 rfl) ?_
        exact W.iret (v := x_17) hx hb hr (fun t ht hW => ⟨x_17, rfl, ⟨by omega, by omega⟩, ht⟩) (fun q hq => by cases hq) dX8_ways_142
      · have fc_19 : 12 < x_17.toInt := zf_nle c_19 rfl (by decide)
        refine lv_bipush (v := 12) hx hb dX8_ways_136 (by decide) ?_
        refine lv_goto (tgt := 142) hx hb dX8_ways_138 (by decide) ?_
        exact W.iret (v := 12) hx hb hr (fun t ht hW => ⟨12, rfl, ⟨by decide, by decide⟩, ht⟩) (fun q hq => by cases hq) dX8_ways_142
    · have fc_18 : x_17.toInt < 0 := zf_nle c_18 (by decide) rfl
      refine lv_iconst (v := 0) hx hb dX8_ways_126 (by decide) ?_
      refine lv_goto (tgt := 142) hx hb dX8_ways_127 (by decide) ?_
      exact W.iret (v := 0) hx hb hr (fun t ht hW => ⟨0, rfl, ⟨by decide, by decide⟩, ht⟩) (fun q hq => by cases hq) dX8_ways_142
  · have kc3 : (3 : Int32).toInt = 3 := by decide
    refine lv_tableIn (tgt := 58) hx hb dX8_ways_13 (by decide) (by decide) rfl (by decide) ?_
    refine lv_iload_n hx hb dX8_ways_58 rfl (lv_at hl 0 rfl) ?_
    refine lv_iconst (v := 2) hx hb dX8_ways_59 (by decide) ?_
    refine lv_aload_n hx hb dX8_ways_60 rfl (lv_at hl 1 rfl) ?_
    refine va_get (D := D) (ci := 8) (v := .ref mpa) (C := RX8) (T := TX8) (N := 38) hx hb hts hi_X8_ways_8 hown hK hP 0 rfl rfl 12 (by decide) (hts (.fieldLink RX8 32 "TheLiningsInItModel" "part" "[I") (List.mem_of_getElem? (i := 2) rfl)) (fun _ h9 => h9) rfl dX8_ways_61 ?_
    refine lv_iload_n hx hb dX8_ways_64 rfl (lv_at hl 2 rfl) ?_
    refine va_iald hx hb hK hP 2 0 rfl rfl (zf_in (by omega) (by omega)) dX8_ways_65 ?_
    refine lv_topi (fun x_20 ex_20 => ?_)
    have bx_20 : 0 ≤ x_20.toInt ∧ x_20.toInt ≤ 9 := by rw [ex_20]; exact hp_gpa _
    refine lv_iconst (v := 2) hx hb dX8_ways_66 (by decide) ?_
    refine lv_idiv hx hb dX8_ways_67 (by decide) ?_
    refine lv_topi (fun x_21 ex_21 => ?_)
    have qx_21 : x_21.toInt = x_20.toInt / 2 := by rw [ex_21]; exact zf_div rfl (by decide) (by omega) (by omega)
    refine lv_iadd hx hb dX8_ways_68 ?_
    refine lv_topi (fun x_22 ex_22 => ?_)
    have qx_22 : x_22.toInt = 2 + x_21.toInt := by rw [ex_22]; exact zf_add (by decide) rfl (by omega) (by omega)
    refine lv_iadd hx hb dX8_ways_69 ?_
    refine lv_topi (fun x_23 ex_23 => ?_)
    refine lv_istore_n (lv' := [(3, .int x_23), (0, .ref m0), (1, .int p_), (2, .int d)]) hx hb dX8_ways_70 rfl hl (by decide) rfl (fun ls hl => ?_)
    refine lv_goto (tgt := 113) hx hb dX8_ways_71 (by decide) ?_
    refine lv_iload_n hx hb dX8_ways_113 rfl (lv_at hl 0 rfl) ?_
    refine lv_aload_n hx hb dX8_ways_114 rfl (lv_at hl 1 rfl) ?_
    refine va_get (D := D) (ci := 8) (v := .int nhu) (C := RX8) (T := TX8) (N := 38) hx hb hts hi_X8_ways_8 hown hK hP 0 rfl rfl 6 (by decide) (hts (.fieldLink RX8 135 "TheLiningsInItModel" "hurry" "I") (List.mem_of_getElem? (i := 3) rfl)) (fun _ h9 => h9) rfl dX8_ways_115 ?_
    refine lv_iconst (v := 3) hx hb dX8_ways_118 (by decide) ?_
    refine lv_idiv hx hb dX8_ways_119 (by decide) ?_
    refine lv_topi (fun x_24 ex_24 => ?_)
    have qx_24 : x_24.toInt = nhu.toInt / 3 := by rw [ex_24]; exact zf_div rfl (by decide) (by omega) (by omega)
    refine lv_isub hx hb dX8_ways_120 ?_
    refine lv_topi (fun x_25 ex_25 => ?_)
    refine lv_istore_n (lv' := [(3, .int x_25), (0, .ref m0), (1, .int p_), (2, .int d)]) hx hb dX8_ways_121 rfl hl (by decide) rfl (fun ls hl => ?_)
    refine lv_iload_n hx hb dX8_ways_122 rfl (lv_at hl 0 rfl) ?_
    refine lv_if_ge (tgt := 130) hx hb dX8_ways_123 (by decide) (fun c_26 => ?_) (fun c_26 => ?_)
    · have fc_26 : 0 ≤ x_25.toInt := zf_le c_26 (by decide) rfl
      refine lv_iload_n hx hb dX8_ways_130 rfl (lv_at hl 0 rfl) ?_
      refine lv_bipush (v := 12) hx hb dX8_ways_131 (by decide) ?_
      refine lv_icmp_le (tgt := 141) hx hb dX8_ways_133 (by decide) (fun c_27 => ?_) (fun c_27 => ?_)
      · have fc_27 : x_25.toInt ≤ 12 := zf_le c_27 rfl (by decide)
        refine lv_iload_n hx hb dX8_ways_141 rfl (lv_at hl 0 rfl) ?_
        exact W.iret (v := x_25) hx hb hr (fun t ht hW => ⟨x_25, rfl, ⟨by omega, by omega⟩, ht⟩) (fun q hq => by cases hq) dX8_ways_142
      · have fc_27 : 12 < x_25.toInt := zf_nle c_27 rfl (by decide)
        refine lv_bipush (v := 12) hx hb dX8_ways_136 (by decide) ?_
        refine lv_goto (tgt := 142) hx hb dX8_ways_138 (by decide) ?_
        exact W.iret (v := 12) hx hb hr (fun t ht hW => ⟨12, rfl, ⟨by decide, by decide⟩, ht⟩) (fun q hq => by cases hq) dX8_ways_142
    · have fc_26 : x_25.toInt < 0 := zf_nle c_26 (by decide) rfl
      refine lv_iconst (v := 0) hx hb dX8_ways_126 (by decide) ?_
      refine lv_goto (tgt := 142) hx hb dX8_ways_127 (by decide) ?_
      exact W.iret (v := 0) hx hb hr (fun t ht hW => ⟨0, rfl, ⟨by decide, by decide⟩, ht⟩) (fun q hq => by cases hq) dX8_ways_142
  · have kc4 : (4 : Int32).toInt = 4 := by decide
    refine lv_tableIn (tgt := 88) hx hb dX8_ways_13 (by decide) (by decide) rfl (by decide) ?_
    refine lv_bipush (v := 8) hx hb dX8_ways_88 (by decide) ?_
    refine lv_iload_n hx hb dX8_ways_90 rfl (lv_at hl 3 rfl) ?_
    refine lv_bipush (v := 6) hx hb dX8_ways_91 (by decide) ?_
    refine lv_idiv hx hb dX8_ways_93 (by decide) ?_
    refine lv_topi (fun x_28 ex_28 => ?_)
    refine lv_isub hx hb dX8_ways_94 ?_
    refine lv_topi (fun x_29 ex_29 => ?_)
    refine lv_istore_n (lv' := [(3, .int x_29), (0, .ref m0), (1, .int p_), (2, .int d)]) hx hb dX8_ways_95 rfl hl (by decide) rfl (fun ls hl => ?_)
    refine lv_goto (tgt := 113) hx hb dX8_ways_96 (by decide) ?_
    refine lv_iload_n hx hb dX8_ways_113 rfl (lv_at hl 0 rfl) ?_
    refine lv_aload_n hx hb dX8_ways_114 rfl (lv_at hl 1 rfl) ?_
    refine va_get (D := D) (ci := 8) (v := .int nhu) (C := RX8) (T := TX8) (N := 38) hx hb hts hi_X8_ways_8 hown hK hP 0 rfl rfl 6 (by decide) (hts (.fieldLink RX8 135 "TheLiningsInItModel" "hurry" "I") (List.mem_of_getElem? (i := 3) rfl)) (fun _ h9 => h9) rfl dX8_ways_115 ?_
    refine lv_iconst (v := 3) hx hb dX8_ways_118 (by decide) ?_
    refine lv_idiv hx hb dX8_ways_119 (by decide) ?_
    refine lv_topi (fun x_30 ex_30 => ?_)
    have qx_30 : x_30.toInt = nhu.toInt / 3 := by rw [ex_30]; exact zf_div rfl (by decide) (by omega) (by omega)
    refine lv_isub hx hb dX8_ways_120 ?_
    refine lv_topi (fun x_31 ex_31 => ?_)
    refine lv_istore_n (lv' := [(3, .int x_31), (0, .ref m0), (1, .int p_), (2, .int d)]) hx hb dX8_ways_121 rfl hl (by decide) rfl (fun ls hl => ?_)
    refine lv_iload_n hx hb dX8_ways_122 rfl (lv_at hl 0 rfl) ?_
    refine lv_if_ge (tgt := 130) hx hb dX8_ways_123 (by decide) (fun c_32 => ?_) (fun c_32 => ?_)
    · have fc_32 : 0 ≤ x_31.toInt := zf_le c_32 (by decide) rfl
      refine lv_iload_n hx hb dX8_ways_130 rfl (lv_at hl 0 rfl) ?_
      refine lv_bipush (v := 12) hx hb dX8_ways_131 (by decide) ?_
      refine lv_icmp_le (tgt := 141) hx hb dX8_ways_133 (by decide) (fun c_33 => ?_) (fun c_33 => ?_)
      · have fc_33 : x_31.toInt ≤ 12 := zf_le c_33 rfl (by decide)
        refine lv_iload_n hx hb dX8_ways_141 rfl (lv_at hl 0 rfl) ?_
        exact W.iret (v := x_31) hx hb hr (fun t ht hW => ⟨x_31, rfl, ⟨by omega, by omega⟩, ht⟩) (fun q hq => by cases hq) dX8_ways_142
      · have fc_33 : 12 < x_31.toInt := zf_nle c_33 rfl (by decide)
        refine lv_bipush (v := 12) hx hb dX8_ways_136 (by decide) ?_
        refine lv_goto (tgt := 142) hx hb dX8_ways_138 (by decide) ?_
        exact W.iret (v := 12) hx hb hr (fun t ht hW => ⟨12, rfl, ⟨by decide, by decide⟩, ht⟩) (fun q hq => by cases hq) dX8_ways_142
    · have fc_32 : x_31.toInt < 0 := zf_nle c_32 (by decide) rfl
      refine lv_iconst (v := 0) hx hb dX8_ways_126 (by decide) ?_
      refine lv_goto (tgt := 142) hx hb dX8_ways_127 (by decide) ?_
      exact W.iret (v := 0) hx hb hr (fun t ht hW => ⟨0, rfl, ⟨by decide, by decide⟩, ht⟩) (fun q hq => by cases hq) dX8_ways_142
  · have kc5 : (5 : Int32).toInt = 5 := by decide
    refine lv_tableIn (tgt := 110) hx hb dX8_ways_13 (by decide) (by decide) rfl (by decide) ?_
    refine lv_bipush (v := 12) hx hb dX8_ways_110 (by decide) ?_
    exact W.iret (v := 12) hx hb hr (fun t ht hW => ⟨12, rfl, ⟨by decide, by decide⟩, ht⟩) (fun q hq => by cases hq) dX8_ways_112
  · have kc6 : (6 : Int32).toInt = 6 := by decide
    refine lv_tableIn (tgt := 99) hx hb dX8_ways_13 (by decide) (by decide) rfl (by decide) ?_
    refine lv_bipush (v := 10) hx hb dX8_ways_99 (by decide) ?_
    refine lv_iload_n hx hb dX8_ways_101 rfl (lv_at hl 3 rfl) ?_
    refine lv_bipush (v := 6) hx hb dX8_ways_102 (by decide) ?_
    refine lv_idiv hx hb dX8_ways_104 (by decide) ?_
    refine lv_topi (fun x_34 ex_34 => ?_)
    refine lv_isub hx hb dX8_ways_105 ?_
    refine lv_topi (fun x_35 ex_35 => ?_)
    refine lv_istore_n (lv' := [(3, .int x_35), (0, .ref m0), (1, .int p_), (2, .int d)]) hx hb dX8_ways_106 rfl hl (by decide) rfl (fun ls hl => ?_)
    refine lv_goto (tgt := 113) hx hb dX8_ways_107 (by decide) ?_
    refine lv_iload_n hx hb dX8_ways_113 rfl (lv_at hl 0 rfl) ?_
    refine lv_aload_n hx hb dX8_ways_114 rfl (lv_at hl 1 rfl) ?_
    refine va_get (D := D) (ci := 8) (v := .int nhu) (C := RX8) (T := TX8) (N := 38) hx hb hts hi_X8_ways_8 hown hK hP 0 rfl rfl 6 (by decide) (hts (.fieldLink RX8 135 "TheLiningsInItModel" "hurry" "I") (List.mem_of_getElem? (i := 3) rfl)) (fun _ h9 => h9) rfl dX8_ways_115 ?_
    refine lv_iconst (v := 3) hx hb dX8_ways_118 (by decide) ?_
    refine lv_idiv hx hb dX8_ways_119 (by decide) ?_
    refine lv_topi (fun x_36 ex_36 => ?_)
    have qx_36 : x_36.toInt = nhu.toInt / 3 := by rw [ex_36]; exact zf_div rfl (by decide) (by omega) (by omega)
    refine lv_isub hx hb dX8_ways_120 ?_
    refine lv_topi (fun x_37 ex_37 => ?_)
    refine lv_istore_n (lv' := [(3, .int x_37), (0, .ref m0), (1, .int p_), (2, .int d)]) hx hb dX8_ways_121 rfl hl (by decide) rfl (fun ls hl => ?_)
    refine lv_iload_n hx hb dX8_ways_122 rfl (lv_at hl 0 rfl) ?_
    refine lv_if_ge (tgt := 130) hx hb dX8_ways_123 (by decide) (fun c_38 => ?_) (fun c_38 => ?_)
    · have fc_38 : 0 ≤ x_37.toInt := zf_le c_38 (by decide) rfl
      refine lv_iload_n hx hb dX8_ways_130 rfl (lv_at hl 0 rfl) ?_
      refine lv_bipush (v := 12) hx hb dX8_ways_131 (by decide) ?_
      refine lv_icmp_le (tgt := 141) hx hb dX8_ways_133 (by decide) (fun c_39 => ?_) (fun c_39 => ?_)
      · have fc_39 : x_37.toInt ≤ 12 := zf_le c_39 rfl (by decide)
        refine lv_iload_n hx hb dX8_ways_141 rfl (lv_at hl 0 rfl) ?_
        exact W.iret (v := x_37) hx hb hr (fun t ht hW => ⟨x_37, rfl, ⟨by omega, by omega⟩, ht⟩) (fun q hq => by cases hq) dX8_ways_142
      · have fc_39 : 12 < x_37.toInt := zf_nle c_39 rfl (by decide)
        refine lv_bipush (v := 12) hx hb dX8_ways_136 (by decide) ?_
        refine lv_goto (tgt := 142) hx hb dX8_ways_138 (by decide) ?_
        exact W.iret (v := 12) hx hb hr (fun t ht hW => ⟨12, rfl, ⟨by decide, by decide⟩, ht⟩) (fun q hq => by cases hq) dX8_ways_142
    · have fc_38 : x_37.toInt < 0 := zf_nle c_38 (by decide) rfl
      refine lv_iconst (v := 0) hx hb dX8_ways_126 (by decide) ?_
      refine lv_goto (tgt := 142) hx hb dX8_ways_127 (by decide) ?_
      exact W.iret (v := 0) hx hb hr (fun t ht hW => ⟨0, rfl, ⟨by decide, by decide⟩, ht⟩) (fun q hq => by cases hq) dX8_ways_142
theorem gl_X8_step_X80 : GoodIn wsX8_step wsX80 := (dg_t (dg_t (dg_t gw_wsX80)))
theorem hi_X8_step_8 : ∀ w ∈ u_ws RX8 TX8 38, w ∈ wsX8_step := fun w h => (gl_X8_step_X80 w h).1
set_option maxHeartbeats 4000000 in
set_option maxRecDepth 100000 in
theorem c_M_step (l : Launch) (D : va_G) (cI cJ cZ cP cS : ClassId) (po : zPool) (m0 mrf mki mpa mta mla msl mco mhe mso msi msh mce mca mwo mnu mte mwa mke mma mth mtr : Nat) (npu nte nat_ nde nto nse nhu nga nsd nfa nba npl nen nnu nwr nra nik : Int32) (gki gpa : Nat → Int32) (p_ : Int32) (hy0 : 0 ≤ npu.toInt) (hy1 : npu.toInt ≤ 8) (hy2 : 4 ≤ nte.toInt) (hy3 : nte.toInt ≤ 40) (hy4 : 0 ≤ nat_.toInt) (hy5 : nat_.toInt ≤ 40) (hy6 : 0 ≤ nde.toInt) (hy7 : nde.toInt ≤ 24) (hy8 : 0 ≤ nhu.toInt) (hy9 : nhu.toInt ≤ 9) (hy10 : 0 ≤ nra.toInt) (hy11 : nra.toInt ≤ 2000) (hy12 : 0 ≤ nik.toInt) (hy13 : nik.toInt ≤ 1) (hy14 : 0 ≤ p_.toInt) (hy15 : p_.toInt ≤ 7) (hp_gki : zRg gki (0) 6) (hp_gpa : zRg gpa (0) 9) : Met l yX8_step wsX8_step ({ frames := 0, cells := 0, slots := 0, locals := 0 }) (va_Pc [.ref m0, .int p_] (zR D (zKT cI cJ cZ cP cS) po [(zMO m0 npu nte nat_ nde nto nse nhu nga nsd nfa mrf mki mpa mta mla msl mco mhe mso msi msh mce mca mwo mnu mte nba npl nen nnu nwr mwa mke mma mth mtr nra nik), (mki, .inl (cI, 8, .inl gki)), (mpa, .inl (cI, 8, .inl gpa))])) (vp_Si (fun r => 1 ≤ r.toInt ∧ r.toInt ≤ 5 ∧ (r.toInt = zStep (gki p_.toNatClampNeg).toInt (gpa p_.toNatClampNeg).toInt))) 0 0 (fun _ => False) := by
  refine Met.ofW (cc := cX8_step) (maxL := 2) (ret := (some .int)) (by decide) rfl ?_
  intro p e s m args below meth c s₁ B hml hv
  obtain ⟨rfl, hP, hK, hN, hZ⟩ := hv
  have hx := B.exec
  have hb := B.bytes
  have hr := B.returns
  have hts := atoms_spec (ws := wsX8_step) B.pre
  have hown : s.vm.findClass RX8 = some m.cls := findClass_of_methodNamed B.named
  have hlocks := B.notSynchronized
  have hl := lv_entry ([.ref m0, .int p_]) (n := 2) (Nat.le_of_ble_eq_true rfl)
  rw [lg_entry_eq]
  generalize (lg_sl ([.ref m0, .int p_]) ++ List.replicate (2 - (lg_sl ([.ref m0, .int p_])).length) Slot.unset).toArray = ls at hl ⊢
  replace hl : lv_has ls 2 [(0, .ref m0), (1, .int p_)] := hl
  refine lv_aload_n hx hb dX8_step_0 rfl (lv_at hl 0 rfl) ?_
  refine va_get (D := D) (ci := 8) (v := .ref mki) (C := RX8) (T := TX8) (N := 38) hx hb hts hi_X8_step_8 hown hK hP 0 rfl rfl 11 (by decide) (hts (.fieldLink RX8 29 "TheLiningsInItModel" "kind" "[I") (List.mem_of_getElem? (i := 1) rfl)) (fun _ h9 => h9) rfl dX8_step_1 ?_
  refine lv_iload_n hx hb dX8_step_4 rfl (lv_at hl 1 rfl) ?_
  refine va_iald hx hb hK hP 1 0 rfl rfl (zf_in (by omega) (by omega)) dX8_step_5 ?_
  refine lv_topi (fun x_1 ex_1 => ?_)
  have bx_1 : 0 ≤ x_1.toInt ∧ x_1.toInt ≤ 6 := by rw [ex_1]; exact hp_gki _
  have hsp : x_1 = 0 ∨ x_1 = 1 ∨ x_1 = 2 ∨ x_1 = 3 ∨ x_1 = 4 ∨ x_1 = 5 ∨ x_1 = 6 := by
    rcases (show x_1.toInt = 0 ∨ x_1.toInt = 1 ∨ x_1.toInt = 2 ∨ x_1.toInt = 3 ∨ x_1.toInt = 4 ∨ x_1.toInt = 5 ∨ x_1.toInt = 6 by omega) with h9 | h9 | h9 | h9 | h9 | h9 | h9
    · refine Or.inl ?_; exact zf_val h9 (by decide)
    · refine Or.inr (Or.inl ?_); exact zf_val h9 (by decide)
    · refine Or.inr (Or.inr (Or.inl ?_)); exact zf_val h9 (by decide)
    · refine Or.inr (Or.inr (Or.inr (Or.inl ?_))); exact zf_val h9 (by decide)
    · refine Or.inr (Or.inr (Or.inr (Or.inr (Or.inl ?_)))); exact zf_val h9 (by decide)
    · refine Or.inr (Or.inr (Or.inr (Or.inr (Or.inr (Or.inl ?_))))); exact zf_val h9 (by decide)
    · refine Or.inr (Or.inr (Or.inr (Or.inr (Or.inr (Or.inr (?_)))))); exact zf_val h9 (by decide)
  rcases hsp with rfl | rfl | rfl | rfl | rfl | rfl | rfl
  · have kc0 : (0 : Int32).toInt = 0 := by decide
    refine lv_tableOut (tgt := 55) hx hb dX8_step_6 (by decide) (by decide) ?_
    refine lv_iconst (v := 1) hx hb dX8_step_55 (by decide) ?_
    exact W.iret (v := 1) hx hb hr (fun t ht hW => ⟨1, rfl, ⟨by decide, by decide, (show (1 : Int32).toInt = zStep (gki p_.toNatClampNeg).toInt (gpa p_.toNatClampNeg).toInt from by ((try rw [← ex_1]); have k0 : (0 : Int32).toInt = 0 := (by decide); have k1 : (1 : Int32).toInt = 1 := (by decide); unfold zStep; (repeat (first | rw [if_pos (by omega)] | rw [if_neg (by omega)])) <;> omega))⟩, ht⟩) (fun q hq => by cases hq) dX8_step_56
  · have kc1 : (1 : Int32).toInt = 1 := by decide
    refine lv_tableOut (tgt := 55) hx hb dX8_step_6 (by decide) (by decide) ?_
    refine lv_iconst (v := 1) hx hb dX8_step_55 (by decide) ?_
    exact W.iret (v := 1) hx hb hr (fun t ht hW => ⟨1, rfl, ⟨by decide, by decide, (show (1 : Int32).toInt = zStep (gki p_.toNatClampNeg).toInt (gpa p_.toNatClampNeg).toInt from by ((try rw [← ex_1]); have k1 : (1 : Int32).toInt = 1 := (by decide); unfold zStep; (repeat (first | rw [if_pos (by omega)] | rw [if_neg (by omega)])) <;> omega))⟩, ht⟩) (fun q hq => by cases hq) dX8_step_56
  · have kc2 : (2 : Int32).toInt = 2 := by decide
    refine lv_tableIn (tgt := 40) hx hb dX8_step_6 (by decide) (by decide) rfl (by decide) ?_
    refine lv_iconst (v := 2) hx hb dX8_step_40 (by decide) ?_
    refine lv_aload_n hx hb dX8_step_41 rfl (lv_at hl 0 rfl) ?_
    refine va_get (D := D) (ci := 8) (v := .ref mpa) (C := RX8) (T := TX8) (N := 38) hx hb hts hi_X8_step_8 hown hK hP 0 rfl rfl 12 (by decide) (hts (.fieldLink RX8 32 "TheLiningsInItModel" "part" "[I") (List.mem_of_getElem? (i := 2) rfl)) (fun _ h9 => h9) rfl dX8_step_42 ?_
    refine lv_iload_n hx hb dX8_step_45 rfl (lv_at hl 1 rfl) ?_
    refine va_iald hx hb hK hP 2 0 rfl rfl (zf_in (by omega) (by omega)) dX8_step_46 ?_
    refine lv_topi (fun x_2 ex_2 => ?_)
    have bx_2 : 0 ≤ x_2.toInt ∧ x_2.toInt ≤ 9 := by rw [ex_2]; exact hp_gpa _
    refine lv_iconst (v := 3) hx hb dX8_step_47 (by decide) ?_
    refine lv_idiv hx hb dX8_step_48 (by decide) ?_
    refine lv_topi (fun x_3 ex_3 => ?_)
    have qx_3 : x_3.toInt = x_2.toInt / 3 := by rw [ex_3]; exact zf_div rfl (by decide) (by omega) (by omega)
    refine lv_iadd hx hb dX8_step_49 ?_
    refine lv_topi (fun x_4 ex_4 => ?_)
    have qx_4 : x_4.toInt = 2 + x_3.toInt := by rw [ex_4]; exact zf_add (by decide) rfl (by omega) (by omega)
    exact W.iret (v := x_4) hx hb hr (fun t ht hW => ⟨x_4, rfl, ⟨by omega, by omega, (show (x_4 : Int32).toInt = zStep (gki p_.toNatClampNeg).toInt (gpa p_.toNatClampNeg).toInt from by ((try rw [← ex_1]); (try rw [← ex_2]); have k2 : (2 : Int32).toInt = 2 := (by decide); unfold zStep; (repeat (first | rw [if_pos (by omega)] | rw [if_neg (by omega)])) <;> omega))⟩, ht⟩) (fun q hq => by cases hq) dX8_step_50
  · have kc3 : (3 : Int32).toInt = 3 := by decide
    refine lv_tableIn (tgt := 55) hx hb dX8_step_6 (by decide) (by decide) rfl (by decide) ?_
    refine lv_iconst (v := 1) hx hb dX8_step_55 (by decide) ?_
    exact W.iret (v := 1) hx hb hr (fun t ht hW => ⟨1, rfl, ⟨by decide, by decide, (show (1 : Int32).toInt = zStep (gki p_.toNatClampNeg).toInt (gpa p_.toNatClampNeg).toInt from by ((try rw [← ex_1]); have k1 : (1 : Int32).toInt = 1 := (by decide); have k3 : (3 : Int32).toInt = 3 := (by decide); unfold zStep; (repeat (first | rw [if_pos (by omega)] | rw [if_neg (by omega)])) <;> omega))⟩, ht⟩) (fun q hq => by cases hq) dX8_step_56
  · have kc4 : (4 : Int32).toInt = 4 := by decide
    refine lv_tableIn (tgt := 51) hx hb dX8_step_6 (by decide) (by decide) rfl (by decide) ?_
    refine lv_iconst (v := 2) hx hb dX8_step_51 (by decide) ?_
    exact W.iret (v := 2) hx hb hr (fun t ht hW => ⟨2, rfl, ⟨by decide, by decide, (show (2 : Int32).toInt = zStep (gki p_.toNatClampNeg).toInt (gpa p_.toNatClampNeg).toInt from by ((try rw [← ex_1]); have k2 : (2 : Int32).toInt = 2 := (by decide); have k4 : (4 : Int32).toInt = 4 := (by decide); unfold zStep; (repeat (first | rw [if_pos (by omega)] | rw [if_neg (by omega)])) <;> omega))⟩, ht⟩) (fun q hq => by cases hq) dX8_step_52
  · have kc5 : (5 : Int32).toInt = 5 := by decide
    refine lv_tableIn (tgt := 53) hx hb dX8_step_6 (by decide) (by decide) rfl (by decide) ?_
    refine lv_iconst (v := 4) hx hb dX8_step_53 (by decide) ?_
    exact W.iret (v := 4) hx hb hr (fun t ht hW => ⟨4, rfl, ⟨by decide, by decide, (show (4 : Int32).toInt = zStep (gki p_.toNatClampNeg).toInt (gpa p_.toNatClampNeg).toInt from by ((try rw [← ex_1]); have k4 : (4 : Int32).toInt = 4 := (by decide); have k5 : (5 : Int32).toInt = 5 := (by decide); unfold zStep; (repeat (first | rw [if_pos (by omega)] | rw [if_neg (by omega)])) <;> omega))⟩, ht⟩) (fun q hq => by cases hq) dX8_step_54
  · have kc6 : (6 : Int32).toInt = 6 := by decide
    refine lv_tableIn (tgt := 51) hx hb dX8_step_6 (by decide) (by decide) rfl (by decide) ?_
    refine lv_iconst (v := 2) hx hb dX8_step_51 (by decide) ?_
    exact W.iret (v := 2) hx hb hr (fun t ht hW => ⟨2, rfl, ⟨by decide, by decide, (show (2 : Int32).toInt = zStep (gki p_.toNatClampNeg).toInt (gpa p_.toNatClampNeg).toInt from by ((try rw [← ex_1]); have k2 : (2 : Int32).toInt = 2 := (by decide); have k6 : (6 : Int32).toInt = 6 := (by decide); unfold zStep; (repeat (first | rw [if_pos (by omega)] | rw [if_neg (by omega)])) <;> omega))⟩, ht⟩) (fun q hq => by cases hq) dX8_step_52
theorem hi_X8_deep_8 : ∀ w ∈ u_ws RX8 TX8 38, w ∈ wsX8_deep := fun w h => (gl_X8_deep_X80 w h).1
set_option maxHeartbeats 4000000 in
set_option maxRecDepth 100000 in
theorem c_M_deep_any (l : Launch) (D : va_G) (cI cJ cZ cP cS : ClassId) (po : zPool) (m0 mrf mki mpa mta mla msl mco mhe mso msi msh mce mca mwo mnu mte mwa mke mma mth mtr : Nat) (npu nte nat_ nde nto nse nhu nga nsd nfa nba npl nen nnu nwr nra nik : Int32) (gki gpa : Nat → Int32) (p_ d is_ : Int32) (hy0 : 0 ≤ npu.toInt) (hy1 : npu.toInt ≤ 8) (hy2 : 4 ≤ nte.toInt) (hy3 : nte.toInt ≤ 40) (hy4 : 0 ≤ nat_.toInt) (hy5 : nat_.toInt ≤ 40) (hy6 : 0 ≤ nde.toInt) (hy7 : nde.toInt ≤ 24) (hy8 : 0 ≤ nhu.toInt) (hy9 : nhu.toInt ≤ 9) (hy10 : 0 ≤ nra.toInt) (hy11 : nra.toInt ≤ 2000) (hy12 : 0 ≤ nik.toInt) (hy13 : nik.toInt ≤ 1) (hy14 : 0 ≤ p_.toInt) (hy15 : p_.toInt ≤ 7) (hp_gki : zRg gki (0) 6) (hp_gpa : zRg gpa (0) 9) : Met l yX8_deep wsX8_deep ({ frames := 1, cells := 0, slots := 0, locals := 21 }) (va_Pc [.ref m0, .int p_, .int d, .int is_] (zR D (zKT cI cJ cZ cP cS) po [(zMO m0 npu nte nat_ nde nto nse nhu nga nsd nfa mrf mki mpa mta mla msl mco mhe mso msi msh mce mca mwo mnu mte nba npl nen nnu nwr mwa mke mma mth mtr nra nik), (mki, .inl (cI, 8, .inl gki)), (mpa, .inl (cI, 8, .inl gpa))])) (vp_Si (fun r => True)) 0 0 (fun _ => False) := by
  refine Met.ofW (cc := cX8_deep) (maxL := 5) (ret := (some .int)) (by decide) rfl ?_
  intro p e s m args below meth c s₁ B hml hv
  obtain ⟨rfl, hP, hK, hN, hZ⟩ := hv
  have hx := B.exec
  have hb := B.bytes
  have hr := B.returns
  have hts := atoms_spec (ws := wsX8_deep) B.pre
  have hown : s.vm.findClass RX8 = some m.cls := findClass_of_methodNamed B.named
  have hlocks := B.notSynchronized
  have hl := lv_entry ([.ref m0, .int p_, .int d, .int is_]) (n := 5) (Nat.le_of_ble_eq_true rfl)
  rw [lg_entry_eq]
  generalize (lg_sl ([.ref m0, .int p_, .int d, .int is_]) ++ List.replicate (5 - (lg_sl ([.ref m0, .int p_, .int d, .int is_])).length) Slot.unset).toArray = ls at hl ⊢
  replace hl : lv_has ls 5 [(0, .ref m0), (1, .int p_), (2, .int d), (3, .int is_)] := hl
  refine lv_iload_n hx hb dX8_deep_0 rfl (lv_at hl 3 rfl) ?_
  refine lv_if_eq (tgt := 25) hx hb dX8_deep_1 (by decide) (fun c_1 => ?_) (fun c_1 => ?_)
  · have fc_1 : is_.toInt = 0 := zf_eq c_1 rfl (by decide)
    refine lv_aload_n hx hb dX8_deep_25 rfl (lv_at hl 0 rfl) ?_
    refine va_get (D := D) (ci := 8) (v := .ref mki) (C := RX8) (T := TX8) (N := 38) hx hb hts hi_X8_deep_8 hown hK hP 0 rfl rfl 11 (by decide) (hts (.fieldLink RX8 29 "TheLiningsInItModel" "kind" "[I") (List.mem_of_getElem? (i := 1) rfl)) (fun _ h9 => h9) rfl dX8_deep_26 ?_
    refine lv_iload_n hx hb dX8_deep_29 rfl (lv_at hl 1 rfl) ?_
    refine va_iald hx hb hK hP 1 0 rfl rfl (zf_in (by omega) (by omega)) dX8_deep_30 ?_
    refine lv_topi (fun x_2 ex_2 => ?_)
    have bx_2 : 0 ≤ x_2.toInt ∧ x_2.toInt ≤ 6 := by rw [ex_2]; exact hp_gki _
    refine lv_iconst (v := 5) hx hb dX8_deep_31 (by decide) ?_
    refine lv_icmp_ne (tgt := 37) hx hb dX8_deep_32 (by decide) (fun c_3 => ?_) (fun c_3 => ?_)
    · have fc_3 : x_2.toInt ≠ 5 := zf_ne c_3 rfl (by decide)
      refine lv_iload_n hx hb dX8_deep_37 rfl (lv_at hl 2 rfl) ?_
      refine lv_aload_n hx hb dX8_deep_38 rfl (lv_at hl 0 rfl) ?_
      refine va_get (D := D) (ci := 8) (v := .ref mki) (C := RX8) (T := TX8) (N := 38) hx hb hts hi_X8_deep_8 hown hK hP 0 rfl rfl 11 (by decide) (hts (.fieldLink RX8 29 "TheLiningsInItModel" "kind" "[I") (List.mem_of_getElem? (i := 1) rfl)) (fun _ h9 => h9) rfl dX8_deep_39 ?_
      refine lv_iload_n hx hb dX8_deep_42 rfl (lv_at hl 1 rfl) ?_
      refine va_iald hx hb hK hP 1 0 rfl rfl (zf_in (by omega) (by omega)) dX8_deep_43 ?_
      refine lv_topi (fun x_4 ex_4 => ?_)
      have bx_4 : 0 ≤ x_4.toInt ∧ x_4.toInt ≤ 6 := by rw [ex_4]; exact hp_gki _
      refine lv_iconst (v := 2) hx hb dX8_deep_44 (by decide) ?_
      refine lv_icmp_ne (tgt := 61) hx hb dX8_deep_45 (by decide) (fun c_5 => ?_) (fun c_5 => ?_)
      · have fc_5 : x_4.toInt ≠ 2 := zf_ne c_5 rfl (by decide)
        refine lv_iconst (v := 0) hx hb dX8_deep_61 (by decide) ?_
        refine lv_iadd hx hb dX8_deep_62 ?_
        refine lv_topi (fun y_6 ey_6 => ?_)
        obtain rfl : d = y_6 := (ey_6.trans (Int32.add_zero d)).symm
        refine lv_aload_n hx hb dX8_deep_63 rfl (lv_at hl 0 rfl) ?_
        refine va_get (D := D) (ci := 8) (v := .int nhu) (C := RX8) (T := TX8) (N := 38) hx hb hts hi_X8_deep_8 hown hK hP 0 rfl rfl 6 (by decide) (hts (.fieldLink RX8 135 "TheLiningsInItModel" "hurry" "I") (List.mem_of_getElem? (i := 3) rfl)) (fun _ h9 => h9) rfl dX8_deep_64 ?_
        refine lv_bipush (v := 6) hx hb dX8_deep_67 (by decide) ?_
        refine lv_icmp_lt (tgt := 76) hx hb dX8_deep_69 (by decide) (fun c_7 => ?_) (fun c_7 => ?_)
        · have fc_7 : nhu.toInt < 6 := zf_lt c_7 rfl (by decide)
          refine lv_iconst (v := 0) hx hb dX8_deep_76 (by decide) ?_
          refine lv_iadd hx hb dX8_deep_77 ?_
          refine lv_topi (fun y_8 ey_8 => ?_)
          obtain rfl : d = y_8 := (ey_8.trans (Int32.add_zero d)).symm
          refine lv_istore (lv' := [(4, .int d), (0, .ref m0), (1, .int p_), (2, .int d), (3, .int is_)]) hx hb dX8_deep_78 hl (by decide) rfl (fun ls hl => ?_)
          refine lv_iload hx hb dX8_deep_80 (lv_at hl 0 rfl) ?_
          refine lv_bipush (v := 24) hx hb dX8_deep_82 (by decide) ?_
          refine lv_icmp_le (tgt := 92) hx hb dX8_deep_84 (by decide) (fun c_9 => ?_) (fun c_9 => ?_)
          · have fc_9 : d.toInt ≤ 24 := zf_le c_9 rfl (by decide)
            refine lv_iload hx hb dX8_deep_92 (lv_at hl 0 rfl) ?_
            exact W.iret (v := d) hx hb hr (fun t ht hW => ⟨d, rfl, trivial, ht⟩) (fun q hq => by cases hq) dX8_deep_94
          · have fc_9 : 24 < d.toInt := zf_nle c_9 rfl (by decide)
            refine lv_bipush (v := 24) hx hb dX8_deep_87 (by decide) ?_
            refine lv_goto (tgt := 94) hx hb dX8_deep_89 (by decide) ?_
            exact W.iret (v := 24) hx hb hr (fun t ht hW => ⟨24, rfl, trivial, ht⟩) (fun q hq => by cases hq) dX8_deep_94
        · have fc_7 : 6 ≤ nhu.toInt := zf_nlt c_7 rfl (by decide)
          refine lv_iconst (v := 1) hx hb dX8_deep_72 (by decide) ?_
          refine lv_goto (tgt := 77) hx hb dX8_deep_73 (by decide) ?_
          refine lv_iadd hx hb dX8_deep_77 ?_
          refine lv_topi (fun x_10 ex_10 => ?_)
          refine lv_istore (lv' := [(4, .int x_10), (0, .ref m0), (1, .int p_), (2, .int d), (3, .int is_)]) hx hb dX8_deep_78 hl (by decide) rfl (fun ls hl => ?_)
          refine lv_iload hx hb dX8_deep_80 (lv_at hl 0 rfl) ?_
          refine lv_bipush (v := 24) hx hb dX8_deep_82 (by decide) ?_
          refine lv_icmp_le (tgt := 92) hx hb dX8_deep_84 (by decide) (fun c_11 => ?_) (fun c_11 => ?_)
          · have fc_11 : x_10.toInt ≤ 24 := zf_le c_11 rfl (by decide)
            refine lv_iload hx hb dX8_deep_92 (lv_at hl 0 rfl) ?_
            exact W.iret (v := x_10) hx hb hr (fun t ht hW => ⟨x_10, rfl, trivial, ht⟩) (fun q hq => by cases hq) dX8_deep_94
          · have fc_11 : 24 < x_10.toInt := zf_nle c_11 rfl (by decide)
            refine lv_bipush (v := 24) hx hb dX8_deep_87 (by decide) ?_
            refine lv_goto (tgt := 94) hx hb dX8_deep_89 (by decide) ?_
            exact W.iret (v := 24) hx hb hr (fun t ht hW => ⟨24, rfl, trivial, ht⟩) (fun q hq => by cases hq) dX8_deep_94
      · have fc_5 : x_4.toInt = 2 := zf_eq c_5 rfl (by decide)
        refine lv_iconst (v := 1) hx hb dX8_deep_48 (by decide) ?_
        refine lv_aload_n hx hb dX8_deep_49 rfl (lv_at hl 0 rfl) ?_
        refine va_get (D := D) (ci := 8) (v := .ref mpa) (C := RX8) (T := TX8) (N := 38) hx hb hts hi_X8_deep_8 hown hK hP 0 rfl rfl 12 (by decide) (hts (.fieldLink RX8 32 "TheLiningsInItModel" "part" "[I") (List.mem_of_getElem? (i := 2) rfl)) (fun _ h9 => h9) rfl dX8_deep_50 ?_
        refine lv_iload_n hx hb dX8_deep_53 rfl (lv_at hl 1 rfl) ?_
        refine va_iald hx hb hK hP 2 0 rfl rfl (zf_in (by omega) (by omega)) dX8_deep_54 ?_
        refine lv_topi (fun x_12 ex_12 => ?_)
        have bx_12 : 0 ≤ x_12.toInt ∧ x_12.toInt ≤ 9 := by rw [ex_12]; exact hp_gpa _
        refine lv_iconst (v := 3) hx hb dX8_deep_55 (by decide) ?_
        refine lv_idiv hx hb dX8_deep_56 (by decide) ?_
        refine lv_topi (fun x_13 ex_13 => ?_)
        have qx_13 : x_13.toInt = x_12.toInt / 3 := by rw [ex_13]; exact zf_div rfl (by decide) (by omega) (by omega)
        refine lv_iadd hx hb dX8_deep_57 ?_
        refine lv_topi (fun x_14 ex_14 => ?_)
        have qx_14 : x_14.toInt = 1 + x_13.toInt := by rw [ex_14]; exact zf_add (by decide) rfl (by omega) (by omega)
        refine lv_goto (tgt := 62) hx hb dX8_deep_58 (by decide) ?_
        refine lv_iadd hx hb dX8_deep_62 ?_
        refine lv_topi (fun x_15 ex_15 => ?_)
        refine lv_aload_n hx hb dX8_deep_63 rfl (lv_at hl 0 rfl) ?_
        refine va_get (D := D) (ci := 8) (v := .int nhu) (C := RX8) (T := TX8) (N := 38) hx hb hts hi_X8_deep_8 hown hK hP 0 rfl rfl 6 (by decide) (hts (.fieldLink RX8 135 "TheLiningsInItModel" "hurry" "I") (List.mem_of_getElem? (i := 3) rfl)) (fun _ h9 => h9) rfl dX8_deep_64 ?_
        refine lv_bipush (v := 6) hx hb dX8_deep_67 (by decide) ?_
        refine lv_icmp_lt (tgt := 76) hx hb dX8_deep_69 (by decide) (fun c_16 => ?_) (fun c_16 => ?_)
        · have fc_16 : nhu.toInt < 6 := zf_lt c_16 rfl (by decide)
          refine lv_iconst (v := 0) hx hb dX8_deep_76 (by decide) ?_
          refine lv_iadd hx hb dX8_deep_77 ?_
          refine lv_topi (fun y_17 ey_17 => ?_)
          obtain rfl : x_15 = y_17 := (ey_17.trans (Int32.add_zero x_15)).symm
          refine lv_istore (lv' := [(4, .int x_15), (0, .ref m0), (1, .int p_), (2, .int d), (3, .int is_)]) hx hb dX8_deep_78 hl (by decide) rfl (fun ls hl => ?_)
          refine lv_iload hx hb dX8_deep_80 (lv_at hl 0 rfl) ?_
          refine lv_bipush (v := 24) hx hb dX8_deep_82 (by decide) ?_
          refine lv_icmp_le (tgt := 92) hx hb dX8_deep_84 (by decide) (fun c_18 => ?_) (fun c_18 => ?_)
          · have fc_18 : x_15.toInt ≤ 24 := zf_le c_18 rfl (by decide)
            refine lv_iload hx hb dX8_deep_92 (lv_at hl 0 rfl) ?_
            exact W.iret (v := x_15) hx hb hr (fun t ht hW => ⟨x_15, rfl, trivial, ht⟩) (fun q hq => by cases hq) dX8_deep_94
          · have fc_18 : 24 < x_15.toInt := zf_nle c_18 rfl (by decide)
            refine lv_bipush (v := 24) hx hb dX8_deep_87 (by decide) ?_
            refine lv_goto (tgt := 94) hx hb dX8_deep_89 (by decide) ?_
            exact W.iret (v := 24) hx hb hr (fun t ht hW => ⟨24, rfl, trivial, ht⟩) (fun q hq => by cases hq) dX8_deep_94
        · have fc_16 : 6 ≤ nhu.toInt := zf_nlt c_16 rfl (by decide)
          refine lv_iconst (v := 1) hx hb dX8_deep_72 (by decide) ?_
          refine lv_goto (tgt := 77) hx hb dX8_deep_73 (by decide) ?_
          refine lv_iadd hx hb dX8_deep_77 ?_
          refine lv_topi (fun x_19 ex_19 => ?_)
          refine lv_istore (lv' := [(4, .int x_19), (0, .ref m0), (1, .int p_), (2, .int d), (3, .int is_)]) hx hb dX8_deep_78 hl (by decide) rfl (fun ls hl => ?_)
          refine lv_iload hx hb dX8_deep_80 (lv_at hl 0 rfl) ?_
          refine lv_bipush (v := 24) hx hb dX8_deep_82 (by decide) ?_
          refine lv_icmp_le (tgt := 92) hx hb dX8_deep_84 (by decide) (fun c_20 => ?_) (fun c_20 => ?_)
          · have fc_20 : x_19.toInt ≤ 24 := zf_le c_20 rfl (by decide)
            refine lv_iload hx hb dX8_deep_92 (lv_at hl 0 rfl) ?_
            exact W.iret (v := x_19) hx hb hr (fun t ht hW => ⟨x_19, rfl, trivial, ht⟩) (fun q hq => by cases hq) dX8_deep_94
          · have fc_20 : 24 < x_19.toInt := zf_nle c_20 rfl (by decide)
            refine lv_bipush (v := 24) hx hb dX8_deep_87 (by decide) ?_
            refine lv_goto (tgt := 94) hx hb dX8_deep_89 (by decide) ?_
            exact W.iret (v := 24) hx hb hr (fun t ht hW => ⟨24, rfl, trivial, ht⟩) (fun q hq => by cases hq) dX8_deep_94
    · have fc_3 : x_2.toInt = 5 := zf_eq c_3 rfl (by decide)
      refine lv_iload_n hx hb dX8_deep_35 rfl (lv_at hl 2 rfl) ?_
      exact W.iret (v := d) hx hb hr (fun t ht hW => ⟨d, rfl, trivial, ht⟩) (fun q hq => by cases hq) dX8_deep_36
  · have fc_1 : is_.toInt ≠ 0 := zf_ne c_1 rfl (by decide)
    refine lv_iload_n hx hb dX8_deep_4 rfl (lv_at hl 2 rfl) ?_
    refine lv_aload_n hx hb dX8_deep_5 rfl (lv_at hl 0 rfl) ?_
    refine lv_iload_n hx hb dX8_deep_6 rfl (lv_at hl 1 rfl) ?_
    refine zc_V (As := [.int p_]) (rest := [.int d]) ⟨hx, hb, hml, hown, hts⟩ (c_M_step l D cI cJ cZ cP cS po m0 mrf mki mpa mta mla msl mco mhe mso msi msh mce mca mwo mnu mte mwa mke mma mth mtr (npu) (nte) (nat_) (nde) (nto) (nse) (nhu) (nga) (nsd) (nfa) (nba) (npl) (nen) (nnu) (nwr) (nra) (nik) gki gpa (p_) hy0 hy1 hy2 hy3 hy4 hy5 hy6 hy7 hy8 hy9 hy10 hy11 hy12 hy13 hy14 hy15 hp_gki hp_gpa) (cwV 1 hts gX8_deep_X8_step rfl rfl rfl ⟨rfl, dh_X8_step⟩ ⟨Nat.le_of_ble_eq_true rfl, Nat.le_of_ble_eq_true rfl⟩) hK hN hZ hP (hP.sub [0, 1, 2] rfl) (va_recv (q := (RX8, TX8, 38)) hK hP (ci := 8) (q0 := 0) rfl rfl) rfl hl.1 rfl (Nat.le_of_ble_eq_true rfl) dX8_deep_7 ⟨Nat.le_of_ble_eq_true rfl, Nat.le_of_ble_eq_true rfl⟩ (fun r_21 hr_21 => ?_)
    obtain ⟨g_22, g_23, hsr_21_0⟩ := hr_21
    refine lv_icmp_le (tgt := 23) hx hb dX8_deep_10 (by decide) (fun c_24 => ?_) (fun c_24 => ?_)
    · have fc_24 : d.toInt ≤ r_21.toInt := zf_le c_24 rfl rfl
      refine lv_iconst (v := 0) hx hb dX8_deep_23 (by decide) ?_
      exact W.iret (v := 0) hx hb hr (fun t ht hW => ⟨0, rfl, trivial, ht⟩) (fun q hq => by cases hq) dX8_deep_24
    · have fc_24 : r_21.toInt < d.toInt := zf_nle c_24 rfl rfl
      refine lv_iload_n hx hb dX8_deep_13 rfl (lv_at hl 2 rfl) ?_
      refine lv_aload_n hx hb dX8_deep_14 rfl (lv_at hl 0 rfl) ?_
      refine lv_iload_n hx hb dX8_deep_15 rfl (lv_at hl 1 rfl) ?_
      refine zc_V (As := [.int p_]) (rest := [.int d]) ⟨hx, hb, hml, hown, hts⟩ (c_M_step l D cI cJ cZ cP cS po m0 mrf mki mpa mta mla msl mco mhe mso msi msh mce mca mwo mnu mte mwa mke mma mth mtr (npu) (nte) (nat_) (nde) (nto) (nse) (nhu) (nga) (nsd) (nfa) (nba) (npl) (nen) (nnu) (nwr) (nra) (nik) gki gpa (p_) hy0 hy1 hy2 hy3 hy4 hy5 hy6 hy7 hy8 hy9 hy10 hy11 hy12 hy13 hy14 hy15 hp_gki hp_gpa) (cwV 1 hts gX8_deep_X8_step rfl rfl rfl ⟨rfl, dh_X8_step⟩ ⟨Nat.le_of_ble_eq_true rfl, Nat.le_of_ble_eq_true rfl⟩) hK hN hZ hP (hP.sub [0, 1, 2] rfl) (va_recv (q := (RX8, TX8, 38)) hK hP (ci := 8) (q0 := 0) rfl rfl) rfl hl.1 rfl (Nat.le_of_ble_eq_true rfl) dX8_deep_16 ⟨Nat.le_of_ble_eq_true rfl, Nat.le_of_ble_eq_true rfl⟩ (fun r_25 hr_25 => ?_)
      obtain ⟨g_26, g_27, hsr_25_0⟩ := hr_25
      refine lv_isub hx hb dX8_deep_19 ?_
      refine lv_topi (fun x_28 ex_28 => ?_)
      have rax_28 := zf_rng d
      have qx_28 : x_28.toInt = d.toInt - r_25.toInt := by rw [ex_28]; exact zf_sub rfl rfl (by omega) (by omega)
      refine lv_goto (tgt := 24) hx hb dX8_deep_20 (by decide) ?_
      exact W.iret (v := x_28) hx hb hr (fun t ht hW => ⟨x_28, rfl, trivial, ht⟩) (fun q hq => by cases hq) dX8_deep_24
theorem gl_X8_mayBe_X80 : GoodIn wsX8_mayBe wsX80 := (dg_t (dg_t gw_wsX80))
theorem hi_X8_mayBe_8 : ∀ w ∈ u_ws RX8 TX8 38, w ∈ wsX8_mayBe := fun w h => (gl_X8_mayBe_X80 w h).1
theorem hi_X8_says_8 : ∀ w ∈ u_ws RX8 TX8 38, w ∈ wsX8_says := fun w h => (gl_X8_says_X80 w h).1
theorem gl_X8_addsPull_X80 : GoodIn wsX8_addsPull wsX80 := (dg_t (dg_t (dg_t (dg_t (dg_t gw_wsX80)))))
theorem hi_X8_addsPull_8 : ∀ w ∈ u_ws RX8 TX8 38, w ∈ wsX8_addsPull := fun w h => (gl_X8_addsPull_X80 w h).1
theorem hi_X8_pull_8 : ∀ w ∈ u_ws RX8 TX8 38, w ∈ wsX8_pull := fun w h => (gl_X8_pull_X80 w h).1
theorem hi_X8_pullOf_8 : ∀ w ∈ u_ws RX8 TX8 38, w ∈ wsX8_pullOf := fun w h => (gl_X8_pullOf_X80 w h).1
theorem gl_X8_sews_X80 : GoodIn wsX8_sews wsX80 := (dg_t (dg_t (dg_t (dg_t (dg_t gw_wsX80)))))
theorem hi_X8_sews_8 : ∀ w ∈ u_ws RX8 TX8 38, w ∈ wsX8_sews := fun w h => (gl_X8_sews_X80 w h).1
theorem hi_X8_teeth_8 : ∀ w ∈ u_ws RX8 TX8 38, w ∈ wsX8_teeth := fun w h => (gl_X8_teeth_X80 w h).1
theorem hi_X8_lack_8 : ∀ w ∈ u_ws RX8 TX8 38, w ∈ wsX8_lack := fun w h => (gl_X8_lack_X80 w h).1
theorem hi_X8_slack_8 : ∀ w ∈ u_ws RX8 TX8 38, w ∈ wsX8_slack := fun w h => (gl_X8_slack_X80 w h).1
theorem gl_X8_most_X80 : GoodIn wsX8_most wsX80 := (dg_t (dg_t gw_wsX80))
theorem hi_X8_most_8 : ∀ w ∈ u_ws RX8 TX8 38, w ∈ wsX8_most := fun w h => (gl_X8_most_X80 w h).1
theorem gl_X8_told_X80 : GoodIn wsX8_told wsX80 := (dg_t (dg_t (dg_t (dg_t (dg_t (dg_t (dg_t gw_wsX80)))))))
theorem hi_X8_told_8 : ∀ w ∈ u_ws RX8 TX8 38, w ∈ wsX8_told := fun w h => (gl_X8_told_X80 w h).1
theorem gl_X8_tells_X80 : GoodIn wsX8_tells wsX80 := (dg_t (dg_t (dg_t (dg_t (dg_t (dg_t (dg_t gw_wsX80)))))))
theorem hi_X8_tells_8 : ∀ w ∈ u_ws RX8 TX8 38, w ∈ wsX8_tells := fun w h => (gl_X8_tells_X80 w h).1
theorem gl_X8_fault_X80 : GoodIn wsX8_fault wsX80 := (dg_t (dg_t gw_wsX80))
theorem hi_X8_fault_8 : ∀ w ∈ u_ws RX8 TX8 38, w ∈ wsX8_fault := fun w h => (gl_X8_fault_X80 w h).1
end
section
set_option maxHeartbeats 4000000 in
set_option maxRecDepth 100000 in
theorem c_M_power_0 (l : Launch) (D : va_G) (cI cJ cZ cP cS : ClassId) (po : zPool) (m0 mrf mki mpa mta mla msl mco mhe mso msi msh mce mca mwo mnu mte mwa mke mma mth mtr : Nat) (npu nte nat_ nde nto nse nhu nga nsd nfa nba npl nen nnu nwr nra nik : Int32) (hy0 : 0 ≤ npu.toInt) (hy1 : npu.toInt ≤ 8) (hy2 : 4 ≤ nte.toInt) (hy3 : nte.toInt ≤ 40) (hy4 : 0 ≤ nat_.toInt) (hy5 : nat_.toInt ≤ 40) (hy6 : 0 ≤ nde.toInt) (hy7 : nde.toInt ≤ 24) (hy8 : 0 ≤ nhu.toInt) (hy9 : nhu.toInt ≤ 9) (hy10 : 0 ≤ nra.toInt) (hy11 : nra.toInt ≤ 2000) (hy12 : 0 ≤ nik.toInt) (hy13 : nik.toInt ≤ 1) : Met l yX8_power wsX8_power ({ frames := 0, cells := 0, slots := 0, locals := 0 }) (va_Pc [.ref m0, .int 0] (zR D (zKT cI cJ cZ cP cS) po [(zMO m0 npu nte nat_ nde nto nse nhu nga nsd nfa mrf mki mpa mta mla msl mco mhe mso msi msh mce mca mwo mnu mte nba npl nen nnu nwr mwa mke mma mth mtr nra nik)])) (vp_Si (fun r => r = 1)) 0 0 (fun _ => False) := by
  refine Met.ofW (cc := cX8_power) (maxL := 2) (ret := (some .int)) (by decide) rfl ?_
  intro p e s m args below meth c s₁ B hml hv
  obtain ⟨rfl, hP, hK, hN, hZ⟩ := hv
  have hx := B.exec
  have hb := B.bytes
  have hr := B.returns
  have hts := atoms_spec (ws := wsX8_power) B.pre
  have hown : s.vm.findClass RX8 = some m.cls := findClass_of_methodNamed B.named
  have hlocks := B.notSynchronized
  have hl := lv_entry ([.ref m0, .int 0]) (n := 2) (Nat.le_of_ble_eq_true rfl)
  rw [lg_entry_eq]
  generalize (lg_sl ([.ref m0, .int 0]) ++ List.replicate (2 - (lg_sl ([.ref m0, .int 0])).length) Slot.unset).toArray = ls at hl ⊢
  replace hl : lv_has ls 2 [(0, .ref m0), (1, .int 0)] := hl
  refine lv_iload_n hx hb dX8_power_0 rfl (lv_at hl 1 rfl) ?_
  refine lv_if_ne (tgt := 8) hx hb dX8_power_1 (by decide) (fun c_1 => ?_) (fun c_1 => ?_)
  · exact absurd c_1 (by decide)
  · refine lv_iconst (v := 1) hx hb dX8_power_4 (by decide) ?_
    refine lv_goto (tgt := 18) hx hb dX8_power_5 (by decide) ?_
    exact W.iret (v := 1) hx hb hr (fun t ht hW => ⟨1, rfl, rfl, ht⟩) (fun q hq => by cases hq) dX8_power_18
set_option maxHeartbeats 4000000 in
set_option maxRecDepth 100000 in
theorem c_M_power_1 (l : Launch) (D : va_G) (cI cJ cZ cP cS : ClassId) (po : zPool) (m0 mrf mki mpa mta mla msl mco mhe mso msi msh mce mca mwo mnu mte mwa mke mma mth mtr : Nat) (npu nte nat_ nde nto nse nhu nga nsd nfa nba npl nen nnu nwr nra nik : Int32) (hy0 : 0 ≤ npu.toInt) (hy1 : npu.toInt ≤ 8) (hy2 : 4 ≤ nte.toInt) (hy3 : nte.toInt ≤ 40) (hy4 : 0 ≤ nat_.toInt) (hy5 : nat_.toInt ≤ 40) (hy6 : 0 ≤ nde.toInt) (hy7 : nde.toInt ≤ 24) (hy8 : 0 ≤ nhu.toInt) (hy9 : nhu.toInt ≤ 9) (hy10 : 0 ≤ nra.toInt) (hy11 : nra.toInt ≤ 2000) (hy12 : 0 ≤ nik.toInt) (hy13 : nik.toInt ≤ 1) : Met l yX8_power wsX8_power ({ frames := 1, cells := 0, slots := 0, locals := 21 }) (va_Pc [.ref m0, .int 1] (zR D (zKT cI cJ cZ cP cS) po [(zMO m0 npu nte nat_ nde nto nse nhu nga nsd nfa mrf mki mpa mta mla msl mco mhe mso msi msh mce mca mwo mnu mte nba npl nen nnu nwr mwa mke mma mth mtr nra nik)])) (vp_Si (fun r => r = 12)) 0 0 (fun _ => False) := by
  refine Met.ofW (cc := cX8_power) (maxL := 2) (ret := (some .int)) (by decide) rfl ?_
  intro p e s m args below meth c s₁ B hml hv
  obtain ⟨rfl, hP, hK, hN, hZ⟩ := hv
  have hx := B.exec
  have hb := B.bytes
  have hr := B.returns
  have hts := atoms_spec (ws := wsX8_power) B.pre
  have hown : s.vm.findClass RX8 = some m.cls := findClass_of_methodNamed B.named
  have hlocks := B.notSynchronized
  have hl := lv_entry ([.ref m0, .int 1]) (n := 2) (Nat.le_of_ble_eq_true rfl)
  rw [lg_entry_eq]
  generalize (lg_sl ([.ref m0, .int 1]) ++ List.replicate (2 - (lg_sl ([.ref m0, .int 1])).length) Slot.unset).toArray = ls at hl ⊢
  replace hl : lv_has ls 2 [(0, .ref m0), (1, .int 1)] := hl
  refine lv_iload_n hx hb dX8_power_0 rfl (lv_at hl 1 rfl) ?_
  refine lv_if_ne (tgt := 8) hx hb dX8_power_1 (by decide) (fun c_1 => ?_) (fun c_1 => ?_)
  · refine lv_bipush (v := 12) hx hb dX8_power_8 (by decide) ?_
    refine lv_aload_n hx hb dX8_power_10 rfl (lv_at hl 0 rfl) ?_
    refine lv_iload_n hx hb dX8_power_11 rfl (lv_at hl 1 rfl) ?_
    refine lv_iconst (v := 1) hx hb dX8_power_12 (by decide) ?_
    refine lv_isub hx hb dX8_power_13 ?_
    refine lv_topi (fun y_2 ey_2 => ?_)
    obtain rfl : y_2 = 0 := ey_2.trans (by decide)
    refine zc_V (As := [.int 0]) (rest := [.int 12]) ⟨hx, hb, hml, hown, hts⟩ (c_M_power_0 l D cI cJ cZ cP cS po m0 mrf mki mpa mta mla msl mco mhe mso msi msh mce mca mwo mnu mte mwa mke mma mth mtr (npu) (nte) (nat_) (nde) (nto) (nse) (nhu) (nga) (nsd) (nfa) (nba) (npl) (nen) (nnu) (nwr) (nra) (nik) hy0 hy1 hy2 hy3 hy4 hy5 hy6 hy7 hy8 hy9 hy10 hy11 hy12 hy13) (cwV 1 hts gX8_power_X8_power rfl rfl rfl ⟨rfl, dh_X8_power⟩ ⟨Nat.le_of_ble_eq_true rfl, Nat.le_of_ble_eq_true rfl⟩) hK hN hZ hP (hP.sub [0] rfl) (va_recv (q := (RX8, TX8, 38)) hK hP (ci := 8) (q0 := 0) rfl rfl) rfl hl.1 rfl (Nat.le_of_ble_eq_true rfl) dX8_power_14 ⟨Nat.le_of_ble_eq_true rfl, Nat.le_of_ble_eq_true rfl⟩ (fun r_3 hr_3 => ?_)
    obtain rfl := hr_3
    refine lv_imul hx hb dX8_power_17 ?_
    refine lv_topi (fun y_4 ey_4 => ?_)
    obtain rfl : y_4 = 12 := ey_4.trans (by decide)
    exact W.iret (v := 12) hx hb hr (fun t ht hW => ⟨12, rfl, rfl, ht⟩) (fun q hq => by cases hq) dX8_power_18
  · exact absurd c_1 (by decide)
set_option maxHeartbeats 4000000 in
set_option maxRecDepth 100000 in
theorem c_M_power_2 (l : Launch) (D : va_G) (cI cJ cZ cP cS : ClassId) (po : zPool) (m0 mrf mki mpa mta mla msl mco mhe mso msi msh mce mca mwo mnu mte mwa mke mma mth mtr : Nat) (npu nte nat_ nde nto nse nhu nga nsd nfa nba npl nen nnu nwr nra nik : Int32) (hy0 : 0 ≤ npu.toInt) (hy1 : npu.toInt ≤ 8) (hy2 : 4 ≤ nte.toInt) (hy3 : nte.toInt ≤ 40) (hy4 : 0 ≤ nat_.toInt) (hy5 : nat_.toInt ≤ 40) (hy6 : 0 ≤ nde.toInt) (hy7 : nde.toInt ≤ 24) (hy8 : 0 ≤ nhu.toInt) (hy9 : nhu.toInt ≤ 9) (hy10 : 0 ≤ nra.toInt) (hy11 : nra.toInt ≤ 2000) (hy12 : 0 ≤ nik.toInt) (hy13 : nik.toInt ≤ 1) : Met l yX8_power wsX8_power ({ frames := 2, cells := 0, slots := 0, locals := 42 }) (va_Pc [.ref m0, .int 2] (zR D (zKT cI cJ cZ cP cS) po [(zMO m0 npu nte nat_ nde nto nse nhu nga nsd nfa mrf mki mpa mta mla msl mco mhe mso msi msh mce mca mwo mnu mte nba npl nen nnu nwr mwa mke mma mth mtr nra nik)])) (vp_Si (fun r => r = 144)) 0 0 (fun _ => False) := by
  refine Met.ofW (cc := cX8_power) (maxL := 2) (ret := (some .int)) (by decide) rfl ?_
  intro p e s m args below meth c s₁ B hml hv
  obtain ⟨rfl, hP, hK, hN, hZ⟩ := hv
  have hx := B.exec
  have hb := B.bytes
  have hr := B.returns
  have hts := atoms_spec (ws := wsX8_power) B.pre
  have hown : s.vm.findClass RX8 = some m.cls := findClass_of_methodNamed B.named
  have hlocks := B.notSynchronized
  have hl := lv_entry ([.ref m0, .int 2]) (n := 2) (Nat.le_of_ble_eq_true rfl)
  rw [lg_entry_eq]
  generalize (lg_sl ([.ref m0, .int 2]) ++ List.replicate (2 - (lg_sl ([.ref m0, .int 2])).length) Slot.unset).toArray = ls at hl ⊢
  replace hl : lv_has ls 2 [(0, .ref m0), (1, .int 2)] := hl
  refine lv_iload_n hx hb dX8_power_0 rfl (lv_at hl 1 rfl) ?_
  refine lv_if_ne (tgt := 8) hx hb dX8_power_1 (by decide) (fun c_1 => ?_) (fun c_1 => ?_)
  · refine lv_bipush (v := 12) hx hb dX8_power_8 (by decide) ?_
    refine lv_aload_n hx hb dX8_power_10 rfl (lv_at hl 0 rfl) ?_
    refine lv_iload_n hx hb dX8_power_11 rfl (lv_at hl 1 rfl) ?_
    refine lv_iconst (v := 1) hx hb dX8_power_12 (by decide) ?_
    refine lv_isub hx hb dX8_power_13 ?_
    refine lv_topi (fun y_2 ey_2 => ?_)
    obtain rfl : y_2 = 1 := ey_2.trans (by decide)
    refine zc_V (As := [.int 1]) (rest := [.int 12]) ⟨hx, hb, hml, hown, hts⟩ (c_M_power_1 l D cI cJ cZ cP cS po m0 mrf mki mpa mta mla msl mco mhe mso msi msh mce mca mwo mnu mte mwa mke mma mth mtr (npu) (nte) (nat_) (nde) (nto) (nse) (nhu) (nga) (nsd) (nfa) (nba) (npl) (nen) (nnu) (nwr) (nra) (nik) hy0 hy1 hy2 hy3 hy4 hy5 hy6 hy7 hy8 hy9 hy10 hy11 hy12 hy13) (cwV 1 hts gX8_power_X8_power rfl rfl rfl ⟨rfl, dh_X8_power⟩ ⟨Nat.le_of_ble_eq_true rfl, Nat.le_of_ble_eq_true rfl⟩) hK hN hZ hP (hP.sub [0] rfl) (va_recv (q := (RX8, TX8, 38)) hK hP (ci := 8) (q0 := 0) rfl rfl) rfl hl.1 rfl (Nat.le_of_ble_eq_true rfl) dX8_power_14 ⟨Nat.le_of_ble_eq_true rfl, Nat.le_of_ble_eq_true rfl⟩ (fun r_3 hr_3 => ?_)
    obtain rfl := hr_3
    refine lv_imul hx hb dX8_power_17 ?_
    refine lv_topi (fun y_4 ey_4 => ?_)
    obtain rfl : y_4 = 144 := ey_4.trans (by decide)
    exact W.iret (v := 144) hx hb hr (fun t ht hW => ⟨144, rfl, rfl, ht⟩) (fun q hq => by cases hq) dX8_power_18
  · exact absurd c_1 (by decide)
set_option maxHeartbeats 4000000 in
set_option maxRecDepth 100000 in
theorem c_M_power_3 (l : Launch) (D : va_G) (cI cJ cZ cP cS : ClassId) (po : zPool) (m0 mrf mki mpa mta mla msl mco mhe mso msi msh mce mca mwo mnu mte mwa mke mma mth mtr : Nat) (npu nte nat_ nde nto nse nhu nga nsd nfa nba npl nen nnu nwr nra nik : Int32) (hy0 : 0 ≤ npu.toInt) (hy1 : npu.toInt ≤ 8) (hy2 : 4 ≤ nte.toInt) (hy3 : nte.toInt ≤ 40) (hy4 : 0 ≤ nat_.toInt) (hy5 : nat_.toInt ≤ 40) (hy6 : 0 ≤ nde.toInt) (hy7 : nde.toInt ≤ 24) (hy8 : 0 ≤ nhu.toInt) (hy9 : nhu.toInt ≤ 9) (hy10 : 0 ≤ nra.toInt) (hy11 : nra.toInt ≤ 2000) (hy12 : 0 ≤ nik.toInt) (hy13 : nik.toInt ≤ 1) : Met l yX8_power wsX8_power ({ frames := 3, cells := 0, slots := 0, locals := 63 }) (va_Pc [.ref m0, .int 3] (zR D (zKT cI cJ cZ cP cS) po [(zMO m0 npu nte nat_ nde nto nse nhu nga nsd nfa mrf mki mpa mta mla msl mco mhe mso msi msh mce mca mwo mnu mte nba npl nen nnu nwr mwa mke mma mth mtr nra nik)])) (vp_Si (fun r => r = 1728)) 0 0 (fun _ => False) := by
  refine Met.ofW (cc := cX8_power) (maxL := 2) (ret := (some .int)) (by decide) rfl ?_
  intro p e s m args below meth c s₁ B hml hv
  obtain ⟨rfl, hP, hK, hN, hZ⟩ := hv
  have hx := B.exec
  have hb := B.bytes
  have hr := B.returns
  have hts := atoms_spec (ws := wsX8_power) B.pre
  have hown : s.vm.findClass RX8 = some m.cls := findClass_of_methodNamed B.named
  have hlocks := B.notSynchronized
  have hl := lv_entry ([.ref m0, .int 3]) (n := 2) (Nat.le_of_ble_eq_true rfl)
  rw [lg_entry_eq]
  generalize (lg_sl ([.ref m0, .int 3]) ++ List.replicate (2 - (lg_sl ([.ref m0, .int 3])).length) Slot.unset).toArray = ls at hl ⊢
  replace hl : lv_has ls 2 [(0, .ref m0), (1, .int 3)] := hl
  refine lv_iload_n hx hb dX8_power_0 rfl (lv_at hl 1 rfl) ?_
  refine lv_if_ne (tgt := 8) hx hb dX8_power_1 (by decide) (fun c_1 => ?_) (fun c_1 => ?_)
  · refine lv_bipush (v := 12) hx hb dX8_power_8 (by decide) ?_
    refine lv_aload_n hx hb dX8_power_10 rfl (lv_at hl 0 rfl) ?_
    refine lv_iload_n hx hb dX8_power_11 rfl (lv_at hl 1 rfl) ?_
    refine lv_iconst (v := 1) hx hb dX8_power_12 (by decide) ?_
    refine lv_isub hx hb dX8_power_13 ?_
    refine lv_topi (fun y_2 ey_2 => ?_)
    obtain rfl : y_2 = 2 := ey_2.trans (by decide)
    refine zc_V (As := [.int 2]) (rest := [.int 12]) ⟨hx, hb, hml, hown, hts⟩ (c_M_power_2 l D cI cJ cZ cP cS po m0 mrf mki mpa mta mla msl mco mhe mso msi msh mce mca mwo mnu mte mwa mke mma mth mtr (npu) (nte) (nat_) (nde) (nto) (nse) (nhu) (nga) (nsd) (nfa) (nba) (npl) (nen) (nnu) (nwr) (nra) (nik) hy0 hy1 hy2 hy3 hy4 hy5 hy6 hy7 hy8 hy9 hy10 hy11 hy12 hy13) (cwV 1 hts gX8_power_X8_power rfl rfl rfl ⟨rfl, dh_X8_power⟩ ⟨Nat.le_of_ble_eq_true rfl, Nat.le_of_ble_eq_true rfl⟩) hK hN hZ hP (hP.sub [0] rfl) (va_recv (q := (RX8, TX8, 38)) hK hP (ci := 8) (q0 := 0) rfl rfl) rfl hl.1 rfl (Nat.le_of_ble_eq_true rfl) dX8_power_14 ⟨Nat.le_of_ble_eq_true rfl, Nat.le_of_ble_eq_true rfl⟩ (fun r_3 hr_3 => ?_)
    obtain rfl := hr_3
    refine lv_imul hx hb dX8_power_17 ?_
    refine lv_topi (fun y_4 ey_4 => ?_)
    obtain rfl : y_4 = 1728 := ey_4.trans (by decide)
    exact W.iret (v := 1728) hx hb hr (fun t ht hW => ⟨1728, rfl, rfl, ht⟩) (fun q hq => by cases hq) dX8_power_18
  · exact absurd c_1 (by decide)
set_option maxHeartbeats 4000000 in
set_option maxRecDepth 100000 in
theorem c_M_power_4 (l : Launch) (D : va_G) (cI cJ cZ cP cS : ClassId) (po : zPool) (m0 mrf mki mpa mta mla msl mco mhe mso msi msh mce mca mwo mnu mte mwa mke mma mth mtr : Nat) (npu nte nat_ nde nto nse nhu nga nsd nfa nba npl nen nnu nwr nra nik : Int32) (hy0 : 0 ≤ npu.toInt) (hy1 : npu.toInt ≤ 8) (hy2 : 4 ≤ nte.toInt) (hy3 : nte.toInt ≤ 40) (hy4 : 0 ≤ nat_.toInt) (hy5 : nat_.toInt ≤ 40) (hy6 : 0 ≤ nde.toInt) (hy7 : nde.toInt ≤ 24) (hy8 : 0 ≤ nhu.toInt) (hy9 : nhu.toInt ≤ 9) (hy10 : 0 ≤ nra.toInt) (hy11 : nra.toInt ≤ 2000) (hy12 : 0 ≤ nik.toInt) (hy13 : nik.toInt ≤ 1) : Met l yX8_power wsX8_power ({ frames := 4, cells := 0, slots := 0, locals := 84 }) (va_Pc [.ref m0, .int 4] (zR D (zKT cI cJ cZ cP cS) po [(zMO m0 npu nte nat_ nde nto nse nhu nga nsd nfa mrf mki mpa mta mla msl mco mhe mso msi msh mce mca mwo mnu mte nba npl nen nnu nwr mwa mke mma mth mtr nra nik)])) (vp_Si (fun r => r = 20736)) 0 0 (fun _ => False) := by
  refine Met.ofW (cc := cX8_power) (maxL := 2) (ret := (some .int)) (by decide) rfl ?_
  intro p e s m args below meth c s₁ B hml hv
  obtain ⟨rfl, hP, hK, hN, hZ⟩ := hv
  have hx := B.exec
  have hb := B.bytes
  have hr := B.returns
  have hts := atoms_spec (ws := wsX8_power) B.pre
  have hown : s.vm.findClass RX8 = some m.cls := findClass_of_methodNamed B.named
  have hlocks := B.notSynchronized
  have hl := lv_entry ([.ref m0, .int 4]) (n := 2) (Nat.le_of_ble_eq_true rfl)
  rw [lg_entry_eq]
  generalize (lg_sl ([.ref m0, .int 4]) ++ List.replicate (2 - (lg_sl ([.ref m0, .int 4])).length) Slot.unset).toArray = ls at hl ⊢
  replace hl : lv_has ls 2 [(0, .ref m0), (1, .int 4)] := hl
  refine lv_iload_n hx hb dX8_power_0 rfl (lv_at hl 1 rfl) ?_
  refine lv_if_ne (tgt := 8) hx hb dX8_power_1 (by decide) (fun c_1 => ?_) (fun c_1 => ?_)
  · refine lv_bipush (v := 12) hx hb dX8_power_8 (by decide) ?_
    refine lv_aload_n hx hb dX8_power_10 rfl (lv_at hl 0 rfl) ?_
    refine lv_iload_n hx hb dX8_power_11 rfl (lv_at hl 1 rfl) ?_
    refine lv_iconst (v := 1) hx hb dX8_power_12 (by decide) ?_
    refine lv_isub hx hb dX8_power_13 ?_
    refine lv_topi (fun y_2 ey_2 => ?_)
    obtain rfl : y_2 = 3 := ey_2.trans (by decide)
    refine zc_V (As := [.int 3]) (rest := [.int 12]) ⟨hx, hb, hml, hown, hts⟩ (c_M_power_3 l D cI cJ cZ cP cS po m0 mrf mki mpa mta mla msl mco mhe mso msi msh mce mca mwo mnu mte mwa mke mma mth mtr (npu) (nte) (nat_) (nde) (nto) (nse) (nhu) (nga) (nsd) (nfa) (nba) (npl) (nen) (nnu) (nwr) (nra) (nik) hy0 hy1 hy2 hy3 hy4 hy5 hy6 hy7 hy8 hy9 hy10 hy11 hy12 hy13) (cwV 1 hts gX8_power_X8_power rfl rfl rfl ⟨rfl, dh_X8_power⟩ ⟨Nat.le_of_ble_eq_true rfl, Nat.le_of_ble_eq_true rfl⟩) hK hN hZ hP (hP.sub [0] rfl) (va_recv (q := (RX8, TX8, 38)) hK hP (ci := 8) (q0 := 0) rfl rfl) rfl hl.1 rfl (Nat.le_of_ble_eq_true rfl) dX8_power_14 ⟨Nat.le_of_ble_eq_true rfl, Nat.le_of_ble_eq_true rfl⟩ (fun r_3 hr_3 => ?_)
    obtain rfl := hr_3
    refine lv_imul hx hb dX8_power_17 ?_
    refine lv_topi (fun y_4 ey_4 => ?_)
    obtain rfl : y_4 = 20736 := ey_4.trans (by decide)
    exact W.iret (v := 20736) hx hb hr (fun t ht hW => ⟨20736, rfl, rfl, ht⟩) (fun q hq => by cases hq) dX8_power_18
  · exact absurd c_1 (by decide)
theorem hi_X8_casesBy_8 : ∀ w ∈ u_ws RX8 TX8 38, w ∈ wsX8_casesBy := fun w h => (gl_X8_casesBy_X80 w h).1
theorem hi_X8_mostCases_8 : ∀ w ∈ u_ws RX8 TX8 38, w ∈ wsX8_mostCases := fun w h => (gl_X8_mostCases_X80 w h).1
end
section
theorem hi_X8_nextOf_8 : ∀ w ∈ u_ws RX8 TX8 38, w ∈ wsX8_nextOf := fun w h => (gl_X8_nextOf_X80 w h).1
set_option maxHeartbeats 4000000 in
set_option maxRecDepth 100000 in
theorem c_M_isFew (l : Launch) (D : va_G) (cI cJ cZ cP cS : ClassId) (po : zPool) (m0 mrf mki mpa mta mla msl mco mhe mso msi msh mce mca mwo mnu mte mwa mke mma mth mtr : Nat) (npu nte nat_ nde nto nse nhu nga nsd nfa nba npl nen nnu nwr nra nik : Int32) (n : Int32) (hy0 : 0 ≤ npu.toInt) (hy1 : npu.toInt ≤ 8) (hy2 : 4 ≤ nte.toInt) (hy3 : nte.toInt ≤ 40) (hy4 : 0 ≤ nat_.toInt) (hy5 : nat_.toInt ≤ 40) (hy6 : 0 ≤ nde.toInt) (hy7 : nde.toInt ≤ 24) (hy8 : 0 ≤ nhu.toInt) (hy9 : nhu.toInt ≤ 9) (hy10 : 0 ≤ nra.toInt) (hy11 : nra.toInt ≤ 2000) (hy12 : 0 ≤ nik.toInt) (hy13 : nik.toInt ≤ 1) : Met l yX8_isFew wsX8_isFew ({ frames := 0, cells := 0, slots := 0, locals := 0 }) (va_Pc [.ref m0, .int n] (zR D (zKT cI cJ cZ cP cS) po [(zMO m0 npu nte nat_ nde nto nse nhu nga nsd nfa mrf mki mpa mta mla msl mco mhe mso msi msh mce mca mwo mnu mte nba npl nen nnu nwr mwa mke mma mth mtr nra nik)])) (vp_Si (fun r => (r = 0 ∧ n.toInt < 0) ∨ (r = 0 ∧ 0 ≤ n.toInt ∧ 4 < n.toInt) ∨ (r = 1 ∧ 0 ≤ n.toInt ∧ n.toInt ≤ 4))) 0 0 (fun _ => False) := by
  refine Met.ofW (cc := cX8_isFew) (maxL := 2) (ret := (some .boolean)) (by decide) rfl ?_
  intro p e s m args below meth c s₁ B hml hv
  obtain ⟨rfl, hP, hK, hN, hZ⟩ := hv
  have hx := B.exec
  have hb := B.bytes
  have hr := B.returns
  have hts := atoms_spec (ws := wsX8_isFew) B.pre
  have hown : s.vm.findClass RX8 = some m.cls := findClass_of_methodNamed B.named
  have hlocks := B.notSynchronized
  have hl := lv_entry ([.ref m0, .int n]) (n := 2) (Nat.le_of_ble_eq_true rfl)
  rw [lg_entry_eq]
  generalize (lg_sl ([.ref m0, .int n]) ++ List.replicate (2 - (lg_sl ([.ref m0, .int n])).length) Slot.unset).toArray = ls at hl ⊢
  replace hl : lv_has ls 2 [(0, .ref m0), (1, .int n)] := hl
  refine lv_iload_n hx hb dX8_isFew_0 rfl (lv_at hl 1 rfl) ?_
  refine lv_if_lt (tgt := 13) hx hb dX8_isFew_1 (by decide) (fun c_1 => ?_) (fun c_1 => ?_)
  · have fc_1 : n.toInt < 0 := zf_lt c_1 rfl (by decide)
    refine lv_iconst (v := 0) hx hb dX8_isFew_13 (by decide) ?_
    exact W.zret (v := 0) hx hb hr (by decide) (fun t ht hW => ⟨0, rfl, Or.inl (⟨rfl, (by first | omega | decide)⟩), ht⟩) (fun q hq => by cases hq) dX8_isFew_14
  · have fc_1 : 0 ≤ n.toInt := zf_nlt c_1 rfl (by decide)
    refine lv_iload_n hx hb dX8_isFew_4 rfl (lv_at hl 1 rfl) ?_
    refine lv_iconst (v := 4) hx hb dX8_isFew_5 (by decide) ?_
    refine lv_icmp_gt (tgt := 13) hx hb dX8_isFew_6 (by decide) (fun c_2 => ?_) (fun c_2 => ?_)
    · have fc_2 : 4 < n.toInt := zf_lt c_2 (by decide) rfl
      refine lv_iconst (v := 0) hx hb dX8_isFew_13 (by decide) ?_
      exact W.zret (v := 0) hx hb hr (by decide) (fun t ht hW => ⟨0, rfl, Or.inr (Or.inl (⟨rfl, (by first | omega | decide), (by first | omega | decide)⟩)), ht⟩) (fun q hq => by cases hq) dX8_isFew_14
    · have fc_2 : n.toInt ≤ 4 := zf_nlt c_2 (by decide) rfl
      refine lv_iconst (v := 1) hx hb dX8_isFew_9 (by decide) ?_
      refine lv_goto (tgt := 14) hx hb dX8_isFew_10 (by decide) ?_
      exact W.zret (v := 1) hx hb hr (by decide) (fun t ht hW => ⟨1, rfl, Or.inr (Or.inr (⟨rfl, (by first | omega | decide), (by first | omega | decide)⟩)), ht⟩) (fun q hq => by cases hq) dX8_isFew_14
theorem hi_X8_cases_8 : ∀ w ∈ u_ws RX8 TX8 38, w ∈ wsX8_cases := fun w h => (gl_X8_cases_X80 w h).1
theorem hi_X8_leastCost_8 : ∀ w ∈ u_ws RX8 TX8 38, w ∈ wsX8_leastCost := fun w h => (gl_X8_leastCost_X80 w h).1
theorem hi_X8_costBy_8 : ∀ w ∈ u_ws RX8 TX8 38, w ∈ wsX8_costBy := fun w h => (gl_X8_costBy_X80 w h).1
end
section
theorem hi_X8_firstOf_8 : ∀ w ∈ u_ws RX8 TX8 38, w ∈ wsX8_firstOf := fun w h => (gl_X8_firstOf_X80 w h).1
theorem hi_X8_line_8 : ∀ w ∈ u_ws RX8 TX8 38, w ∈ wsX8_line := fun w h => (gl_X8_line_X80 w h).1
theorem hi_X8_casesIn_8 : ∀ w ∈ u_ws RX8 TX8 38, w ∈ wsX8_casesIn := fun w h => (gl_X8_casesIn_X80 w h).1
end
section
theorem hi_X8_barsOf_8 : ∀ w ∈ u_ws RX8 TX8 38, w ∈ wsX8_barsOf := fun w h => (gl_X8_barsOf_X80 w h).1
theorem hi_X8_best_8 : ∀ w ∈ u_ws RX8 TX8 38, w ∈ wsX8_best := fun w h => (gl_X8_best_X80 w h).1
theorem gl_X8_isOpen_X80 : GoodIn wsX8_isOpen wsX80 := (dg_t (dg_t (dg_t gw_wsX80)))
theorem hi_X8_isOpen_8 : ∀ w ∈ u_ws RX8 TX8 38, w ∈ wsX8_isOpen := fun w h => (gl_X8_isOpen_X80 w h).1
theorem hi_X8_doesHold_8 : ∀ w ∈ u_ws RX8 TX8 38, w ∈ wsX8_doesHold := fun w h => (gl_X8_doesHold_X80 w h).1
theorem hi_X8_frail_8 : ∀ w ∈ u_ws RX8 TX8 38, w ∈ wsX8_frail := fun w h => (gl_X8_frail_X80 w h).1
theorem gl_X8_greatest_X80 : GoodIn wsX8_greatest wsX80 := (dg_t (dg_t gw_wsX80))
theorem hi_X8_greatest_8 : ∀ w ∈ u_ws RX8 TX8 38, w ∈ wsX8_greatest := fun w h => (gl_X8_greatest_X80 w h).1
theorem hi_X8_spare_8 : ∀ w ∈ u_ws RX8 TX8 38, w ∈ wsX8_spare := fun w h => (gl_X8_spare_X80 w h).1
theorem gl_X8_lacking_X80 : GoodIn wsX8_lacking wsX80 := (dg_t (dg_t (dg_t gw_wsX80)))
theorem hi_X8_lacking_8 : ∀ w ∈ u_ws RX8 TX8 38, w ∈ wsX8_lacking := fun w h => (gl_X8_lacking_X80 w h).1
theorem gl_X8_doesCatch_X80 : GoodIn wsX8_doesCatch wsX80 := (dg_t (dg_t (dg_t (dg_t gw_wsX80))))
theorem hi_X8_doesCatch_8 : ∀ w ∈ u_ws RX8 TX8 38, w ∈ wsX8_doesCatch := fun w h => (gl_X8_doesCatch_X80 w h).1
theorem hi_X8_catches_8 : ∀ w ∈ u_ws RX8 TX8 38, w ∈ wsX8_catches := fun w h => (gl_X8_catches_X80 w h).1
theorem hi_X8_stitches_8 : ∀ w ∈ u_ws RX8 TX8 38, w ∈ wsX8_stitches := fun w h => (gl_X8_stitches_X80 w h).1
theorem hi_X8_closed_8 : ∀ w ∈ u_ws RX8 TX8 38, w ∈ wsX8_closed := fun w h => (gl_X8_closed_X80 w h).1
theorem hi_X8_stitch_8 : ∀ w ∈ u_ws RX8 TX8 38, w ∈ wsX8_stitch := fun w h => (gl_X8_stitch_X80 w h).1
end
