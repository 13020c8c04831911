def wsX8_word : List Cond := (.code yX8_word cX8_word 6 (some .int)) :: (.fieldLink RX8 152 "TheLiningsInItModel" "place" "I") :: (.fieldLink RX8 66 "TheLiningsInItModel" "words" "[I") :: (.fieldLink RX8 155 "TheLiningsInItModel" "end" "I") :: (.fieldLink RX8 59 "TheLiningsInItModel" "cells" "[J") :: (.fieldLink RX8 158 "TheLiningsInItModel" "base" "I") :: (.fieldLink RX8 149 "TheLiningsInItModel" "wrongAt" "I") :: wsX80
def wsX8_item_r1 : List Cond := (Cond.fieldLink RX8 90 "TheLiningsInItModel" "pulls" "I") :: (Cond.fieldLink RX8 152 "TheLiningsInItModel" "place" "I") :: (Cond.fieldLink RX8 69 "TheLiningsInItModel" "numbers" "[I") :: (Cond.fieldLink RX8 155 "TheLiningsInItModel" "end" "I") :: (Cond.fieldLink RX8 59 "TheLiningsInItModel" "cells" "[J") :: (Cond.fieldLink RX8 158 "TheLiningsInItModel" "base" "I") :: (Cond.fieldLink RX8 72 "TheLiningsInItModel" "tell" "[I") :: (Cond.fieldLink RX8 161 "TheLiningsInItModel" "number" "I") :: (Cond.fieldLink RX8 38 "TheLiningsInItModel" "lacks" "[I") :: (Cond.fieldLink RX8 41 "TheLiningsInItModel" "slack" "[I") :: (Cond.fieldLink RX8 44 "TheLiningsInItModel" "cost" "[I") :: (Cond.fieldLink RX8 122 "TheLiningsInItModel" "at" "I") :: (Cond.methodLink RX8 171 yX8_stands) :: (Cond.instanceMethod yX8_stands) :: (Cond.selects RX8 yX8_stands yX8_stands) :: (Cond.initialized RX8) :: (Cond.code yX8_stands cX8_stands 4 (some .boolean)) :: (Cond.fieldLink RX8 66 "TheLiningsInItModel" "words" "[I") :: (Cond.methodLink RX8 168 yX8_wrong) :: (Cond.instanceMethod yX8_wrong) :: (Cond.selects RX8 yX8_wrong yX8_wrong) :: (Cond.code yX8_wrong cX8_wrong 2 (some .boolean)) :: (Cond.fieldLink RX8 149 "TheLiningsInItModel" "wrongAt" "I") :: (Cond.methodLink RX8 174 yX8_word) :: []
def wsX8_item_r2 : List Cond := (Cond.instanceMethod yX8_word) :: (Cond.selects RX8 yX8_word yX8_word) :: (Cond.code yX8_word cX8_word 6 (some .int)) :: (Cond.methodLink RX8 178 yX8_reads) :: (Cond.instanceMethod yX8_reads) :: (Cond.selects RX8 yX8_reads yX8_reads) :: (Cond.code yX8_reads cX8_reads 2 (some .boolean)) :: (Cond.methodLink RX8 164 yX8_isDigit) :: (Cond.instanceMethod yX8_isDigit) :: (Cond.selects RX8 yX8_isDigit yX8_isDigit) :: (Cond.code yX8_isDigit cX8_isDigit 1 (some .boolean)) :: (Cond.methodLink RX8 181 yX8_isSo) :: (Cond.instanceMethod yX8_isSo) :: (Cond.selects RX8 yX8_isSo yX8_isSo) :: (Cond.code yX8_isSo cX8_isSo 3 (some .boolean)) :: (Cond.fieldLink RX8 7 "TheLiningsInItModel" "teeth" "I") :: (Cond.methodLink RX8 138 yX8_isAsked) :: (Cond.instanceMethod yX8_isAsked) :: (Cond.selects RX8 yX8_isAsked yX8_isAsked) :: (Cond.code yX8_isAsked cX8_isAsked 3 (some .boolean)) :: (Cond.methodLink RX8 132 yX8_most) :: (Cond.instanceMethod yX8_most) :: (Cond.selects RX8 yX8_most yX8_most) :: (Cond.code yX8_most cX8_most 2 (some .int)) :: []
def wsX8_item_r3 : List Cond := (Cond.methodLink RX8 125 yX8_sews) :: (Cond.instanceMethod yX8_sews) :: (Cond.selects RX8 yX8_sews yX8_sews) :: (Cond.code yX8_sews cX8_sews 3 none) :: (Cond.methodLink RX8 111 yX8_addsPull) :: (Cond.instanceMethod yX8_addsPull) :: (Cond.selects RX8 yX8_addsPull yX8_addsPull) :: (Cond.code yX8_addsPull cX8_addsPull 4 (some .int)) :: (Cond.fieldLink RX8 29 "TheLiningsInItModel" "kind" "[I") :: (Cond.fieldLink RX8 32 "TheLiningsInItModel" "part" "[I") :: (Cond.fieldLink RX8 35 "TheLiningsInItModel" "takes" "[I") :: (Cond.methodLink RX8 145 yX8_tells) :: (Cond.instanceMethod yX8_tells) :: (Cond.selects RX8 yX8_tells yX8_tells) :: (Cond.code yX8_tells cX8_tells 3 none) :: (Cond.fieldLink RX8 115 "TheLiningsInItModel" "depth" "I") :: (Cond.fieldLink RX8 13 "TheLiningsInItModel" "seconds" "I") :: (Cond.fieldLink RX8 135 "TheLiningsInItModel" "hurry" "I") :: (Cond.fieldLink RX8 16 "TheLiningsInItModel" "gap" "I") :: []
def wsX8_item : List Cond := (.code yX8_item cX8_item 4 (some .boolean)) :: ((wsX8_item_r1 ++ (wsX8_item_r2 ++ wsX8_item_r3)) ++ wsX80)
def wsX8_carries : List Cond := (.code yX8_carries cX8_carries 7 (some .int)) :: []
def wsX8_all : List Cond := (.code yX8_all cX8_all 4 none) :: (.fieldLink RX8 29 "TheLiningsInItModel" "kind" "[I") :: (.fieldLink RX8 32 "TheLiningsInItModel" "part" "[I") :: (.fieldLink RX8 35 "TheLiningsInItModel" "takes" "[I") :: (.fieldLink RX8 38 "TheLiningsInItModel" "lacks" "[I") :: (.fieldLink RX8 41 "TheLiningsInItModel" "slack" "[I") :: (.fieldLink RX8 44 "TheLiningsInItModel" "cost" "[I") :: (.fieldLink RX8 90 "TheLiningsInItModel" "pulls" "I") :: (.fieldLink RX8 7 "TheLiningsInItModel" "teeth" "I") :: (.fieldLink RX8 122 "TheLiningsInItModel" "at" "I") :: (.fieldLink RX8 115 "TheLiningsInItModel" "depth" "I") :: (.fieldLink RX8 188 "TheLiningsInItModel" "torn" "I") :: (.fieldLink RX8 13 "TheLiningsInItModel" "seconds" "I") :: (.fieldLink RX8 135 "TheLiningsInItModel" "hurry" "I") :: (.fieldLink RX8 16 "TheLiningsInItModel" "gap" "I") :: (.fieldLink RX8 19 "TheLiningsInItModel" "seed" "I") :: (.methodLink RX8 184 yX8_carries) :: (.instanceMethod yX8_carries) :: (.selects RX8 yX8_carries yX8_carries) :: (.initialized RX8) :: (.code yX8_carries cX8_carries 7 (some .int)) :: wsX80
def wsX8_jacket_r1 : List Cond := (Cond.fieldLink RX8 75 "TheLiningsInItModel" "was" "[I") :: (Cond.fieldLink RX8 158 "TheLiningsInItModel" "base" "I") :: (Cond.fieldLink RX8 152 "TheLiningsInItModel" "place" "I") :: (Cond.fieldLink RX8 53 "TheLiningsInItModel" "size" "[I") :: (Cond.fieldLink RX8 155 "TheLiningsInItModel" "end" "I") :: (Cond.fieldLink RX8 22 "TheLiningsInItModel" "fault" "I") :: (Cond.fieldLink RX8 59 "TheLiningsInItModel" "cells" "[J") :: (Cond.fieldLink RX8 149 "TheLiningsInItModel" "wrongAt" "I") :: (Cond.methodLink RX8 191 yX8_wanted) :: (Cond.instanceMethod yX8_wanted) :: (Cond.selects RX8 yX8_wanted yX8_wanted) :: (Cond.initialized RX8) :: (Cond.code yX8_wanted cX8_wanted 2 (some .int)) :: (Cond.fieldLink RX8 47 "TheLiningsInItModel" "held" "[I") :: (Cond.methodLink RX8 93 yX8_isShelf) :: (Cond.instanceMethod yX8_isShelf) :: (Cond.selects RX8 yX8_isShelf yX8_isShelf) :: (Cond.code yX8_isShelf cX8_isShelf 2 (some .boolean)) :: (Cond.methodLink RX8 97 yX8_no) :: (Cond.instanceMethod yX8_no) :: (Cond.selects RX8 yX8_no yX8_no) :: (Cond.code yX8_no cX8_no 2 (some .int)) :: (Cond.fieldLink RX8 25 "TheLiningsInItModel" "refused" "[I") :: (Cond.methodLink RX8 194 yX8_all) :: []
def wsX8_jacket_r2 : List Cond := (Cond.instanceMethod yX8_all) :: (Cond.selects RX8 yX8_all yX8_all) :: (Cond.code yX8_all cX8_all 4 none) :: (Cond.fieldLink RX8 29 "TheLiningsInItModel" "kind" "[I") :: (Cond.fieldLink RX8 32 "TheLiningsInItModel" "part" "[I") :: (Cond.fieldLink RX8 35 "TheLiningsInItModel" "takes" "[I") :: (Cond.fieldLink RX8 38 "TheLiningsInItModel" "lacks" "[I") :: (Cond.fieldLink RX8 41 "TheLiningsInItModel" "slack" "[I") :: (Cond.fieldLink RX8 44 "TheLiningsInItModel" "cost" "[I") :: (Cond.fieldLink RX8 90 "TheLiningsInItModel" "pulls" "I") :: (Cond.fieldLink RX8 7 "TheLiningsInItModel" "teeth" "I") :: (Cond.fieldLink RX8 122 "TheLiningsInItModel" "at" "I") :: (Cond.fieldLink RX8 115 "TheLiningsInItModel" "depth" "I") :: (Cond.fieldLink RX8 188 "TheLiningsInItModel" "torn" "I") :: (Cond.fieldLink RX8 13 "TheLiningsInItModel" "seconds" "I") :: (Cond.fieldLink RX8 135 "TheLiningsInItModel" "hurry" "I") :: (Cond.fieldLink RX8 16 "TheLiningsInItModel" "gap" "I") :: (Cond.fieldLink RX8 19 "TheLiningsInItModel" "seed" "I") :: (Cond.methodLink RX8 184 yX8_carries) :: (Cond.instanceMethod yX8_carries) :: (Cond.selects RX8 yX8_carries yX8_carries) :: (Cond.code yX8_carries cX8_carries 7 (some .int)) :: (Cond.methodLink RX8 198 yX8_item) :: (Cond.instanceMethod yX8_item) :: []
def wsX8_jacket_r3 : List Cond := (Cond.selects RX8 yX8_item yX8_item) :: (Cond.code yX8_item cX8_item 4 (some .boolean)) :: (Cond.fieldLink RX8 69 "TheLiningsInItModel" "numbers" "[I") :: (Cond.fieldLink RX8 72 "TheLiningsInItModel" "tell" "[I") :: (Cond.fieldLink RX8 161 "TheLiningsInItModel" "number" "I") :: (Cond.methodLink RX8 171 yX8_stands) :: (Cond.instanceMethod yX8_stands) :: (Cond.selects RX8 yX8_stands yX8_stands) :: (Cond.code yX8_stands cX8_stands 4 (some .boolean)) :: (Cond.fieldLink RX8 66 "TheLiningsInItModel" "words" "[I") :: (Cond.methodLink RX8 168 yX8_wrong) :: (Cond.instanceMethod yX8_wrong) :: (Cond.selects RX8 yX8_wrong yX8_wrong) :: (Cond.code yX8_wrong cX8_wrong 2 (some .boolean)) :: (Cond.methodLink RX8 174 yX8_word) :: (Cond.instanceMethod yX8_word) :: (Cond.selects RX8 yX8_word yX8_word) :: (Cond.code yX8_word cX8_word 6 (some .int)) :: (Cond.methodLink RX8 178 yX8_reads) :: (Cond.instanceMethod yX8_reads) :: (Cond.selects RX8 yX8_reads yX8_reads) :: (Cond.code yX8_reads cX8_reads 2 (some .boolean)) :: (Cond.methodLink RX8 164 yX8_isDigit) :: (Cond.instanceMethod yX8_isDigit) :: []
def wsX8_jacket_r4 : List Cond := (Cond.selects RX8 yX8_isDigit yX8_isDigit) :: (Cond.code yX8_isDigit cX8_isDigit 1 (some .boolean)) :: (Cond.methodLink RX8 181 yX8_isSo) :: (Cond.instanceMethod yX8_isSo) :: (Cond.selects RX8 yX8_isSo yX8_isSo) :: (Cond.code yX8_isSo cX8_isSo 3 (some .boolean)) :: (Cond.methodLink RX8 138 yX8_isAsked) :: (Cond.instanceMethod yX8_isAsked) :: (Cond.selects RX8 yX8_isAsked yX8_isAsked) :: (Cond.code yX8_isAsked cX8_isAsked 3 (some .boolean)) :: (Cond.methodLink RX8 132 yX8_most) :: (Cond.instanceMethod yX8_most) :: (Cond.selects RX8 yX8_most yX8_most) :: (Cond.code yX8_most cX8_most 2 (some .int)) :: (Cond.methodLink RX8 125 yX8_sews) :: (Cond.instanceMethod yX8_sews) :: (Cond.selects RX8 yX8_sews yX8_sews) :: (Cond.code yX8_sews cX8_sews 3 none) :: (Cond.methodLink RX8 111 yX8_addsPull) :: (Cond.instanceMethod yX8_addsPull) :: (Cond.selects RX8 yX8_addsPull yX8_addsPull) :: (Cond.code yX8_addsPull cX8_addsPull 4 (some .int)) :: (Cond.methodLink RX8 145 yX8_tells) :: (Cond.instanceMethod yX8_tells) :: []
def wsX8_jacket_r5 : List Cond := (Cond.selects RX8 yX8_tells yX8_tells) :: (Cond.code yX8_tells cX8_tells 3 none) :: []
def wsX8_jacket : List Cond := (.code yX8_jacket cX8_jacket 5 (some .int)) :: ((wsX8_jacket_r1 ++ (wsX8_jacket_r2 ++ (wsX8_jacket_r3 ++ (wsX8_jacket_r4 ++ wsX8_jacket_r5)))) ++ wsX80)
def wsX8_image_r1 : List Cond := (Cond.fieldLink RX8 300 "TheLiningsInItModel" "isKept" "Z") :: (Cond.fieldLink RX8 78 "TheLiningsInItModel" "kept" "[I") :: (Cond.fieldLink RX8 90 "TheLiningsInItModel" "pulls" "I") :: (Cond.methodLink RX8 194 yX8_all) :: (Cond.instanceMethod yX8_all) :: (Cond.selects RX8 yX8_all yX8_all) :: (Cond.initialized RX8) :: (Cond.code yX8_all cX8_all 4 none) :: (Cond.fieldLink RX8 29 "TheLiningsInItModel" "kind" "[I") :: (Cond.fieldLink RX8 32 "TheLiningsInItModel" "part" "[I") :: (Cond.fieldLink RX8 35 "TheLiningsInItModel" "takes" "[I") :: (Cond.fieldLink RX8 38 "TheLiningsInItModel" "lacks" "[I") :: (Cond.fieldLink RX8 41 "TheLiningsInItModel" "slack" "[I") :: (Cond.fieldLink RX8 44 "TheLiningsInItModel" "cost" "[I") :: (Cond.fieldLink RX8 7 "TheLiningsInItModel" "teeth" "I") :: (Cond.fieldLink RX8 122 "TheLiningsInItModel" "at" "I") :: (Cond.fieldLink RX8 115 "TheLiningsInItModel" "depth" "I") :: (Cond.fieldLink RX8 188 "TheLiningsInItModel" "torn" "I") :: (Cond.fieldLink RX8 13 "TheLiningsInItModel" "seconds" "I") :: (Cond.fieldLink RX8 135 "TheLiningsInItModel" "hurry" "I") :: (Cond.fieldLink RX8 16 "TheLiningsInItModel" "gap" "I") :: (Cond.fieldLink RX8 19 "TheLiningsInItModel" "seed" "I") :: (Cond.methodLink RX8 184 yX8_carries) :: (Cond.instanceMethod yX8_carries) :: []
def wsX8_image_r2 : List Cond := (Cond.selects RX8 yX8_carries yX8_carries) :: (Cond.code yX8_carries cX8_carries 7 (some .int)) :: []
def wsX8_image : List Cond := (.code yX8_image cX8_image 1 (some .int)) :: ((wsX8_image_r1 ++ wsX8_image_r2) ++ wsX80)
def wsX8_restore_r1 : List Cond := (Cond.fieldLink RX8 300 "TheLiningsInItModel" "isKept" "Z") :: (Cond.fieldLink RX8 78 "TheLiningsInItModel" "kept" "[I") :: (Cond.fieldLink RX8 47 "TheLiningsInItModel" "held" "[I") :: (Cond.fieldLink RX8 56 "TheLiningsInItModel" "shown" "[I") :: (Cond.fieldLink RX8 90 "TheLiningsInItModel" "pulls" "I") :: (Cond.methodLink RX8 97 yX8_no) :: (Cond.instanceMethod yX8_no) :: (Cond.selects RX8 yX8_no yX8_no) :: (Cond.initialized RX8) :: (Cond.code yX8_no cX8_no 2 (some .int)) :: (Cond.fieldLink RX8 25 "TheLiningsInItModel" "refused" "[I") :: (Cond.methodLink RX8 194 yX8_all) :: (Cond.instanceMethod yX8_all) :: (Cond.selects RX8 yX8_all yX8_all) :: (Cond.code yX8_all cX8_all 4 none) :: (Cond.fieldLink RX8 29 "TheLiningsInItModel" "kind" "[I") :: (Cond.fieldLink RX8 32 "TheLiningsInItModel" "part" "[I") :: (Cond.fieldLink RX8 35 "TheLiningsInItModel" "takes" "[I") :: (Cond.fieldLink RX8 38 "TheLiningsInItModel" "lacks" "[I") :: (Cond.fieldLink RX8 41 "TheLiningsInItModel" "slack" "[I") :: (Cond.fieldLink RX8 44 "TheLiningsInItModel" "cost" "[I") :: (Cond.fieldLink RX8 7 "TheLiningsInItModel" "teeth" "I") :: (Cond.fieldLink RX8 122 "TheLiningsInItModel" "at" "I") :: (Cond.fieldLink RX8 115 "TheLiningsInItModel" "depth" "I") :: []
def wsX8_restore_r2 : List Cond := (Cond.fieldLink RX8 188 "TheLiningsInItModel" "torn" "I") :: (Cond.fieldLink RX8 13 "TheLiningsInItModel" "seconds" "I") :: (Cond.fieldLink RX8 135 "TheLiningsInItModel" "hurry" "I") :: (Cond.fieldLink RX8 16 "TheLiningsInItModel" "gap" "I") :: (Cond.fieldLink RX8 19 "TheLiningsInItModel" "seed" "I") :: (Cond.methodLink RX8 184 yX8_carries) :: (Cond.instanceMethod yX8_carries) :: (Cond.selects RX8 yX8_carries yX8_carries) :: (Cond.code yX8_carries cX8_carries 7 (some .int)) :: []
def wsX8_restore : List Cond := (.code yX8_restore cX8_restore 2 (some .int)) :: ((wsX8_restore_r1 ++ wsX8_restore_r2) ++ wsX80)
theorem dX8_word_0 : decode cX8_word 0 = .ok (.iconst 0, 1) := dq_3 dp_cX8_word rfl
theorem dX8_word_1 : decode cX8_word 1 = .ok (.istore_n 1, 1) := dq_60 dp_cX8_word rfl
theorem dX8_word_2 : decode cX8_word 2 = .ok (.aload_n 0, 1) := dq_42 dp_cX8_word rfl
theorem dX8_word_3 : decode cX8_word 3 = .ok (.getfield 152, 3) := dq_180 dp_cX8_word rfl
theorem dX8_word_6 : decode cX8_word 6 = .ok (.istore_n 2, 1) := dq_61 dp_cX8_word rfl
theorem dX8_word_7 : decode cX8_word 7 = .ok (.iconst 0, 1) := dq_3 dp_cX8_word rfl
theorem dX8_word_8 : decode cX8_word 8 = .ok (.istore_n 3, 1) := dq_62 dp_cX8_word rfl
theorem dX8_word_9 : decode cX8_word 9 = .ok (.iload_n 3, 1) := dq_29 dp_cX8_word rfl
theorem dX8_word_10 : decode cX8_word 10 = .ok (.bipush 10, 2) := dq_16 (v := 10) dp_cX8_word rfl rfl
theorem dX8_word_12 : decode cX8_word 12 = .ok (.if_icmp .ge 118, 3) := dq_162 (v := 118) dp_cX8_word rfl rfl
theorem dX8_word_15 : decode cX8_word 15 = .ok (.aload_n 0, 1) := dq_42 dp_cX8_word rfl
theorem dX8_word_16 : decode cX8_word 16 = .ok (.getfield 152, 3) := dq_180 dp_cX8_word rfl
theorem dX8_word_19 : decode cX8_word 19 = .ok (.istore 4, 2) := dq_54 dp_cX8_word rfl
theorem dX8_word_21 : decode cX8_word 21 = .ok (.iload_n 1, 1) := dq_27 dp_cX8_word rfl
theorem dX8_word_22 : decode cX8_word 22 = .ok (.istore 5, 2) := dq_54 dp_cX8_word rfl
theorem dX8_word_24 : decode cX8_word 24 = .ok (.aload_n 0, 1) := dq_42 dp_cX8_word rfl
theorem dX8_word_25 : decode cX8_word 25 = .ok (.getfield 66, 3) := dq_180 dp_cX8_word rfl
theorem dX8_word_28 : decode cX8_word 28 = .ok (.iload 5, 2) := dq_21 dp_cX8_word rfl
theorem dX8_word_30 : decode cX8_word 30 = .ok (.iaload, 1) := dq_46 dp_cX8_word rfl
theorem dX8_word_31 : decode cX8_word 31 = .ok (.ifCond .eq 44, 3) := dq_153 (v := 44) dp_cX8_word rfl rfl
theorem dX8_word_34 : decode cX8_word 34 = .ok (.iload 4, 2) := dq_21 dp_cX8_word rfl
theorem dX8_word_36 : decode cX8_word 36 = .ok (.aload_n 0, 1) := dq_42 dp_cX8_word rfl
theorem dX8_word_37 : decode cX8_word 37 = .ok (.getfield 155, 3) := dq_180 dp_cX8_word rfl
theorem dX8_word_40 : decode cX8_word 40 = .ok (.if_icmp .ge 35, 3) := dq_162 (v := 35) dp_cX8_word rfl rfl
theorem dX8_word_43 : decode cX8_word 43 = .ok (.aload_n 0, 1) := dq_42 dp_cX8_word rfl
theorem dX8_word_44 : decode cX8_word 44 = .ok (.getfield 59, 3) := dq_180 dp_cX8_word rfl
theorem dX8_word_47 : decode cX8_word 47 = .ok (.aload_n 0, 1) := dq_42 dp_cX8_word rfl
theorem dX8_word_48 : decode cX8_word 48 = .ok (.getfield 158, 3) := dq_180 dp_cX8_word rfl
theorem dX8_word_51 : decode cX8_word 51 = .ok (.iload 4, 2) := dq_21 dp_cX8_word rfl
theorem dX8_word_53 : decode cX8_word 53 = .ok (.iadd, 1) := dq_96 dp_cX8_word rfl
theorem dX8_word_54 : decode cX8_word 54 = .ok (.laload, 1) := dq_47 dp_cX8_word rfl
theorem dX8_word_55 : decode cX8_word 55 = .ok (.l2i, 1) := dq_136 dp_cX8_word rfl
theorem dX8_word_56 : decode cX8_word 56 = .ok (.aload_n 0, 1) := dq_42 dp_cX8_word rfl
theorem dX8_word_57 : decode cX8_word 57 = .ok (.getfield 66, 3) := dq_180 dp_cX8_word rfl
theorem dX8_word_60 : decode cX8_word 60 = .ok (.iload 5, 2) := dq_21 dp_cX8_word rfl
theorem dX8_word_62 : decode cX8_word 62 = .ok (.iaload, 1) := dq_46 dp_cX8_word rfl
theorem dX8_word_63 : decode cX8_word 63 = .ok (.if_icmp .ne 12, 3) := dq_160 (v := 12) dp_cX8_word rfl rfl
theorem dX8_word_66 : decode cX8_word 66 = .ok (.iinc 4 1, 3) := dq_132 (v := 1) dp_cX8_word rfl (by decide) rfl
theorem dX8_word_69 : decode cX8_word 69 = .ok (.iinc 5 1, 3) := dq_132 (v := 1) dp_cX8_word rfl (by decide) rfl
theorem dX8_word_72 : decode cX8_word 72 = .ok (.goto (-48), 3) := dq_167 (v := 65488) dp_cX8_word rfl rfl
theorem dX8_word_75 : decode cX8_word 75 = .ok (.aload_n 0, 1) := dq_42 dp_cX8_word rfl
theorem dX8_word_76 : decode cX8_word 76 = .ok (.getfield 66, 3) := dq_180 dp_cX8_word rfl
theorem dX8_word_79 : decode cX8_word 79 = .ok (.iload 5, 2) := dq_21 dp_cX8_word rfl
theorem dX8_word_81 : decode cX8_word 81 = .ok (.iaload, 1) := dq_46 dp_cX8_word rfl
theorem dX8_word_82 : decode cX8_word 82 = .ok (.ifCond .ne 11, 3) := dq_154 (v := 11) dp_cX8_word rfl rfl
theorem dX8_word_85 : decode cX8_word 85 = .ok (.aload_n 0, 1) := dq_42 dp_cX8_word rfl
theorem dX8_word_86 : decode cX8_word 86 = .ok (.iload 4, 2) := dq_21 dp_cX8_word rfl
theorem dX8_word_88 : decode cX8_word 88 = .ok (.putfield 152, 3) := dq_181 dp_cX8_word rfl
theorem dX8_word_91 : decode cX8_word 91 = .ok (.iload_n 3, 1) := dq_29 dp_cX8_word rfl
theorem dX8_word_92 : decode cX8_word 92 = .ok (.ireturn, 1) := dq_172 dp_cX8_word rfl
theorem dX8_word_93 : decode cX8_word 93 = .ok (.iload 4, 2) := dq_21 dp_cX8_word rfl
theorem dX8_word_95 : decode cX8_word 95 = .ok (.iload_n 2, 1) := dq_28 dp_cX8_word rfl
theorem dX8_word_96 : decode cX8_word 96 = .ok (.if_icmp .le 8, 3) := dq_164 (v := 8) dp_cX8_word rfl rfl
theorem dX8_word_99 : decode cX8_word 99 = .ok (.iload 4, 2) := dq_21 dp_cX8_word rfl
theorem dX8_word_101 : decode cX8_word 101 = .ok (.goto 4, 3) := dq_167 (v := 4) dp_cX8_word rfl rfl
theorem dX8_word_104 : decode cX8_word 104 = .ok (.iload_n 2, 1) := dq_28 dp_cX8_word rfl
theorem dX8_word_105 : decode cX8_word 105 = .ok (.istore_n 2, 1) := dq_61 dp_cX8_word rfl
theorem dX8_word_106 : decode cX8_word 106 = .ok (.aload_n 0, 1) := dq_42 dp_cX8_word rfl
theorem dX8_word_107 : decode cX8_word 107 = .ok (.getfield 66, 3) := dq_180 dp_cX8_word rfl
theorem dX8_word_110 : decode cX8_word 110 = .ok (.iload_n 1, 1) := dq_27 dp_cX8_word rfl
theorem dX8_word_111 : decode cX8_word 111 = .ok (.iaload, 1) := dq_46 dp_cX8_word rfl
theorem dX8_word_112 : decode cX8_word 112 = .ok (.ifCond .eq 9, 3) := dq_153 (v := 9) dp_cX8_word rfl rfl
theorem dX8_word_115 : decode cX8_word 115 = .ok (.iinc 1 1, 3) := dq_132 (v := 1) dp_cX8_word rfl (by decide) rfl
theorem dX8_word_118 : decode cX8_word 118 = .ok (.goto (-12), 3) := dq_167 (v := 65524) dp_cX8_word rfl rfl
theorem dX8_word_121 : decode cX8_word 121 = .ok (.iinc 1 1, 3) := dq_132 (v := 1) dp_cX8_word rfl (by decide) rfl
theorem dX8_word_124 : decode cX8_word 124 = .ok (.iinc 3 1, 3) := dq_132 (v := 1) dp_cX8_word rfl (by decide) rfl
theorem dX8_word_127 : decode cX8_word 127 = .ok (.goto (-118), 3) := dq_167 (v := 65418) dp_cX8_word rfl rfl
theorem dX8_word_130 : decode cX8_word 130 = .ok (.aload_n 0, 1) := dq_42 dp_cX8_word rfl
theorem dX8_word_131 : decode cX8_word 131 = .ok (.iload_n 2, 1) := dq_28 dp_cX8_word rfl
theorem dX8_word_132 : decode cX8_word 132 = .ok (.putfield 149, 3) := dq_181 dp_cX8_word rfl
theorem dX8_word_135 : decode cX8_word 135 = .ok (.iconst (-1), 1) := dq_2 dp_cX8_word rfl
theorem dX8_word_136 : decode cX8_word 136 = .ok (.ireturn, 1) := dq_172 dp_cX8_word rfl
set_option maxRecDepth 20000 in
theorem ggX8_item_X8_stands : GoodIn wsX8_item wsX8_stands := goodIn_r _ [17, 18, 2, 4, 5, 6, 68, 69, 70, 71, 72, 73, 74, 75, 76, 77, 78, 79, 80, 81, 82, 83, 84, 85, 86, 87, 88, 89, 90, 91, 92, 93, 94, 95, 96, 97, 98, 99, 100, 101, 102, 103, 104, 105] rfl (by decide +kernel)
set_option maxRecDepth 20000 in
theorem gX8_item_X8_stands : GoodIn wsX8_item (wsV RX8 171 RX8 yX8_stands wsX8_stands) := goodIn_app (goodIn_r _ [13, 14, 15, 16] rfl (by decide +kernel)) ggX8_item_X8_stands
set_option maxRecDepth 20000 in
theorem ggX8_item_X8_wrong : GoodIn wsX8_item wsX8_wrong := goodIn_r _ [22, 23, 68, 69, 70, 71, 72, 73, 74, 75, 76, 77, 78, 79, 80, 81, 82, 83, 84, 85, 86, 87, 88, 89, 90, 91, 92, 93, 94, 95, 96, 97, 98, 99, 100, 101, 102, 103, 104, 105] rfl (by decide +kernel)
set_option maxRecDepth 20000 in
theorem gX8_item_X8_wrong : GoodIn wsX8_item (wsV RX8 168 RX8 yX8_wrong wsX8_wrong) := goodIn_app (goodIn_r _ [19, 20, 21, 16] rfl (by decide +kernel)) ggX8_item_X8_wrong
set_option maxRecDepth 20000 in
theorem ggX8_item_X8_word : GoodIn wsX8_item wsX8_word := goodIn_r _ [27, 2, 18, 4, 5, 6, 23, 68, 69, 70, 71, 72, 73, 74, 75, 76, 77, 78, 79, 80, 81, 82, 83, 84, 85, 86, 87, 88, 89, 90, 91, 92, 93, 94, 95, 96, 97, 98, 99, 100, 101, 102, 103, 104, 105] rfl (by decide +kernel)
set_option maxRecDepth 20000 in
theorem gX8_item_X8_word : GoodIn wsX8_item (wsV RX8 174 RX8 yX8_word wsX8_word) := goodIn_app (goodIn_r _ [24, 25, 26, 16] rfl (by decide +kernel)) ggX8_item_X8_word
set_option maxRecDepth 20000 in
theorem ggX8_item_X8_reads : GoodIn wsX8_item wsX8_reads := goodIn_r _ [31, 8, 2, 5, 6, 32, 33, 34, 16, 35, 4, 19, 20, 21, 22, 23, 68, 69, 70, 71, 72, 73, 74, 75, 76, 77, 78, 79, 80, 81, 82, 83, 84, 85, 86, 87, 88, 89, 90, 91, 92, 93, 94, 95, 96, 97, 98, 99, 100, 101, 102, 103, 104, 105] rfl (by decide +kernel)
set_option maxRecDepth 20000 in
theorem gX8_item_X8_reads : GoodIn wsX8_item (wsV RX8 178 RX8 yX8_reads wsX8_reads) := goodIn_app (goodIn_r _ [28, 29, 30, 16] rfl (by decide +kernel)) ggX8_item_X8_reads
set_option maxRecDepth 20000 in
theorem ggX8_item_X8_isSo : GoodIn wsX8_item wsX8_isSo := goodIn_r _ [39, 8, 40, 41, 42, 43, 16, 44, 45, 46, 47, 48, 68, 69, 70, 71, 72, 73, 74, 75, 76, 77, 78, 79, 80, 81, 82, 83, 84, 85, 86, 87, 88, 89, 90, 91, 92, 93, 94, 95, 96, 97, 98, 99, 100, 101, 102, 103, 104, 105] rfl (by decide +kernel)
set_option maxRecDepth 20000 in
theorem gX8_item_X8_isSo : GoodIn wsX8_item (wsV RX8 181 RX8 yX8_isSo wsX8_isSo) := goodIn_app (goodIn_r _ [36, 37, 38, 16] rfl (by decide +kernel)) ggX8_item_X8_isSo
set_option maxRecDepth 20000 in
theorem ggX8_item_X8_sews : GoodIn wsX8_item wsX8_sews := goodIn_r _ [52, 40, 12, 9, 10, 68, 69, 70, 71, 72, 73, 74, 75, 76, 77, 78, 79, 80, 81, 82, 83, 84, 85, 86, 87, 88, 89, 90, 91, 92, 93, 94, 95, 96, 97, 98, 99, 100, 101, 102, 103, 104, 105] rfl (by decide +kernel)
set_option maxRecDepth 20000 in
theorem gX8_item_X8_sews : GoodIn wsX8_item (wsV RX8 125 RX8 yX8_sews wsX8_sews) := goodIn_app (goodIn_r _ [49, 50, 51, 16] rfl (by decide +kernel)) ggX8_item_X8_sews
set_option maxRecDepth 20000 in
theorem ggX8_item_X8_addsPull : GoodIn wsX8_item wsX8_addsPull := goodIn_r _ [56, 57, 1, 58, 59, 68, 69, 70, 71, 72, 73, 74, 75, 76, 77, 78, 79, 80, 81, 82, 83, 84, 85, 86, 87, 88, 89, 90, 91, 92, 93, 94, 95, 96, 97, 98, 99, 100, 101, 102, 103, 104, 105] rfl (by decide +kernel)
set_option maxRecDepth 20000 in
theorem gX8_item_X8_addsPull : GoodIn wsX8_item (wsV RX8 111 RX8 yX8_addsPull wsX8_addsPull) := goodIn_app (goodIn_r _ [53, 54, 55, 16] rfl (by decide +kernel)) ggX8_item_X8_addsPull
set_option maxRecDepth 20000 in
theorem ggX8_item_X8_tells : GoodIn wsX8_item wsX8_tells := goodIn_r _ [63, 64, 65, 66, 67, 12, 11, 68, 69, 70, 71, 72, 73, 74, 75, 76, 77, 78, 79, 80, 81, 82, 83, 84, 85, 86, 87, 88, 89, 90, 91, 92, 93, 94, 95, 96, 97, 98, 99, 100, 101, 102, 103, 104, 105] rfl (by decide +kernel)
set_option maxRecDepth 20000 in
theorem gX8_item_X8_tells : GoodIn wsX8_item (wsV RX8 145 RX8 yX8_tells wsX8_tells) := goodIn_app (goodIn_r _ [60, 61, 62, 16] rfl (by decide +kernel)) ggX8_item_X8_tells
theorem dX8_item_0 : decode cX8_item 0 = .ok (.aload_n 0, 1) := dq_42 dp_cX8_item rfl
theorem dX8_item_1 : decode cX8_item 1 = .ok (.iconst 3, 1) := dq_6 dp_cX8_item rfl
theorem dX8_item_2 : decode cX8_item 2 = .ok (.invokevirtual 171, 3) := dq_182 dp_cX8_item rfl
theorem dX8_item_5 : decode cX8_item 5 = .ok (.ifCond .eq 21, 3) := dq_153 (v := 21) dp_cX8_item rfl rfl
theorem dX8_item_8 : decode cX8_item 8 = .ok (.aload_n 0, 1) := dq_42 dp_cX8_item rfl
theorem dX8_item_9 : decode cX8_item 9 = .ok (.getfield 90, 3) := dq_180 dp_cX8_item rfl
theorem dX8_item_12 : decode cX8_item 12 = .ok (.bipush 8, 2) := dq_16 (v := 8) dp_cX8_item rfl rfl
theorem dX8_item_14 : decode cX8_item 14 = .ok (.if_icmp .ne 12, 3) := dq_160 (v := 12) dp_cX8_item rfl rfl
theorem dX8_item_17 : decode cX8_item 17 = .ok (.aload_n 0, 1) := dq_42 dp_cX8_item rfl
theorem dX8_item_18 : decode cX8_item 18 = .ok (.aload_n 0, 1) := dq_42 dp_cX8_item rfl
theorem dX8_item_19 : decode cX8_item 19 = .ok (.getfield 152, 3) := dq_180 dp_cX8_item rfl
theorem dX8_item_22 : decode cX8_item 22 = .ok (.invokevirtual 168, 3) := dq_182 dp_cX8_item rfl
theorem dX8_item_25 : decode cX8_item 25 = .ok (.ireturn, 1) := dq_172 dp_cX8_item rfl
theorem dX8_item_26 : decode cX8_item 26 = .ok (.aload_n 0, 1) := dq_42 dp_cX8_item rfl
theorem dX8_item_27 : decode cX8_item 27 = .ok (.invokevirtual 174, 3) := dq_182 dp_cX8_item rfl
theorem dX8_item_30 : decode cX8_item 30 = .ok (.istore_n 1, 1) := dq_60 dp_cX8_item rfl
theorem dX8_item_31 : decode cX8_item 31 = .ok (.iload_n 1, 1) := dq_27 dp_cX8_item rfl
theorem dX8_item_32 : decode cX8_item 32 = .ok (.iconst (-1), 1) := dq_2 dp_cX8_item rfl
theorem dX8_item_33 : decode cX8_item 33 = .ok (.if_icmp .ne 5, 3) := dq_160 (v := 5) dp_cX8_item rfl rfl
theorem dX8_item_36 : decode cX8_item 36 = .ok (.iconst 0, 1) := dq_3 dp_cX8_item rfl
theorem dX8_item_37 : decode cX8_item 37 = .ok (.ireturn, 1) := dq_172 dp_cX8_item rfl
theorem dX8_item_38 : decode cX8_item 38 = .ok (.iconst 0, 1) := dq_3 dp_cX8_item rfl
theorem dX8_item_39 : decode cX8_item 39 = .ok (.istore_n 2, 1) := dq_61 dp_cX8_item rfl
theorem dX8_item_40 : decode cX8_item 40 = .ok (.iload_n 2, 1) := dq_28 dp_cX8_item rfl
theorem dX8_item_41 : decode cX8_item 41 = .ok (.aload_n 0, 1) := dq_42 dp_cX8_item rfl
theorem dX8_item_42 : decode cX8_item 42 = .ok (.getfield 69, 3) := dq_180 dp_cX8_item rfl
theorem dX8_item_45 : decode cX8_item 45 = .ok (.iload_n 1, 1) := dq_27 dp_cX8_item rfl
theorem dX8_item_46 : decode cX8_item 46 = .ok (.iaload, 1) := dq_46 dp_cX8_item rfl
theorem dX8_item_47 : decode cX8_item 47 = .ok (.if_icmp .ge 102, 3) := dq_162 (v := 102) dp_cX8_item rfl rfl
theorem dX8_item_50 : decode cX8_item 50 = .ok (.iload_n 2, 1) := dq_28 dp_cX8_item rfl
theorem dX8_item_51 : decode cX8_item 51 = .ok (.ifCond .le 53, 3) := dq_158 (v := 53) dp_cX8_item rfl rfl
theorem dX8_item_54 : decode cX8_item 54 = .ok (.aload_n 0, 1) := dq_42 dp_cX8_item rfl
theorem dX8_item_55 : decode cX8_item 55 = .ok (.getfield 152, 3) := dq_180 dp_cX8_item rfl
theorem dX8_item_58 : decode cX8_item 58 = .ok (.aload_n 0, 1) := dq_42 dp_cX8_item rfl
theorem dX8_item_59 : decode cX8_item 59 = .ok (.getfield 155, 3) := dq_180 dp_cX8_item rfl
theorem dX8_item_62 : decode cX8_item 62 = .ok (.if_icmp .ge 23, 3) := dq_162 (v := 23) dp_cX8_item rfl rfl
theorem dX8_item_65 : decode cX8_item 65 = .ok (.aload_n 0, 1) := dq_42 dp_cX8_item rfl
theorem dX8_item_66 : decode cX8_item 66 = .ok (.getfield 59, 3) := dq_180 dp_cX8_item rfl
theorem dX8_item_69 : decode cX8_item 69 = .ok (.aload_n 0, 1) := dq_42 dp_cX8_item rfl
theorem dX8_item_70 : decode cX8_item 70 = .ok (.getfield 158, 3) := dq_180 dp_cX8_item rfl
theorem dX8_item_73 : decode cX8_item 73 = .ok (.aload_n 0, 1) := dq_42 dp_cX8_item rfl
theorem dX8_item_74 : decode cX8_item 74 = .ok (.getfield 152, 3) := dq_180 dp_cX8_item rfl
theorem dX8_item_77 : decode cX8_item 77 = .ok (.iadd, 1) := dq_96 dp_cX8_item rfl
theorem dX8_item_78 : decode cX8_item 78 = .ok (.laload, 1) := dq_47 dp_cX8_item rfl
theorem dX8_item_79 : decode cX8_item 79 = .ok (.l2i, 1) := dq_136 dp_cX8_item rfl
theorem dX8_item_80 : decode cX8_item 80 = .ok (.bipush 32, 2) := dq_16 (v := 32) dp_cX8_item rfl rfl
theorem dX8_item_82 : decode cX8_item 82 = .ok (.if_icmp .eq 12, 3) := dq_159 (v := 12) dp_cX8_item rfl rfl
theorem dX8_item_85 : decode cX8_item 85 = .ok (.aload_n 0, 1) := dq_42 dp_cX8_item rfl
theorem dX8_item_86 : decode cX8_item 86 = .ok (.aload_n 0, 1) := dq_42 dp_cX8_item rfl
theorem dX8_item_87 : decode cX8_item 87 = .ok (.getfield 152, 3) := dq_180 dp_cX8_item rfl
theorem dX8_item_90 : decode cX8_item 90 = .ok (.invokevirtual 168, 3) := dq_182 dp_cX8_item rfl
theorem dX8_item_93 : decode cX8_item 93 = .ok (.ireturn, 1) := dq_172 dp_cX8_item rfl
theorem dX8_item_94 : decode cX8_item 94 = .ok (.aload_n 0, 1) := dq_42 dp_cX8_item rfl
theorem dX8_item_95 : decode cX8_item 95 = .ok (.dup, 1) := dq_89 dp_cX8_item rfl
theorem dX8_item_96 : decode cX8_item 96 = .ok (.getfield 152, 3) := dq_180 dp_cX8_item rfl
theorem dX8_item_99 : decode cX8_item 99 = .ok (.iconst 1, 1) := dq_4 dp_cX8_item rfl
theorem dX8_item_100 : decode cX8_item 100 = .ok (.iadd, 1) := dq_96 dp_cX8_item rfl
theorem dX8_item_101 : decode cX8_item 101 = .ok (.putfield 152, 3) := dq_181 dp_cX8_item rfl
theorem dX8_item_104 : decode cX8_item 104 = .ok (.aload_n 0, 1) := dq_42 dp_cX8_item rfl
theorem dX8_item_105 : decode cX8_item 105 = .ok (.getfield 152, 3) := dq_180 dp_cX8_item rfl
theorem dX8_item_108 : decode cX8_item 108 = .ok (.istore_n 3, 1) := dq_62 dp_cX8_item rfl
theorem dX8_item_109 : decode cX8_item 109 = .ok (.aload_n 0, 1) := dq_42 dp_cX8_item rfl
theorem dX8_item_110 : decode cX8_item 110 = .ok (.invokevirtual 178, 3) := dq_182 dp_cX8_item rfl
theorem dX8_item_113 : decode cX8_item 113 = .ok (.ifCond .ne 5, 3) := dq_154 (v := 5) dp_cX8_item rfl rfl
theorem dX8_item_116 : decode cX8_item 116 = .ok (.iconst 0, 1) := dq_3 dp_cX8_item rfl
theorem dX8_item_117 : decode cX8_item 117 = .ok (.ireturn, 1) := dq_172 dp_cX8_item rfl
theorem dX8_item_118 : decode cX8_item 118 = .ok (.aload_n 0, 1) := dq_42 dp_cX8_item rfl
theorem dX8_item_119 : decode cX8_item 119 = .ok (.iload_n 1, 1) := dq_27 dp_cX8_item rfl
theorem dX8_item_120 : decode cX8_item 120 = .ok (.iload_n 2, 1) := dq_28 dp_cX8_item rfl
theorem dX8_item_121 : decode cX8_item 121 = .ok (.invokevirtual 181, 3) := dq_182 dp_cX8_item rfl
theorem dX8_item_124 : decode cX8_item 124 = .ok (.ifCond .ne 9, 3) := dq_154 (v := 9) dp_cX8_item rfl rfl
theorem dX8_item_127 : decode cX8_item 127 = .ok (.aload_n 0, 1) := dq_42 dp_cX8_item rfl
theorem dX8_item_128 : decode cX8_item 128 = .ok (.iload_n 3, 1) := dq_29 dp_cX8_item rfl
theorem dX8_item_129 : decode cX8_item 129 = .ok (.invokevirtual 168, 3) := dq_182 dp_cX8_item rfl
theorem dX8_item_132 : decode cX8_item 132 = .ok (.ireturn, 1) := dq_172 dp_cX8_item rfl
theorem dX8_item_133 : decode cX8_item 133 = .ok (.aload_n 0, 1) := dq_42 dp_cX8_item rfl
theorem dX8_item_134 : decode cX8_item 134 = .ok (.getfield 72, 3) := dq_180 dp_cX8_item rfl
theorem dX8_item_137 : decode cX8_item 137 = .ok (.iload_n 2, 1) := dq_28 dp_cX8_item rfl
theorem dX8_item_138 : decode cX8_item 138 = .ok (.aload_n 0, 1) := dq_42 dp_cX8_item rfl
theorem dX8_item_139 : decode cX8_item 139 = .ok (.getfield 161, 3) := dq_180 dp_cX8_item rfl
theorem dX8_item_142 : decode cX8_item 142 = .ok (.iastore, 1) := dq_79 dp_cX8_item rfl
theorem dX8_item_143 : decode cX8_item 143 = .ok (.iinc 2 1, 3) := dq_132 (v := 1) dp_cX8_item rfl (by decide) rfl
theorem dX8_item_146 : decode cX8_item 146 = .ok (.goto (-106), 3) := dq_167 (v := 65430) dp_cX8_item rfl rfl
theorem dX8_item_149 : decode cX8_item 149 = .ok (.iload_n 1, 1) := dq_27 dp_cX8_item rfl
theorem dX8_item_150 : decode cX8_item 150 = .ok (.tableswitch 161 0 9 #[54, 67, 82, 102, 161, 161, 161, 161, 128, 148], 54) := by decide +kernel
theorem dX8_item_204 : decode cX8_item 204 = .ok (.aload_n 0, 1) := dq_42 dp_cX8_item rfl
theorem dX8_item_205 : decode cX8_item 205 = .ok (.aload_n 0, 1) := dq_42 dp_cX8_item rfl
theorem dX8_item_206 : decode cX8_item 206 = .ok (.getfield 72, 3) := dq_180 dp_cX8_item rfl
theorem dX8_item_209 : decode cX8_item 209 = .ok (.iconst 0, 1) := dq_3 dp_cX8_item rfl
theorem dX8_item_210 : decode cX8_item 210 = .ok (.iaload, 1) := dq_46 dp_cX8_item rfl
theorem dX8_item_211 : decode cX8_item 211 = .ok (.invokevirtual 125, 3) := dq_182 dp_cX8_item rfl
theorem dX8_item_214 : decode cX8_item 214 = .ok (.goto 110, 3) := dq_167 (v := 110) dp_cX8_item rfl rfl
theorem dX8_item_217 : decode cX8_item 217 = .ok (.aload_n 0, 1) := dq_42 dp_cX8_item rfl
theorem dX8_item_218 : decode cX8_item 218 = .ok (.getfield 38, 3) := dq_180 dp_cX8_item rfl
theorem dX8_item_221 : decode cX8_item 221 = .ok (.aload_n 0, 1) := dq_42 dp_cX8_item rfl
theorem dX8_item_222 : decode cX8_item 222 = .ok (.getfield 72, 3) := dq_180 dp_cX8_item rfl
theorem dX8_item_225 : decode cX8_item 225 = .ok (.iconst 0, 1) := dq_3 dp_cX8_item rfl
theorem dX8_item_226 : decode cX8_item 226 = .ok (.iaload, 1) := dq_46 dp_cX8_item rfl
theorem dX8_item_227 : decode cX8_item 227 = .ok (.iconst 1, 1) := dq_4 dp_cX8_item rfl
theorem dX8_item_228 : decode cX8_item 228 = .ok (.iastore, 1) := dq_79 dp_cX8_item rfl
theorem dX8_item_229 : decode cX8_item 229 = .ok (.goto 95, 3) := dq_167 (v := 95) dp_cX8_item rfl rfl
theorem dX8_item_232 : decode cX8_item 232 = .ok (.aload_n 0, 1) := dq_42 dp_cX8_item rfl
theorem dX8_item_233 : decode cX8_item 233 = .ok (.getfield 41, 3) := dq_180 dp_cX8_item rfl
theorem dX8_item_236 : decode cX8_item 236 = .ok (.aload_n 0, 1) := dq_42 dp_cX8_item rfl
theorem dX8_item_237 : decode cX8_item 237 = .ok (.getfield 72, 3) := dq_180 dp_cX8_item rfl
theorem dX8_item_240 : decode cX8_item 240 = .ok (.iconst 0, 1) := dq_3 dp_cX8_item rfl
theorem dX8_item_241 : decode cX8_item 241 = .ok (.iaload, 1) := dq_46 dp_cX8_item rfl
theorem dX8_item_242 : decode cX8_item 242 = .ok (.aload_n 0, 1) := dq_42 dp_cX8_item rfl
theorem dX8_item_243 : decode cX8_item 243 = .ok (.getfield 72, 3) := dq_180 dp_cX8_item rfl
theorem dX8_item_246 : decode cX8_item 246 = .ok (.iconst 1, 1) := dq_4 dp_cX8_item rfl
theorem dX8_item_247 : decode cX8_item 247 = .ok (.iaload, 1) := dq_46 dp_cX8_item rfl
theorem dX8_item_248 : decode cX8_item 248 = .ok (.iastore, 1) := dq_79 dp_cX8_item rfl
theorem dX8_item_249 : decode cX8_item 249 = .ok (.goto 75, 3) := dq_167 (v := 75) dp_cX8_item rfl rfl
theorem dX8_item_252 : decode cX8_item 252 = .ok (.aload_n 0, 1) := dq_42 dp_cX8_item rfl
theorem dX8_item_253 : decode cX8_item 253 = .ok (.aload_n 0, 1) := dq_42 dp_cX8_item rfl
theorem dX8_item_254 : decode cX8_item 254 = .ok (.getfield 72, 3) := dq_180 dp_cX8_item rfl
theorem dX8_item_257 : decode cX8_item 257 = .ok (.iconst 0, 1) := dq_3 dp_cX8_item rfl
theorem dX8_item_258 : decode cX8_item 258 = .ok (.iaload, 1) := dq_46 dp_cX8_item rfl
theorem dX8_item_259 : decode cX8_item 259 = .ok (.aload_n 0, 1) := dq_42 dp_cX8_item rfl
theorem dX8_item_260 : decode cX8_item 260 = .ok (.getfield 72, 3) := dq_180 dp_cX8_item rfl
theorem dX8_item_263 : decode cX8_item 263 = .ok (.iconst 1, 1) := dq_4 dp_cX8_item rfl
theorem dX8_item_264 : decode cX8_item 264 = .ok (.iaload, 1) := dq_46 dp_cX8_item rfl
theorem dX8_item_265 : decode cX8_item 265 = .ok (.aload_n 0, 1) := dq_42 dp_cX8_item rfl
theorem dX8_item_266 : decode cX8_item 266 = .ok (.getfield 72, 3) := dq_180 dp_cX8_item rfl
theorem dX8_item_269 : decode cX8_item 269 = .ok (.iconst 2, 1) := dq_5 dp_cX8_item rfl
theorem dX8_item_270 : decode cX8_item 270 = .ok (.iaload, 1) := dq_46 dp_cX8_item rfl
theorem dX8_item_271 : decode cX8_item 271 = .ok (.invokevirtual 111, 3) := dq_182 dp_cX8_item rfl
theorem dX8_item_274 : decode cX8_item 274 = .ok (.pop, 1) := dq_87 dp_cX8_item rfl
theorem dX8_item_275 : decode cX8_item 275 = .ok (.goto 49, 3) := dq_167 (v := 49) dp_cX8_item rfl rfl
theorem dX8_item_278 : decode cX8_item 278 = .ok (.aload_n 0, 1) := dq_42 dp_cX8_item rfl
theorem dX8_item_279 : decode cX8_item 279 = .ok (.getfield 44, 3) := dq_180 dp_cX8_item rfl
theorem dX8_item_282 : decode cX8_item 282 = .ok (.aload_n 0, 1) := dq_42 dp_cX8_item rfl
theorem dX8_item_283 : decode cX8_item 283 = .ok (.getfield 72, 3) := dq_180 dp_cX8_item rfl
theorem dX8_item_286 : decode cX8_item 286 = .ok (.iconst 0, 1) := dq_3 dp_cX8_item rfl
theorem dX8_item_287 : decode cX8_item 287 = .ok (.iaload, 1) := dq_46 dp_cX8_item rfl
theorem dX8_item_288 : decode cX8_item 288 = .ok (.aload_n 0, 1) := dq_42 dp_cX8_item rfl
theorem dX8_item_289 : decode cX8_item 289 = .ok (.getfield 72, 3) := dq_180 dp_cX8_item rfl
theorem dX8_item_292 : decode cX8_item 292 = .ok (.iconst 1, 1) := dq_4 dp_cX8_item rfl
theorem dX8_item_293 : decode cX8_item 293 = .ok (.iaload, 1) := dq_46 dp_cX8_item rfl
theorem dX8_item_294 : decode cX8_item 294 = .ok (.iastore, 1) := dq_79 dp_cX8_item rfl
theorem dX8_item_295 : decode cX8_item 295 = .ok (.goto 29, 3) := dq_167 (v := 29) dp_cX8_item rfl rfl
theorem dX8_item_298 : decode cX8_item 298 = .ok (.aload_n 0, 1) := dq_42 dp_cX8_item rfl
theorem dX8_item_299 : decode cX8_item 299 = .ok (.aload_n 0, 1) := dq_42 dp_cX8_item rfl
theorem dX8_item_300 : decode cX8_item 300 = .ok (.getfield 72, 3) := dq_180 dp_cX8_item rfl
theorem dX8_item_303 : decode cX8_item 303 = .ok (.iconst 0, 1) := dq_3 dp_cX8_item rfl
theorem dX8_item_304 : decode cX8_item 304 = .ok (.iaload, 1) := dq_46 dp_cX8_item rfl
theorem dX8_item_305 : decode cX8_item 305 = .ok (.putfield 122, 3) := dq_181 dp_cX8_item rfl
theorem dX8_item_308 : decode cX8_item 308 = .ok (.goto 16, 3) := dq_167 (v := 16) dp_cX8_item rfl rfl
theorem dX8_item_311 : decode cX8_item 311 = .ok (.aload_n 0, 1) := dq_42 dp_cX8_item rfl
theorem dX8_item_312 : decode cX8_item 312 = .ok (.iload_n 1, 1) := dq_27 dp_cX8_item rfl
theorem dX8_item_313 : decode cX8_item 313 = .ok (.iconst 4, 1) := dq_7 dp_cX8_item rfl
theorem dX8_item_314 : decode cX8_item 314 = .ok (.isub, 1) := dq_100 dp_cX8_item rfl
theorem dX8_item_315 : decode cX8_item 315 = .ok (.aload_n 0, 1) := dq_42 dp_cX8_item rfl
theorem dX8_item_316 : decode cX8_item 316 = .ok (.getfield 72, 3) := dq_180 dp_cX8_item rfl
theorem dX8_item_319 : decode cX8_item 319 = .ok (.iconst 0, 1) := dq_3 dp_cX8_item rfl
theorem dX8_item_320 : decode cX8_item 320 = .ok (.iaload, 1) := dq_46 dp_cX8_item rfl
theorem dX8_item_321 : decode cX8_item 321 = .ok (.invokevirtual 145, 3) := dq_182 dp_cX8_item rfl
theorem dX8_item_324 : decode cX8_item 324 = .ok (.iconst 1, 1) := dq_4 dp_cX8_item rfl
theorem dX8_item_325 : decode cX8_item 325 = .ok (.ireturn, 1) := dq_172 dp_cX8_item rfl
theorem dX8_carries_0 : decode cX8_carries 0 = .ok (.iconst 0, 1) := dq_3 dp_cX8_carries rfl
theorem dX8_carries_1 : decode cX8_carries 1 = .ok (.istore 6, 2) := dq_54 dp_cX8_carries rfl
theorem dX8_carries_3 : decode cX8_carries 3 = .ok (.iload 6, 2) := dq_21 dp_cX8_carries rfl
theorem dX8_carries_5 : decode cX8_carries 5 = .ok (.iload_n 2, 1) := dq_28 dp_cX8_carries rfl
theorem dX8_carries_6 : decode cX8_carries 6 = .ok (.if_icmp .ge 39, 3) := dq_162 (v := 39) dp_cX8_carries rfl rfl
theorem dX8_carries_9 : decode cX8_carries 9 = .ok (.iload 5, 2) := dq_21 dp_cX8_carries rfl
theorem dX8_carries_11 : decode cX8_carries 11 = .ok (.ifCond .eq 17, 3) := dq_153 (v := 17) dp_cX8_carries rfl rfl
theorem dX8_carries_14 : decode cX8_carries 14 = .ok (.aload_n 1, 1) := dq_43 dp_cX8_carries rfl
theorem dX8_carries_15 : decode cX8_carries 15 = .ok (.iload 6, 2) := dq_21 dp_cX8_carries rfl
theorem dX8_carries_17 : decode cX8_carries 17 = .ok (.aload_n 3, 1) := dq_45 dp_cX8_carries rfl
theorem dX8_carries_18 : decode cX8_carries 18 = .ok (.iload 4, 2) := dq_21 dp_cX8_carries rfl
theorem dX8_carries_20 : decode cX8_carries 20 = .ok (.iload 6, 2) := dq_21 dp_cX8_carries rfl
theorem dX8_carries_22 : decode cX8_carries 22 = .ok (.iadd, 1) := dq_96 dp_cX8_carries rfl
theorem dX8_carries_23 : decode cX8_carries 23 = .ok (.iaload, 1) := dq_46 dp_cX8_carries rfl
theorem dX8_carries_24 : decode cX8_carries 24 = .ok (.iastore, 1) := dq_79 dp_cX8_carries rfl
theorem dX8_carries_25 : decode cX8_carries 25 = .ok (.goto 14, 3) := dq_167 (v := 14) dp_cX8_carries rfl rfl
theorem dX8_carries_28 : decode cX8_carries 28 = .ok (.aload_n 3, 1) := dq_45 dp_cX8_carries rfl
theorem dX8_carries_29 : decode cX8_carries 29 = .ok (.iload 4, 2) := dq_21 dp_cX8_carries rfl
theorem dX8_carries_31 : decode cX8_carries 31 = .ok (.iload 6, 2) := dq_21 dp_cX8_carries rfl
theorem dX8_carries_33 : decode cX8_carries 33 = .ok (.iadd, 1) := dq_96 dp_cX8_carries rfl
theorem dX8_carries_34 : decode cX8_carries 34 = .ok (.aload_n 1, 1) := dq_43 dp_cX8_carries rfl
theorem dX8_carries_35 : decode cX8_carries 35 = .ok (.iload 6, 2) := dq_21 dp_cX8_carries rfl
theorem dX8_carries_37 : decode cX8_carries 37 = .ok (.iaload, 1) := dq_46 dp_cX8_carries rfl
theorem dX8_carries_38 : decode cX8_carries 38 = .ok (.iastore, 1) := dq_79 dp_cX8_carries rfl
theorem dX8_carries_39 : decode cX8_carries 39 = .ok (.iinc 6 1, 3) := dq_132 (v := 1) dp_cX8_carries rfl (by decide) rfl
theorem dX8_carries_42 : decode cX8_carries 42 = .ok (.goto (-39), 3) := dq_167 (v := 65497) dp_cX8_carries rfl rfl
theorem dX8_carries_45 : decode cX8_carries 45 = .ok (.iload 4, 2) := dq_21 dp_cX8_carries rfl
theorem dX8_carries_47 : decode cX8_carries 47 = .ok (.iload_n 2, 1) := dq_28 dp_cX8_carries rfl
theorem dX8_carries_48 : decode cX8_carries 48 = .ok (.iadd, 1) := dq_96 dp_cX8_carries rfl
theorem dX8_carries_49 : decode cX8_carries 49 = .ok (.ireturn, 1) := dq_172 dp_cX8_carries rfl
set_option maxRecDepth 20000 in
theorem ggX8_all_X8_carries : GoodIn wsX8_all wsX8_carries := goodIn_r _ [20] rfl (by decide +kernel)
set_option maxRecDepth 20000 in
theorem gX8_all_X8_carries : GoodIn wsX8_all (wsV RX8 184 RX8 yX8_carries wsX8_carries) := goodIn_app (goodIn_r _ [16, 17, 18, 19] rfl (by decide +kernel)) ggX8_all_X8_carries
theorem dX8_all_0 : decode cX8_all 0 = .ok (.aload_n 0, 1) := dq_42 dp_cX8_all rfl
theorem dX8_all_1 : decode cX8_all 1 = .ok (.aload_n 0, 1) := dq_42 dp_cX8_all rfl
theorem dX8_all_2 : decode cX8_all 2 = .ok (.getfield 29, 3) := dq_180 dp_cX8_all rfl
theorem dX8_all_5 : decode cX8_all 5 = .ok (.bipush 8, 2) := dq_16 (v := 8) dp_cX8_all rfl rfl
theorem dX8_all_7 : decode cX8_all 7 = .ok (.aload_n 1, 1) := dq_43 dp_cX8_all rfl
theorem dX8_all_8 : decode cX8_all 8 = .ok (.iconst 0, 1) := dq_3 dp_cX8_all rfl
theorem dX8_all_9 : decode cX8_all 9 = .ok (.iload_n 2, 1) := dq_28 dp_cX8_all rfl
theorem dX8_all_10 : decode cX8_all 10 = .ok (.invokevirtual 184, 3) := dq_182 dp_cX8_all rfl
theorem dX8_all_13 : decode cX8_all 13 = .ok (.istore_n 3, 1) := dq_62 dp_cX8_all rfl
theorem dX8_all_14 : decode cX8_all 14 = .ok (.aload_n 0, 1) := dq_42 dp_cX8_all rfl
theorem dX8_all_15 : decode cX8_all 15 = .ok (.aload_n 0, 1) := dq_42 dp_cX8_all rfl
theorem dX8_all_16 : decode cX8_all 16 = .ok (.getfield 32, 3) := dq_180 dp_cX8_all rfl
theorem dX8_all_19 : decode cX8_all 19 = .ok (.bipush 8, 2) := dq_16 (v := 8) dp_cX8_all rfl rfl
theorem dX8_all_21 : decode cX8_all 21 = .ok (.aload_n 1, 1) := dq_43 dp_cX8_all rfl
theorem dX8_all_22 : decode cX8_all 22 = .ok (.iload_n 3, 1) := dq_29 dp_cX8_all rfl
theorem dX8_all_23 : decode cX8_all 23 = .ok (.iload_n 2, 1) := dq_28 dp_cX8_all rfl
theorem dX8_all_24 : decode cX8_all 24 = .ok (.invokevirtual 184, 3) := dq_182 dp_cX8_all rfl
theorem dX8_all_27 : decode cX8_all 27 = .ok (.istore_n 3, 1) := dq_62 dp_cX8_all rfl
theorem dX8_all_28 : decode cX8_all 28 = .ok (.aload_n 0, 1) := dq_42 dp_cX8_all rfl
theorem dX8_all_29 : decode cX8_all 29 = .ok (.aload_n 0, 1) := dq_42 dp_cX8_all rfl
theorem dX8_all_30 : decode cX8_all 30 = .ok (.getfield 35, 3) := dq_180 dp_cX8_all rfl
theorem dX8_all_33 : decode cX8_all 33 = .ok (.bipush 8, 2) := dq_16 (v := 8) dp_cX8_all rfl rfl
theorem dX8_all_35 : decode cX8_all 35 = .ok (.aload_n 1, 1) := dq_43 dp_cX8_all rfl
theorem dX8_all_36 : decode cX8_all 36 = .ok (.iload_n 3, 1) := dq_29 dp_cX8_all rfl
theorem dX8_all_37 : decode cX8_all 37 = .ok (.iload_n 2, 1) := dq_28 dp_cX8_all rfl
theorem dX8_all_38 : decode cX8_all 38 = .ok (.invokevirtual 184, 3) := dq_182 dp_cX8_all rfl
theorem dX8_all_41 : decode cX8_all 41 = .ok (.istore_n 3, 1) := dq_62 dp_cX8_all rfl
theorem dX8_all_42 : decode cX8_all 42 = .ok (.aload_n 0, 1) := dq_42 dp_cX8_all rfl
theorem dX8_all_43 : decode cX8_all 43 = .ok (.aload_n 0, 1) := dq_42 dp_cX8_all rfl
theorem dX8_all_44 : decode cX8_all 44 = .ok (.getfield 38, 3) := dq_180 dp_cX8_all rfl
theorem dX8_all_47 : decode cX8_all 47 = .ok (.bipush 40, 2) := dq_16 (v := 40) dp_cX8_all rfl rfl
theorem dX8_all_49 : decode cX8_all 49 = .ok (.aload_n 1, 1) := dq_43 dp_cX8_all rfl
theorem dX8_all_50 : decode cX8_all 50 = .ok (.iload_n 3, 1) := dq_29 dp_cX8_all rfl
theorem dX8_all_51 : decode cX8_all 51 = .ok (.iload_n 2, 1) := dq_28 dp_cX8_all rfl
theorem dX8_all_52 : decode cX8_all 52 = .ok (.invokevirtual 184, 3) := dq_182 dp_cX8_all rfl
theorem dX8_all_55 : decode cX8_all 55 = .ok (.istore_n 3, 1) := dq_62 dp_cX8_all rfl
theorem dX8_all_56 : decode cX8_all 56 = .ok (.aload_n 0, 1) := dq_42 dp_cX8_all rfl
theorem dX8_all_57 : decode cX8_all 57 = .ok (.aload_n 0, 1) := dq_42 dp_cX8_all rfl
theorem dX8_all_58 : decode cX8_all 58 = .ok (.getfield 41, 3) := dq_180 dp_cX8_all rfl
theorem dX8_all_61 : decode cX8_all 61 = .ok (.bipush 40, 2) := dq_16 (v := 40) dp_cX8_all rfl rfl
theorem dX8_all_63 : decode cX8_all 63 = .ok (.aload_n 1, 1) := dq_43 dp_cX8_all rfl
theorem dX8_all_64 : decode cX8_all 64 = .ok (.iload_n 3, 1) := dq_29 dp_cX8_all rfl
theorem dX8_all_65 : decode cX8_all 65 = .ok (.iload_n 2, 1) := dq_28 dp_cX8_all rfl
theorem dX8_all_66 : decode cX8_all 66 = .ok (.invokevirtual 184, 3) := dq_182 dp_cX8_all rfl
theorem dX8_all_69 : decode cX8_all 69 = .ok (.istore_n 3, 1) := dq_62 dp_cX8_all rfl
theorem dX8_all_70 : decode cX8_all 70 = .ok (.aload_n 0, 1) := dq_42 dp_cX8_all rfl
theorem dX8_all_71 : decode cX8_all 71 = .ok (.aload_n 0, 1) := dq_42 dp_cX8_all rfl
theorem dX8_all_72 : decode cX8_all 72 = .ok (.getfield 44, 3) := dq_180 dp_cX8_all rfl
theorem dX8_all_75 : decode cX8_all 75 = .ok (.iconst 3, 1) := dq_6 dp_cX8_all rfl
theorem dX8_all_76 : decode cX8_all 76 = .ok (.aload_n 1, 1) := dq_43 dp_cX8_all rfl
theorem dX8_all_77 : decode cX8_all 77 = .ok (.iload_n 3, 1) := dq_29 dp_cX8_all rfl
theorem dX8_all_78 : decode cX8_all 78 = .ok (.iload_n 2, 1) := dq_28 dp_cX8_all rfl
theorem dX8_all_79 : decode cX8_all 79 = .ok (.invokevirtual 184, 3) := dq_182 dp_cX8_all rfl
theorem dX8_all_82 : decode cX8_all 82 = .ok (.istore_n 3, 1) := dq_62 dp_cX8_all rfl
theorem dX8_all_83 : decode cX8_all 83 = .ok (.iload_n 2, 1) := dq_28 dp_cX8_all rfl
theorem dX8_all_84 : decode cX8_all 84 = .ok (.ifCond .eq 88, 3) := dq_153 (v := 88) dp_cX8_all rfl rfl
theorem dX8_all_87 : decode cX8_all 87 = .ok (.aload_n 0, 1) := dq_42 dp_cX8_all rfl
theorem dX8_all_88 : decode cX8_all 88 = .ok (.aload_n 1, 1) := dq_43 dp_cX8_all rfl
theorem dX8_all_89 : decode cX8_all 89 = .ok (.iload_n 3, 1) := dq_29 dp_cX8_all rfl
theorem dX8_all_90 : decode cX8_all 90 = .ok (.iaload, 1) := dq_46 dp_cX8_all rfl
theorem dX8_all_91 : decode cX8_all 91 = .ok (.putfield 90, 3) := dq_181 dp_cX8_all rfl
theorem dX8_all_94 : decode cX8_all 94 = .ok (.aload_n 0, 1) := dq_42 dp_cX8_all rfl
theorem dX8_all_95 : decode cX8_all 95 = .ok (.aload_n 1, 1) := dq_43 dp_cX8_all rfl
theorem dX8_all_96 : decode cX8_all 96 = .ok (.iload_n 3, 1) := dq_29 dp_cX8_all rfl
theorem dX8_all_97 : decode cX8_all 97 = .ok (.iconst 1, 1) := dq_4 dp_cX8_all rfl
theorem dX8_all_98 : decode cX8_all 98 = .ok (.iadd, 1) := dq_96 dp_cX8_all rfl
theorem dX8_all_99 : decode cX8_all 99 = .ok (.iaload, 1) := dq_46 dp_cX8_all rfl
theorem dX8_all_100 : decode cX8_all 100 = .ok (.putfield 7, 3) := dq_181 dp_cX8_all rfl
theorem dX8_all_103 : decode cX8_all 103 = .ok (.aload_n 0, 1) := dq_42 dp_cX8_all rfl
theorem dX8_all_104 : decode cX8_all 104 = .ok (.aload_n 1, 1) := dq_43 dp_cX8_all rfl
theorem dX8_all_105 : decode cX8_all 105 = .ok (.iload_n 3, 1) := dq_29 dp_cX8_all rfl
theorem dX8_all_106 : decode cX8_all 106 = .ok (.iconst 2, 1) := dq_5 dp_cX8_all rfl
theorem dX8_all_107 : decode cX8_all 107 = .ok (.iadd, 1) := dq_96 dp_cX8_all rfl
theorem dX8_all_108 : decode cX8_all 108 = .ok (.iaload, 1) := dq_46 dp_cX8_all rfl
theorem dX8_all_109 : decode cX8_all 109 = .ok (.putfield 122, 3) := dq_181 dp_cX8_all rfl
theorem dX8_all_112 : decode cX8_all 112 = .ok (.aload_n 0, 1) := dq_42 dp_cX8_all rfl
theorem dX8_all_113 : decode cX8_all 113 = .ok (.aload_n 1, 1) := dq_43 dp_cX8_all rfl
theorem dX8_all_114 : decode cX8_all 114 = .ok (.iload_n 3, 1) := dq_29 dp_cX8_all rfl
theorem dX8_all_115 : decode cX8_all 115 = .ok (.iconst 3, 1) := dq_6 dp_cX8_all rfl
theorem dX8_all_116 : decode cX8_all 116 = .ok (.iadd, 1) := dq_96 dp_cX8_all rfl
theorem dX8_all_117 : decode cX8_all 117 = .ok (.iaload, 1) := dq_46 dp_cX8_all rfl
theorem dX8_all_118 : decode cX8_all 118 = .ok (.putfield 115, 3) := dq_181 dp_cX8_all rfl
theorem dX8_all_121 : decode cX8_all 121 = .ok (.aload_n 0, 1) := dq_42 dp_cX8_all rfl
theorem dX8_all_122 : decode cX8_all 122 = .ok (.aload_n 1, 1) := dq_43 dp_cX8_all rfl
theorem dX8_all_123 : decode cX8_all 123 = .ok (.iload_n 3, 1) := dq_29 dp_cX8_all rfl
theorem dX8_all_124 : decode cX8_all 124 = .ok (.iconst 4, 1) := dq_7 dp_cX8_all rfl
theorem dX8_all_125 : decode cX8_all 125 = .ok (.iadd, 1) := dq_96 dp_cX8_all rfl
theorem dX8_all_126 : decode cX8_all 126 = .ok (.iaload, 1) := dq_46 dp_cX8_all rfl
theorem dX8_all_127 : decode cX8_all 127 = .ok (.putfield 188, 3) := dq_181 dp_cX8_all rfl
theorem dX8_all_130 : decode cX8_all 130 = .ok (.aload_n 0, 1) := dq_42 dp_cX8_all rfl
theorem dX8_all_131 : decode cX8_all 131 = .ok (.aload_n 1, 1) := dq_43 dp_cX8_all rfl
theorem dX8_all_132 : decode cX8_all 132 = .ok (.iload_n 3, 1) := dq_29 dp_cX8_all rfl
theorem dX8_all_133 : decode cX8_all 133 = .ok (.iconst 5, 1) := dq_8 dp_cX8_all rfl
theorem dX8_all_134 : decode cX8_all 134 = .ok (.iadd, 1) := dq_96 dp_cX8_all rfl
theorem dX8_all_135 : decode cX8_all 135 = .ok (.iaload, 1) := dq_46 dp_cX8_all rfl
theorem dX8_all_136 : decode cX8_all 136 = .ok (.putfield 13, 3) := dq_181 dp_cX8_all rfl
theorem dX8_all_139 : decode cX8_all 139 = .ok (.aload_n 0, 1) := dq_42 dp_cX8_all rfl
theorem dX8_all_140 : decode cX8_all 140 = .ok (.aload_n 1, 1) := dq_43 dp_cX8_all rfl
theorem dX8_all_141 : decode cX8_all 141 = .ok (.iload_n 3, 1) := dq_29 dp_cX8_all rfl
theorem dX8_all_142 : decode cX8_all 142 = .ok (.bipush 6, 2) := dq_16 (v := 6) dp_cX8_all rfl rfl
theorem dX8_all_144 : decode cX8_all 144 = .ok (.iadd, 1) := dq_96 dp_cX8_all rfl
theorem dX8_all_145 : decode cX8_all 145 = .ok (.iaload, 1) := dq_46 dp_cX8_all rfl
theorem dX8_all_146 : decode cX8_all 146 = .ok (.putfield 135, 3) := dq_181 dp_cX8_all rfl
theorem dX8_all_149 : decode cX8_all 149 = .ok (.aload_n 0, 1) := dq_42 dp_cX8_all rfl
theorem dX8_all_150 : decode cX8_all 150 = .ok (.aload_n 1, 1) := dq_43 dp_cX8_all rfl
theorem dX8_all_151 : decode cX8_all 151 = .ok (.iload_n 3, 1) := dq_29 dp_cX8_all rfl
theorem dX8_all_152 : decode cX8_all 152 = .ok (.bipush 7, 2) := dq_16 (v := 7) dp_cX8_all rfl rfl
theorem dX8_all_154 : decode cX8_all 154 = .ok (.iadd, 1) := dq_96 dp_cX8_all rfl
theorem dX8_all_155 : decode cX8_all 155 = .ok (.iaload, 1) := dq_46 dp_cX8_all rfl
theorem dX8_all_156 : decode cX8_all 156 = .ok (.putfield 16, 3) := dq_181 dp_cX8_all rfl
theorem dX8_all_159 : decode cX8_all 159 = .ok (.aload_n 0, 1) := dq_42 dp_cX8_all rfl
theorem dX8_all_160 : decode cX8_all 160 = .ok (.aload_n 1, 1) := dq_43 dp_cX8_all rfl
theorem dX8_all_161 : decode cX8_all 161 = .ok (.iload_n 3, 1) := dq_29 dp_cX8_all rfl
theorem dX8_all_162 : decode cX8_all 162 = .ok (.bipush 8, 2) := dq_16 (v := 8) dp_cX8_all rfl rfl
theorem dX8_all_164 : decode cX8_all 164 = .ok (.iadd, 1) := dq_96 dp_cX8_all rfl
theorem dX8_all_165 : decode cX8_all 165 = .ok (.iaload, 1) := dq_46 dp_cX8_all rfl
theorem dX8_all_166 : decode cX8_all 166 = .ok (.putfield 19, 3) := dq_181 dp_cX8_all rfl
theorem dX8_all_169 : decode cX8_all 169 = .ok (.goto 85, 3) := dq_167 (v := 85) dp_cX8_all rfl rfl
theorem dX8_all_172 : decode cX8_all 172 = .ok (.aload_n 1, 1) := dq_43 dp_cX8_all rfl
theorem dX8_all_173 : decode cX8_all 173 = .ok (.iload_n 3, 1) := dq_29 dp_cX8_all rfl
theorem dX8_all_174 : decode cX8_all 174 = .ok (.aload_n 0, 1) := dq_42 dp_cX8_all rfl
theorem dX8_all_175 : decode cX8_all 175 = .ok (.getfield 90, 3) := dq_180 dp_cX8_all rfl
theorem dX8_all_178 : decode cX8_all 178 = .ok (.iastore, 1) := dq_79 dp_cX8_all rfl
theorem dX8_all_179 : decode cX8_all 179 = .ok (.aload_n 1, 1) := dq_43 dp_cX8_all rfl
theorem dX8_all_180 : decode cX8_all 180 = .ok (.iload_n 3, 1) := dq_29 dp_cX8_all rfl
theorem dX8_all_181 : decode cX8_all 181 = .ok (.iconst 1, 1) := dq_4 dp_cX8_all rfl
theorem dX8_all_182 : decode cX8_all 182 = .ok (.iadd, 1) := dq_96 dp_cX8_all rfl
theorem dX8_all_183 : decode cX8_all 183 = .ok (.aload_n 0, 1) := dq_42 dp_cX8_all rfl
theorem dX8_all_184 : decode cX8_all 184 = .ok (.getfield 7, 3) := dq_180 dp_cX8_all rfl
theorem dX8_all_187 : decode cX8_all 187 = .ok (.iastore, 1) := dq_79 dp_cX8_all rfl
theorem dX8_all_188 : decode cX8_all 188 = .ok (.aload_n 1, 1) := dq_43 dp_cX8_all rfl
theorem dX8_all_189 : decode cX8_all 189 = .ok (.iload_n 3, 1) := dq_29 dp_cX8_all rfl
theorem dX8_all_190 : decode cX8_all 190 = .ok (.iconst 2, 1) := dq_5 dp_cX8_all rfl
theorem dX8_all_191 : decode cX8_all 191 = .ok (.iadd, 1) := dq_96 dp_cX8_all rfl
theorem dX8_all_192 : decode cX8_all 192 = .ok (.aload_n 0, 1) := dq_42 dp_cX8_all rfl
theorem dX8_all_193 : decode cX8_all 193 = .ok (.getfield 122, 3) := dq_180 dp_cX8_all rfl
theorem dX8_all_196 : decode cX8_all 196 = .ok (.iastore, 1) := dq_79 dp_cX8_all rfl
theorem dX8_all_197 : decode cX8_all 197 = .ok (.aload_n 1, 1) := dq_43 dp_cX8_all rfl
theorem dX8_all_198 : decode cX8_all 198 = .ok (.iload_n 3, 1) := dq_29 dp_cX8_all rfl
theorem dX8_all_199 : decode cX8_all 199 = .ok (.iconst 3, 1) := dq_6 dp_cX8_all rfl
theorem dX8_all_200 : decode cX8_all 200 = .ok (.iadd, 1) := dq_96 dp_cX8_all rfl
theorem dX8_all_201 : decode cX8_all 201 = .ok (.aload_n 0, 1) := dq_42 dp_cX8_all rfl
theorem dX8_all_202 : decode cX8_all 202 = .ok (.getfield 115, 3) := dq_180 dp_cX8_all rfl
theorem dX8_all_205 : decode cX8_all 205 = .ok (.iastore, 1) := dq_79 dp_cX8_all rfl
theorem dX8_all_206 : decode cX8_all 206 = .ok (.aload_n 1, 1) := dq_43 dp_cX8_all rfl
theorem dX8_all_207 : decode cX8_all 207 = .ok (.iload_n 3, 1) := dq_29 dp_cX8_all rfl
theorem dX8_all_208 : decode cX8_all 208 = .ok (.iconst 4, 1) := dq_7 dp_cX8_all rfl
theorem dX8_all_209 : decode cX8_all 209 = .ok (.iadd, 1) := dq_96 dp_cX8_all rfl
theorem dX8_all_210 : decode cX8_all 210 = .ok (.aload_n 0, 1) := dq_42 dp_cX8_all rfl
theorem dX8_all_211 : decode cX8_all 211 = .ok (.getfield 188, 3) := dq_180 dp_cX8_all rfl
theorem dX8_all_214 : decode cX8_all 214 = .ok (.iastore, 1) := dq_79 dp_cX8_all rfl
theorem dX8_all_215 : decode cX8_all 215 = .ok (.aload_n 1, 1) := dq_43 dp_cX8_all rfl
theorem dX8_all_216 : decode cX8_all 216 = .ok (.iload_n 3, 1) := dq_29 dp_cX8_all rfl
theorem dX8_all_217 : decode cX8_all 217 = .ok (.iconst 5, 1) := dq_8 dp_cX8_all rfl
theorem dX8_all_218 : decode cX8_all 218 = .ok (.iadd, 1) := dq_96 dp_cX8_all rfl
theorem dX8_all_219 : decode cX8_all 219 = .ok (.aload_n 0, 1) := dq_42 dp_cX8_all rfl
theorem dX8_all_220 : decode cX8_all 220 = .ok (.getfield 13, 3) := dq_180 dp_cX8_all rfl
theorem dX8_all_223 : decode cX8_all 223 = .ok (.iastore, 1) := dq_79 dp_cX8_all rfl
theorem dX8_all_224 : decode cX8_all 224 = .ok (.aload_n 1, 1) := dq_43 dp_cX8_all rfl
theorem dX8_all_225 : decode cX8_all 225 = .ok (.iload_n 3, 1) := dq_29 dp_cX8_all rfl
theorem dX8_all_226 : decode cX8_all 226 = .ok (.bipush 6, 2) := dq_16 (v := 6) dp_cX8_all rfl rfl
theorem dX8_all_228 : decode cX8_all 228 = .ok (.iadd, 1) := dq_96 dp_cX8_all rfl
theorem dX8_all_229 : decode cX8_all 229 = .ok (.aload_n 0, 1) := dq_42 dp_cX8_all rfl
theorem dX8_all_230 : decode cX8_all 230 = .ok (.getfield 135, 3) := dq_180 dp_cX8_all rfl
theorem dX8_all_233 : decode cX8_all 233 = .ok (.iastore, 1) := dq_79 dp_cX8_all rfl
theorem dX8_all_234 : decode cX8_all 234 = .ok (.aload_n 1, 1) := dq_43 dp_cX8_all rfl
theorem dX8_all_235 : decode cX8_all 235 = .ok (.iload_n 3, 1) := dq_29 dp_cX8_all rfl
theorem dX8_all_236 : decode cX8_all 236 = .ok (.bipush 7, 2) := dq_16 (v := 7) dp_cX8_all rfl rfl
theorem dX8_all_238 : decode cX8_all 238 = .ok (.iadd, 1) := dq_96 dp_cX8_all rfl
theorem dX8_all_239 : decode cX8_all 239 = .ok (.aload_n 0, 1) := dq_42 dp_cX8_all rfl
theorem dX8_all_240 : decode cX8_all 240 = .ok (.getfield 16, 3) := dq_180 dp_cX8_all rfl
theorem dX8_all_243 : decode cX8_all 243 = .ok (.iastore, 1) := dq_79 dp_cX8_all rfl
theorem dX8_all_244 : decode cX8_all 244 = .ok (.aload_n 1, 1) := dq_43 dp_cX8_all rfl
theorem dX8_all_245 : decode cX8_all 245 = .ok (.iload_n 3, 1) := dq_29 dp_cX8_all rfl
theorem dX8_all_246 : decode cX8_all 246 = .ok (.bipush 8, 2) := dq_16 (v := 8) dp_cX8_all rfl rfl
theorem dX8_all_248 : decode cX8_all 248 = .ok (.iadd, 1) := dq_96 dp_cX8_all rfl
theorem dX8_all_249 : decode cX8_all 249 = .ok (.aload_n 0, 1) := dq_42 dp_cX8_all rfl
theorem dX8_all_250 : decode cX8_all 250 = .ok (.getfield 19, 3) := dq_180 dp_cX8_all rfl
theorem dX8_all_253 : decode cX8_all 253 = .ok (.iastore, 1) := dq_79 dp_cX8_all rfl
theorem dX8_all_254 : decode cX8_all 254 = .ok (.return_, 1) := dq_177 dp_cX8_all rfl
set_option maxRecDepth 20000 in
theorem ggX8_jacket_X8_wanted : GoodIn wsX8_jacket wsX8_wanted := goodIn_r _ [13, 14, 15, 16, 17, 12, 18, 99, 100, 101, 102, 103, 104, 105, 106, 107, 108, 109, 110, 111, 112, 113, 114, 115, 116, 117, 118, 119, 120, 121, 122, 123, 124, 125, 126, 127, 128, 129, 130, 131, 132, 133, 134, 135, 136] rfl (by decide +kernel)
set_option maxRecDepth 20000 in
theorem gX8_jacket_X8_wanted : GoodIn wsX8_jacket (wsV RX8 191 RX8 yX8_wanted wsX8_wanted) := goodIn_app (goodIn_r _ [9, 10, 11, 12] rfl (by decide +kernel)) ggX8_jacket_X8_wanted
set_option maxRecDepth 20000 in
theorem ggX8_jacket_X8_no : GoodIn wsX8_jacket wsX8_no := goodIn_r _ [22, 23, 99, 100, 101, 102, 103, 104, 105, 106, 107, 108, 109, 110, 111, 112, 113, 114, 115, 116, 117, 118, 119, 120, 121, 122, 123, 124, 125, 126, 127, 128, 129, 130, 131, 132, 133, 134, 135, 136] rfl (by decide +kernel)
set_option maxRecDepth 20000 in
theorem gX8_jacket_X8_no : GoodIn wsX8_jacket (wsV RX8 97 RX8 yX8_no wsX8_no) := goodIn_app (goodIn_r _ [19, 20, 21, 12] rfl (by decide +kernel)) ggX8_jacket_X8_no
set_option maxRecDepth 20000 in
theorem ggX8_jacket_X8_all : GoodIn wsX8_jacket wsX8_all := goodIn_r _ [27, 28, 29, 30, 31, 32, 33, 34, 35, 36, 37, 38, 39, 40, 41, 42, 43, 44, 45, 12, 46, 99, 100, 101, 102, 103, 104, 105, 106, 107, 108, 109, 110, 111, 112, 113, 114, 115, 116, 117, 118, 119, 120, 121, 122, 123, 124, 125, 126, 127, 128, 129, 130, 131, 132, 133, 134, 135, 136] rfl (by decide +kernel)
set_option maxRecDepth 20000 in
theorem gX8_jacket_X8_all : GoodIn wsX8_jacket (wsV RX8 194 RX8 yX8_all wsX8_all) := goodIn_app (goodIn_r _ [24, 25, 26, 12] rfl (by decide +kernel)) ggX8_jacket_X8_all
set_option maxRecDepth 20000 in
theorem ggX8_jacket_X8_item : GoodIn wsX8_jacket wsX8_item := goodIn_r _ [50, 34, 3, 51, 5, 7, 2, 52, 53, 31, 32, 33, 36, 54, 55, 56, 12, 57, 58, 59, 60, 61, 62, 8, 63, 64, 65, 66, 67, 68, 69, 70, 71, 72, 73, 74, 75, 76, 77, 78, 35, 79, 80, 81, 82, 83, 84, 85, 86, 87, 88, 89, 90, 91, 92, 93, 94, 28, 29, 30, 95, 96, 97, 98, 37, 39, 40, 41, 99, 100, 101, 102, 103, 104, 105, 106, 107, 108, 109, 110, 111, 112, 113, 114, 115, 116, 117, 118, 119, 120, 121, 122, 123, 124, 125, 126, 127, 128, 129, 130, 131, 132, 133, 134, 135, 136] rfl (by decide +kernel)
set_option maxRecDepth 20000 in
theorem gX8_jacket_X8_item : GoodIn wsX8_jacket (wsV RX8 198 RX8 yX8_item wsX8_item) := goodIn_app (goodIn_r _ [47, 48, 49, 12] rfl (by decide +kernel)) ggX8_jacket_X8_item
set_option maxRecDepth 20000 in
theorem ggX8_jacket_X8_wrong : GoodIn wsX8_jacket wsX8_wrong := goodIn_r _ [62, 8, 99, 100, 101, 102, 103, 104, 105, 106, 107, 108, 109, 110, 111, 112, 113, 114, 115, 116, 117, 118, 119, 120, 121, 122, 123, 124, 125, 126, 127, 128, 129, 130, 131, 132, 133, 134, 135, 136] rfl (by decide +kernel)
set_option maxRecDepth 20000 in
theorem gX8_jacket_X8_wrong : GoodIn wsX8_jacket (wsV RX8 168 RX8 yX8_wrong wsX8_wrong) := goodIn_app (goodIn_r _ [59, 60, 61, 12] rfl (by decide +kernel)) ggX8_jacket_X8_wrong
theorem dX8_jacket_0 : decode cX8_jacket 0 = .ok (.aload_n 0, 1) := dq_42 dp_cX8_jacket rfl
theorem dX8_jacket_1 : decode cX8_jacket 1 = .ok (.iload_n 1, 1) := dq_27 dp_cX8_jacket rfl
theorem dX8_jacket_2 : decode cX8_jacket 2 = .ok (.invokevirtual 191, 3) := dq_182 dp_cX8_jacket rfl
theorem dX8_jacket_5 : decode cX8_jacket 5 = .ok (.istore_n 2, 1) := dq_61 dp_cX8_jacket rfl
theorem dX8_jacket_6 : decode cX8_jacket 6 = .ok (.iload_n 2, 1) := dq_28 dp_cX8_jacket rfl
theorem dX8_jacket_7 : decode cX8_jacket 7 = .ok (.ifCond .eq 9, 3) := dq_153 (v := 9) dp_cX8_jacket rfl rfl
theorem dX8_jacket_10 : decode cX8_jacket 10 = .ok (.aload_n 0, 1) := dq_42 dp_cX8_jacket rfl
theorem dX8_jacket_11 : decode cX8_jacket 11 = .ok (.iload_n 2, 1) := dq_28 dp_cX8_jacket rfl
theorem dX8_jacket_12 : decode cX8_jacket 12 = .ok (.invokevirtual 97, 3) := dq_182 dp_cX8_jacket rfl
theorem dX8_jacket_15 : decode cX8_jacket 15 = .ok (.ireturn, 1) := dq_172 dp_cX8_jacket rfl
theorem dX8_jacket_16 : decode cX8_jacket 16 = .ok (.aload_n 0, 1) := dq_42 dp_cX8_jacket rfl
theorem dX8_jacket_17 : decode cX8_jacket 17 = .ok (.aload_n 0, 1) := dq_42 dp_cX8_jacket rfl
theorem dX8_jacket_18 : decode cX8_jacket 18 = .ok (.getfield 75, 3) := dq_180 dp_cX8_jacket rfl
theorem dX8_jacket_21 : decode cX8_jacket 21 = .ok (.iconst 0, 1) := dq_3 dp_cX8_jacket rfl
theorem dX8_jacket_22 : decode cX8_jacket 22 = .ok (.invokevirtual 194, 3) := dq_182 dp_cX8_jacket rfl
theorem dX8_jacket_25 : decode cX8_jacket 25 = .ok (.aload_n 0, 1) := dq_42 dp_cX8_jacket rfl
theorem dX8_jacket_26 : decode cX8_jacket 26 = .ok (.sipush 160, 3) := dq_17 (v := 160) dp_cX8_jacket rfl rfl
theorem dX8_jacket_29 : decode cX8_jacket 29 = .ok (.iload_n 1, 1) := dq_27 dp_cX8_jacket rfl
theorem dX8_jacket_30 : decode cX8_jacket 30 = .ok (.imul, 1) := dq_104 dp_cX8_jacket rfl
theorem dX8_jacket_31 : decode cX8_jacket 31 = .ok (.putfield 158, 3) := dq_181 dp_cX8_jacket rfl
theorem dX8_jacket_34 : decode cX8_jacket 34 = .ok (.aload_n 0, 1) := dq_42 dp_cX8_jacket rfl
theorem dX8_jacket_35 : decode cX8_jacket 35 = .ok (.iconst 0, 1) := dq_3 dp_cX8_jacket rfl
theorem dX8_jacket_36 : decode cX8_jacket 36 = .ok (.putfield 152, 3) := dq_181 dp_cX8_jacket rfl
theorem dX8_jacket_39 : decode cX8_jacket 39 = .ok (.aload_n 0, 1) := dq_42 dp_cX8_jacket rfl
theorem dX8_jacket_40 : decode cX8_jacket 40 = .ok (.aload_n 0, 1) := dq_42 dp_cX8_jacket rfl
theorem dX8_jacket_41 : decode cX8_jacket 41 = .ok (.getfield 53, 3) := dq_180 dp_cX8_jacket rfl
theorem dX8_jacket_44 : decode cX8_jacket 44 = .ok (.iload_n 1, 1) := dq_27 dp_cX8_jacket rfl
theorem dX8_jacket_45 : decode cX8_jacket 45 = .ok (.iaload, 1) := dq_46 dp_cX8_jacket rfl
theorem dX8_jacket_46 : decode cX8_jacket 46 = .ok (.putfield 155, 3) := dq_181 dp_cX8_jacket rfl
theorem dX8_jacket_49 : decode cX8_jacket 49 = .ok (.aload_n 0, 1) := dq_42 dp_cX8_jacket rfl
theorem dX8_jacket_50 : decode cX8_jacket 50 = .ok (.iconst (-1), 1) := dq_2 dp_cX8_jacket rfl
theorem dX8_jacket_51 : decode cX8_jacket 51 = .ok (.putfield 22, 3) := dq_181 dp_cX8_jacket rfl
theorem dX8_jacket_54 : decode cX8_jacket 54 = .ok (.iconst 1, 1) := dq_4 dp_cX8_jacket rfl
theorem dX8_jacket_55 : decode cX8_jacket 55 = .ok (.istore_n 3, 1) := dq_62 dp_cX8_jacket rfl
theorem dX8_jacket_56 : decode cX8_jacket 56 = .ok (.aload_n 0, 1) := dq_42 dp_cX8_jacket rfl
theorem dX8_jacket_57 : decode cX8_jacket 57 = .ok (.invokevirtual 198, 3) := dq_182 dp_cX8_jacket rfl
theorem dX8_jacket_60 : decode cX8_jacket 60 = .ok (.istore 4, 2) := dq_54 dp_cX8_jacket rfl
theorem dX8_jacket_62 : decode cX8_jacket 62 = .ok (.iload 4, 2) := dq_21 dp_cX8_jacket rfl
theorem dX8_jacket_64 : decode cX8_jacket 64 = .ok (.ifCond .eq 69, 3) := dq_153 (v := 69) dp_cX8_jacket rfl rfl
theorem dX8_jacket_67 : decode cX8_jacket 67 = .ok (.aload_n 0, 1) := dq_42 dp_cX8_jacket rfl
theorem dX8_jacket_68 : decode cX8_jacket 68 = .ok (.getfield 152, 3) := dq_180 dp_cX8_jacket rfl
theorem dX8_jacket_71 : decode cX8_jacket 71 = .ok (.aload_n 0, 1) := dq_42 dp_cX8_jacket rfl
theorem dX8_jacket_72 : decode cX8_jacket 72 = .ok (.getfield 155, 3) := dq_180 dp_cX8_jacket rfl
theorem dX8_jacket_75 : decode cX8_jacket 75 = .ok (.if_icmp .ge 58, 3) := dq_162 (v := 58) dp_cX8_jacket rfl rfl
theorem dX8_jacket_78 : decode cX8_jacket 78 = .ok (.aload_n 0, 1) := dq_42 dp_cX8_jacket rfl
theorem dX8_jacket_79 : decode cX8_jacket 79 = .ok (.getfield 59, 3) := dq_180 dp_cX8_jacket rfl
theorem dX8_jacket_82 : decode cX8_jacket 82 = .ok (.aload_n 0, 1) := dq_42 dp_cX8_jacket rfl
theorem dX8_jacket_83 : decode cX8_jacket 83 = .ok (.getfield 158, 3) := dq_180 dp_cX8_jacket rfl
theorem dX8_jacket_86 : decode cX8_jacket 86 = .ok (.aload_n 0, 1) := dq_42 dp_cX8_jacket rfl
theorem dX8_jacket_87 : decode cX8_jacket 87 = .ok (.getfield 152, 3) := dq_180 dp_cX8_jacket rfl
theorem dX8_jacket_90 : decode cX8_jacket 90 = .ok (.iadd, 1) := dq_96 dp_cX8_jacket rfl
theorem dX8_jacket_91 : decode cX8_jacket 91 = .ok (.laload, 1) := dq_47 dp_cX8_jacket rfl
theorem dX8_jacket_92 : decode cX8_jacket 92 = .ok (.l2i, 1) := dq_136 dp_cX8_jacket rfl
theorem dX8_jacket_93 : decode cX8_jacket 93 = .ok (.bipush 59, 2) := dq_16 (v := 59) dp_cX8_jacket rfl rfl
theorem dX8_jacket_95 : decode cX8_jacket 95 = .ok (.if_icmp .eq 16, 3) := dq_159 (v := 16) dp_cX8_jacket rfl rfl
theorem dX8_jacket_98 : decode cX8_jacket 98 = .ok (.aload_n 0, 1) := dq_42 dp_cX8_jacket rfl
theorem dX8_jacket_99 : decode cX8_jacket 99 = .ok (.aload_n 0, 1) := dq_42 dp_cX8_jacket rfl
theorem dX8_jacket_100 : decode cX8_jacket 100 = .ok (.getfield 152, 3) := dq_180 dp_cX8_jacket rfl
theorem dX8_jacket_103 : decode cX8_jacket 103 = .ok (.invokevirtual 168, 3) := dq_182 dp_cX8_jacket rfl
theorem dX8_jacket_106 : decode cX8_jacket 106 = .ok (.istore 4, 2) := dq_54 dp_cX8_jacket rfl
theorem dX8_jacket_108 : decode cX8_jacket 108 = .ok (.goto (-46), 3) := dq_167 (v := 65490) dp_cX8_jacket rfl rfl
theorem dX8_jacket_111 : decode cX8_jacket 111 = .ok (.aload_n 0, 1) := dq_42 dp_cX8_jacket rfl
theorem dX8_jacket_112 : decode cX8_jacket 112 = .ok (.dup, 1) := dq_89 dp_cX8_jacket rfl
theorem dX8_jacket_113 : decode cX8_jacket 113 = .ok (.getfield 152, 3) := dq_180 dp_cX8_jacket rfl
theorem dX8_jacket_116 : decode cX8_jacket 116 = .ok (.iconst 1, 1) := dq_4 dp_cX8_jacket rfl
theorem dX8_jacket_117 : decode cX8_jacket 117 = .ok (.iadd, 1) := dq_96 dp_cX8_jacket rfl
theorem dX8_jacket_118 : decode cX8_jacket 118 = .ok (.putfield 152, 3) := dq_181 dp_cX8_jacket rfl
theorem dX8_jacket_121 : decode cX8_jacket 121 = .ok (.iinc 3 1, 3) := dq_132 (v := 1) dp_cX8_jacket rfl (by decide) rfl
theorem dX8_jacket_124 : decode cX8_jacket 124 = .ok (.aload_n 0, 1) := dq_42 dp_cX8_jacket rfl
theorem dX8_jacket_125 : decode cX8_jacket 125 = .ok (.invokevirtual 198, 3) := dq_182 dp_cX8_jacket rfl
theorem dX8_jacket_128 : decode cX8_jacket 128 = .ok (.istore 4, 2) := dq_54 dp_cX8_jacket rfl
theorem dX8_jacket_130 : decode cX8_jacket 130 = .ok (.goto (-68), 3) := dq_167 (v := 65468) dp_cX8_jacket rfl rfl
theorem dX8_jacket_133 : decode cX8_jacket 133 = .ok (.iload 4, 2) := dq_21 dp_cX8_jacket rfl
theorem dX8_jacket_135 : decode cX8_jacket 135 = .ok (.ifCond .eq 5, 3) := dq_153 (v := 5) dp_cX8_jacket rfl rfl
theorem dX8_jacket_138 : decode cX8_jacket 138 = .ok (.iload_n 3, 1) := dq_29 dp_cX8_jacket rfl
theorem dX8_jacket_139 : decode cX8_jacket 139 = .ok (.ireturn, 1) := dq_172 dp_cX8_jacket rfl
theorem dX8_jacket_140 : decode cX8_jacket 140 = .ok (.aload_n 0, 1) := dq_42 dp_cX8_jacket rfl
theorem dX8_jacket_141 : decode cX8_jacket 141 = .ok (.aload_n 0, 1) := dq_42 dp_cX8_jacket rfl
theorem dX8_jacket_142 : decode cX8_jacket 142 = .ok (.getfield 75, 3) := dq_180 dp_cX8_jacket rfl
theorem dX8_jacket_145 : decode cX8_jacket 145 = .ok (.iconst 1, 1) := dq_4 dp_cX8_jacket rfl
theorem dX8_jacket_146 : decode cX8_jacket 146 = .ok (.invokevirtual 194, 3) := dq_182 dp_cX8_jacket rfl
theorem dX8_jacket_149 : decode cX8_jacket 149 = .ok (.aload_n 0, 1) := dq_42 dp_cX8_jacket rfl
theorem dX8_jacket_150 : decode cX8_jacket 150 = .ok (.aload_n 0, 1) := dq_42 dp_cX8_jacket rfl
theorem dX8_jacket_151 : decode cX8_jacket 151 = .ok (.getfield 149, 3) := dq_180 dp_cX8_jacket rfl
theorem dX8_jacket_154 : decode cX8_jacket 154 = .ok (.putfield 22, 3) := dq_181 dp_cX8_jacket rfl
theorem dX8_jacket_157 : decode cX8_jacket 157 = .ok (.aload_n 0, 1) := dq_42 dp_cX8_jacket rfl
theorem dX8_jacket_158 : decode cX8_jacket 158 = .ok (.bipush (-6), 2) := dq_16 (v := 250) dp_cX8_jacket rfl rfl
theorem dX8_jacket_160 : decode cX8_jacket 160 = .ok (.invokevirtual 97, 3) := dq_182 dp_cX8_jacket rfl
theorem dX8_jacket_163 : decode cX8_jacket 163 = .ok (.ireturn, 1) := dq_172 dp_cX8_jacket rfl
set_option maxRecDepth 20000 in
theorem ggX8_image_X8_all : GoodIn wsX8_image wsX8_all := goodIn_r _ [8, 9, 10, 11, 12, 13, 14, 3, 15, 16, 17, 18, 19, 20, 21, 22, 23, 24, 25, 7, 26, 27, 28, 29, 30, 31, 32, 33, 34, 35, 36, 37, 38, 39, 40, 41, 42, 43, 44, 45, 46, 47, 48, 49, 50, 51, 52, 53, 54, 55, 56, 57, 58, 59, 60, 61, 62, 63, 64] rfl (by decide +kernel)
set_option maxRecDepth 20000 in
theorem gX8_image_X8_all : GoodIn wsX8_image (wsV RX8 194 RX8 yX8_all wsX8_all) := goodIn_app (goodIn_r _ [4, 5, 6, 7] rfl (by decide +kernel)) ggX8_image_X8_all
theorem dX8_image_0 : decode cX8_image 0 = .ok (.aload_n 0, 1) := dq_42 dp_cX8_image rfl
theorem dX8_image_1 : decode cX8_image 1 = .ok (.iconst 1, 1) := dq_4 dp_cX8_image rfl
theorem dX8_image_2 : decode cX8_image 2 = .ok (.putfield 300, 3) := dq_181 dp_cX8_image rfl
theorem dX8_image_5 : decode cX8_image 5 = .ok (.aload_n 0, 1) := dq_42 dp_cX8_image rfl
theorem dX8_image_6 : decode cX8_image 6 = .ok (.aload_n 0, 1) := dq_42 dp_cX8_image rfl
theorem dX8_image_7 : decode cX8_image 7 = .ok (.getfield 78, 3) := dq_180 dp_cX8_image rfl
theorem dX8_image_10 : decode cX8_image 10 = .ok (.iconst 0, 1) := dq_3 dp_cX8_image rfl
theorem dX8_image_11 : decode cX8_image 11 = .ok (.invokevirtual 194, 3) := dq_182 dp_cX8_image rfl
theorem dX8_image_14 : decode cX8_image 14 = .ok (.aload_n 0, 1) := dq_42 dp_cX8_image rfl
theorem dX8_image_15 : decode cX8_image 15 = .ok (.getfield 90, 3) := dq_180 dp_cX8_image rfl
theorem dX8_image_18 : decode cX8_image 18 = .ok (.ireturn, 1) := dq_172 dp_cX8_image rfl
set_option maxRecDepth 20000 in
theorem ggX8_restore_X8_no : GoodIn wsX8_restore wsX8_no := goodIn_r _ [10, 11, 34, 35, 36, 37, 38, 39, 40, 41, 42, 43, 44, 45, 46, 47, 48, 49, 50, 51, 52, 53, 54, 55, 56, 57, 58, 59, 60, 61, 62, 63, 64, 65, 66, 67, 68, 69, 70, 71] rfl (by decide +kernel)
set_option maxRecDepth 20000 in
theorem gX8_restore_X8_no : GoodIn wsX8_restore (wsV RX8 97 RX8 yX8_no wsX8_no) := goodIn_app (goodIn_r _ [6, 7, 8, 9] rfl (by decide +kernel)) ggX8_restore_X8_no
set_option maxRecDepth 20000 in
theorem ggX8_restore_X8_all : GoodIn wsX8_restore wsX8_all := goodIn_r _ [15, 16, 17, 18, 19, 20, 21, 5, 22, 23, 24, 25, 26, 27, 28, 29, 30, 31, 32, 9, 33, 34, 35, 36, 37, 38, 39, 40, 41, 42, 43, 44, 45, 46, 47, 48, 49, 50, 51, 52, 53, 54, 55, 56, 57, 58, 59, 60, 61, 62, 63, 64, 65, 66, 67, 68, 69, 70, 71] rfl (by decide +kernel)
set_option maxRecDepth 20000 in
theorem gX8_restore_X8_all : GoodIn wsX8_restore (wsV RX8 194 RX8 yX8_all wsX8_all) := goodIn_app (goodIn_r _ [12, 13, 14, 9] rfl (by decide +kernel)) ggX8_restore_X8_all
theorem dX8_restore_0 : decode cX8_restore 0 = .ok (.aload_n 0, 1) := dq_42 dp_cX8_restore rfl
theorem dX8_restore_1 : decode cX8_restore 1 = .ok (.getfield 300, 3) := dq_180 dp_cX8_restore rfl
theorem dX8_restore_4 : decode cX8_restore 4 = .ok (.ifCond .ne 10, 3) := dq_154 (v := 10) dp_cX8_restore rfl rfl
theorem dX8_restore_7 : decode cX8_restore 7 = .ok (.aload_n 0, 1) := dq_42 dp_cX8_restore rfl
theorem dX8_restore_8 : decode cX8_restore 8 = .ok (.bipush (-6), 2) := dq_16 (v := 250) dp_cX8_restore rfl rfl
theorem dX8_restore_10 : decode cX8_restore 10 = .ok (.invokevirtual 97, 3) := dq_182 dp_cX8_restore rfl
theorem dX8_restore_13 : decode cX8_restore 13 = .ok (.ireturn, 1) := dq_172 dp_cX8_restore rfl
theorem dX8_restore_14 : decode cX8_restore 14 = .ok (.aload_n 0, 1) := dq_42 dp_cX8_restore rfl
theorem dX8_restore_15 : decode cX8_restore 15 = .ok (.aload_n 0, 1) := dq_42 dp_cX8_restore rfl
theorem dX8_restore_16 : decode cX8_restore 16 = .ok (.getfield 78, 3) := dq_180 dp_cX8_restore rfl
theorem dX8_restore_19 : decode cX8_restore 19 = .ok (.iconst 1, 1) := dq_4 dp_cX8_restore rfl
theorem dX8_restore_20 : decode cX8_restore 20 = .ok (.invokevirtual 194, 3) := dq_182 dp_cX8_restore rfl
theorem dX8_restore_23 : decode cX8_restore 23 = .ok (.iconst 0, 1) := dq_3 dp_cX8_restore rfl
theorem dX8_restore_24 : decode cX8_restore 24 = .ok (.istore_n 1, 1) := dq_60 dp_cX8_restore rfl
theorem dX8_restore_25 : decode cX8_restore 25 = .ok (.iload_n 1, 1) := dq_27 dp_cX8_restore rfl
theorem dX8_restore_26 : decode cX8_restore 26 = .ok (.bipush 8, 2) := dq_16 (v := 8) dp_cX8_restore rfl rfl
theorem dX8_restore_28 : decode cX8_restore 28 = .ok (.if_icmp .ge 39, 3) := dq_162 (v := 39) dp_cX8_restore rfl rfl
theorem dX8_restore_31 : decode cX8_restore 31 = .ok (.aload_n 0, 1) := dq_42 dp_cX8_restore rfl
theorem dX8_restore_32 : decode cX8_restore 32 = .ok (.getfield 47, 3) := dq_180 dp_cX8_restore rfl
theorem dX8_restore_35 : decode cX8_restore 35 = .ok (.iload_n 1, 1) := dq_27 dp_cX8_restore rfl
theorem dX8_restore_36 : decode cX8_restore 36 = .ok (.iaload, 1) := dq_46 dp_cX8_restore rfl
theorem dX8_restore_37 : decode cX8_restore 37 = .ok (.iconst 2, 1) := dq_5 dp_cX8_restore rfl
theorem dX8_restore_38 : decode cX8_restore 38 = .ok (.if_icmp .ne 23, 3) := dq_160 (v := 23) dp_cX8_restore rfl rfl
theorem dX8_restore_41 : decode cX8_restore 41 = .ok (.aload_n 0, 1) := dq_42 dp_cX8_restore rfl
theorem dX8_restore_42 : decode cX8_restore 42 = .ok (.getfield 56, 3) := dq_180 dp_cX8_restore rfl
theorem dX8_restore_45 : decode cX8_restore 45 = .ok (.iload_n 1, 1) := dq_27 dp_cX8_restore rfl
theorem dX8_restore_46 : decode cX8_restore 46 = .ok (.iaload, 1) := dq_46 dp_cX8_restore rfl
theorem dX8_restore_47 : decode cX8_restore 47 = .ok (.aload_n 0, 1) := dq_42 dp_cX8_restore rfl
theorem dX8_restore_48 : decode cX8_restore 48 = .ok (.getfield 90, 3) := dq_180 dp_cX8_restore rfl
theorem dX8_restore_51 : decode cX8_restore 51 = .ok (.if_icmp .lt 10, 3) := dq_161 (v := 10) dp_cX8_restore rfl rfl
theorem dX8_restore_54 : decode cX8_restore 54 = .ok (.aload_n 0, 1) := dq_42 dp_cX8_restore rfl
theorem dX8_restore_55 : decode cX8_restore 55 = .ok (.getfield 47, 3) := dq_180 dp_cX8_restore rfl
theorem dX8_restore_58 : decode cX8_restore 58 = .ok (.iload_n 1, 1) := dq_27 dp_cX8_restore rfl
theorem dX8_restore_59 : decode cX8_restore 59 = .ok (.iconst 0, 1) := dq_3 dp_cX8_restore rfl
theorem dX8_restore_60 : decode cX8_restore 60 = .ok (.iastore, 1) := dq_79 dp_cX8_restore rfl
theorem dX8_restore_61 : decode cX8_restore 61 = .ok (.iinc 1 1, 3) := dq_132 (v := 1) dp_cX8_restore rfl (by decide) rfl
theorem dX8_restore_64 : decode cX8_restore 64 = .ok (.goto (-39), 3) := dq_167 (v := 65497) dp_cX8_restore rfl rfl
theorem dX8_restore_67 : decode cX8_restore 67 = .ok (.aload_n 0, 1) := dq_42 dp_cX8_restore rfl
theorem dX8_restore_68 : decode cX8_restore 68 = .ok (.getfield 90, 3) := dq_180 dp_cX8_restore rfl
theorem dX8_restore_71 : decode cX8_restore 71 = .ok (.ireturn, 1) := dq_172 dp_cX8_restore rfl

