section
def wsX8_word : List Cond := (.code yX8_word cX8_word 6 (some .int)) :: (.fieldLink RX8 152 "TheLiningsInItModel" "place" "I") :: (.fieldLink RX8 66 "TheLiningsInItModel" "words" "[I") :: (.fieldLink RX8 155 "TheLiningsInItModel" "end" "I") :: (.fieldLink RX8 59 "TheLiningsInItModel" "cells" "[J") :: (.fieldLink RX8 158 "TheLiningsInItModel" "base" "I") :: (.fieldLink RX8 149 "TheLiningsInItModel" "wrongAt" "I") :: wsX80
def wsX8_item_r1 : List Cond := (Cond.fieldLink RX8 90 "TheLiningsInItModel" "pulls" "I") :: (Cond.fieldLink RX8 152 "TheLiningsInItModel" "place" "I") :: (Cond.fieldLink RX8 69 "TheLiningsInItModel" "numbers" "[I") :: (Cond.fieldLink RX8 155 "TheLiningsInItModel" "end" "I") :: (Cond.fieldLink RX8 59 "TheLiningsInItModel" "cells" "[J") :: (Cond.fieldLink RX8 158 "TheLiningsInItModel" "base" "I") :: (Cond.fieldLink RX8 72 "TheLiningsInItModel" "tell" "[I") :: (Cond.fieldLink RX8 161 "TheLiningsInItModel" "number" "I") :: (Cond.fieldLink RX8 38 "TheLiningsInItModel" "lacks" "[I") :: (Cond.fieldLink RX8 41 "TheLiningsInItModel" "slack" "[I") :: (Cond.fieldLink RX8 44 "TheLiningsInItModel" "cost" "[I") :: (Cond.fieldLink RX8 122 "TheLiningsInItModel" "at" "I") :: (Cond.methodLink RX8 171 yX8_stands) :: (Cond.instanceMethod yX8_stands) :: (Cond.selects RX8 yX8_stands yX8_stands) :: (Cond.initialized RX8) :: (Cond.code yX8_stands cX8_stands 4 (some .boolean)) :: (Cond.fieldLink RX8 66 "TheLiningsInItModel" "words" "[I") :: (Cond.methodLink RX8 168 yX8_wrong) :: (Cond.instanceMethod yX8_wrong) :: (Cond.selects RX8 yX8_wrong yX8_wrong) :: (Cond.code yX8_wrong cX8_wrong 2 (some .boolean)) :: (Cond.fieldLink RX8 149 "TheLiningsInItModel" "wrongAt" "I") :: (Cond.methodLink RX8 174 yX8_word) :: []
def wsX8_item_r2 : List Cond := (Cond.instanceMethod yX8_word) :: (Cond.selects RX8 yX8_word yX8_word) :: (Cond.code yX8_word cX8_word 6 (some .int)) :: (Cond.methodLink RX8 178 yX8_reads) :: (Cond.instanceMethod yX8_reads) :: (Cond.selects RX8 yX8_reads yX8_reads) :: (Cond.code yX8_reads cX8_reads 2 (some .boolean)) :: (Cond.methodLink RX8 164 yX8_isDigit) :: (Cond.instanceMethod yX8_isDigit) :: (Cond.selects RX8 yX8_isDigit yX8_isDigit) :: (Cond.code yX8_isDigit cX8_isDigit 1 (some .boolean)) :: (Cond.methodLink RX8 181 yX8_isSo) :: (Cond.instanceMethod yX8_isSo) :: (Cond.selects RX8 yX8_isSo yX8_isSo) :: (Cond.code yX8_isSo cX8_isSo 3 (some .boolean)) :: (Cond.fieldLink RX8 7 "TheLiningsInItModel" "teeth" "I") :: (Cond.methodLink RX8 138 yX8_isAsked) :: (Cond.instanceMethod yX8_isAsked) :: (Cond.selects RX8 yX8_isAsked yX8_isAsked) :: (Cond.code yX8_isAsked cX8_isAsked 3 (some .boolean)) :: (Cond.methodLink RX8 132 yX8_most) :: (Cond.instanceMethod yX8_most) :: (Cond.selects RX8 yX8_most yX8_most) :: (Cond.code yX8_most cX8_most 2 (some .int)) :: []
def wsX8_item_r3 : List Cond := (Cond.methodLink RX8 125 yX8_sews) :: (Cond.instanceMethod yX8_sews) :: (Cond.selects RX8 yX8_sews yX8_sews) :: (Cond.code yX8_sews cX8_sews 3 none) :: (Cond.methodLink RX8 111 yX8_addsPull) :: (Cond.instanceMethod yX8_addsPull) :: (Cond.selects RX8 yX8_addsPull yX8_addsPull) :: (Cond.code yX8_addsPull cX8_addsPull 4 (some .int)) :: (Cond.fieldLink RX8 29 "TheLiningsInItModel" "kind" "[I") :: (Cond.fieldLink RX8 32 "TheLiningsInItModel" "part" "[I") :: (Cond.fieldLink RX8 35 "TheLiningsInItModel" "takes" "[I") :: (Cond.methodLink RX8 145 yX8_tells) :: (Cond.instanceMethod yX8_tells) :: (Cond.selects RX8 yX8_tells yX8_tells) :: (Cond.code yX8_tells cX8_tells 3 none) :: (Cond.fieldLink RX8 115 "TheLiningsInItModel" "depth" "I") :: (Cond.fieldLink RX8 13 "TheLiningsInItModel" "seconds" "I") :: (Cond.fieldLink RX8 135 "TheLiningsInItModel" "hurry" "I") :: (Cond.fieldLink RX8 16 "TheLiningsInItModel" "gap" "I") :: []
def wsX8_item : List Cond := (.code yX8_item cX8_item 4 (some .boolean)) :: ((wsX8_item_r1 ++ (wsX8_item_r2 ++ wsX8_item_r3)) ++ wsX80)
def wsX8_carries : List Cond := (.code yX8_carries cX8_carries 7 (some .int)) :: []
def wsX8_all : List Cond := (.code yX8_all cX8_all 4 none) :: (.fieldLink RX8 29 "TheLiningsInItModel" "kind" "[I") :: (.fieldLink RX8 32 "TheLiningsInItModel" "part" "[I") :: (.fieldLink RX8 35 "TheLiningsInItModel" "takes" "[I") :: (.fieldLink RX8 38 "TheLiningsInItModel" "lacks" "[I") :: (.fieldLink RX8 41 "TheLiningsInItModel" "slack" "[I") :: (.fieldLink RX8 44 "TheLiningsInItModel" "cost" "[I") :: (.fieldLink RX8 90 "TheLiningsInItModel" "pulls" "I") :: (.fieldLink RX8 7 "TheLiningsInItModel" "teeth" "I") :: (.fieldLink RX8 122 "TheLiningsInItModel" "at" "I") :: (.fieldLink RX8 115 "TheLiningsInItModel" "depth" "I") :: (.fieldLink RX8 188 "TheLiningsInItModel" "torn" "I") :: (.fieldLink RX8 13 "TheLiningsInItModel" "seconds" "I") :: (.fieldLink RX8 135 "TheLiningsInItModel" "hurry" "I") :: (.fieldLink RX8 16 "TheLiningsInItModel" "gap" "I") :: (.fieldLink RX8 19 "TheLiningsInItModel" "seed" "I") :: (.methodLink RX8 184 yX8_carries) :: (.instanceMethod yX8_carries) :: (.selects RX8 yX8_carries yX8_carries) :: (.initialized RX8) :: (.code yX8_carries cX8_carries 7 (some .int)) :: wsX80
def wsX8_jacket_r1 : List Cond := (Cond.fieldLink RX8 75 "TheLiningsInItModel" "was" "[I") :: (Cond.fieldLink RX8 158 "TheLiningsInItModel" "base" "I") :: (Cond.fieldLink RX8 152 "TheLiningsInItModel" "place" "I") :: (Cond.fieldLink RX8 53 "TheLiningsInItModel" "size" "[I") :: (Cond.fieldLink RX8 155 "TheLiningsInItModel" "end" "I") :: (Cond.fieldLink RX8 22 "TheLiningsInItModel" "fault" "I") :: (Cond.fieldLink RX8 59 "TheLiningsInItModel" "cells" "[J") :: (Cond.fieldLink RX8 149 "TheLiningsInItModel" "wrongAt" "I") :: (Cond.methodLink RX8 191 yX8_wanted) :: (Cond.instanceMethod yX8_wanted) :: (Cond.selects RX8 yX8_wanted yX8_wanted) :: (Cond.initialized RX8) :: (Cond.code yX8_wanted cX8_wanted 2 (some .int)) :: (Cond.fieldLink RX8 47 "TheLiningsInItModel" "held" "[I") :: (Cond.methodLink RX8 93 yX8_isShelf) :: (Cond.instanceMethod yX8_isShelf) :: (Cond.selects RX8 yX8_isShelf yX8_isShelf) :: (Cond.code yX8_isShelf cX8_isShelf 2 (some .boolean)) :: (Cond.methodLink RX8 97 yX8_no) :: (Cond.instanceMethod yX8_no) :: (Cond.selects RX8 yX8_no yX8_no) :: (Cond.code yX8_no cX8_no 2 (some .int)) :: (Cond.fieldLink RX8 25 "TheLiningsInItModel" "refused" "[I") :: (Cond.methodLink RX8 194 yX8_all) :: []
def wsX8_jacket_r2 : List Cond := (Cond.instanceMethod yX8_all) :: (Cond.selects RX8 yX8_all yX8_all) :: (Cond.code yX8_all cX8_all 4 none) :: (Cond.fieldLink RX8 29 "TheLiningsInItModel" "kind" "[I") :: (Cond.fieldLink RX8 32 "TheLiningsInItModel" "part" "[I") :: (Cond.fieldLink RX8 35 "TheLiningsInItModel" "takes" "[I") :: (Cond.fieldLink RX8 38 "TheLiningsInItModel" "lacks" "[I") :: (Cond.fieldLink RX8 41 "TheLiningsInItModel" "slack" "[I") :: (Cond.fieldLink RX8 44 "TheLiningsInItModel" "cost" "[I") :: (Cond.fieldLink RX8 90 "TheLiningsInItModel" "pulls" "I") :: (Cond.fieldLink RX8 7 "TheLiningsInItModel" "teeth" "I") :: (Cond.fieldLink RX8 122 "TheLiningsInItModel" "at" "I") :: (Cond.fieldLink RX8 115 "TheLiningsInItModel" "depth" "I") :: (Cond.fieldLink RX8 188 "TheLiningsInItModel" "torn" "I") :: (Cond.fieldLink RX8 13 "TheLiningsInItModel" "seconds" "I") :: (Cond.fieldLink RX8 135 "TheLiningsInItModel" "hurry" "I") :: (Cond.fieldLink RX8 16 "TheLiningsInItModel" "gap" "I") :: (Cond.fieldLink RX8 19 "TheLiningsInItModel" "seed" "I") :: (Cond.methodLink RX8 184 yX8_carries) :: (Cond.instanceMethod yX8_carries) :: (Cond.selects RX8 yX8_carries yX8_carries) :: (Cond.code yX8_carries cX8_carries 7 (some .int)) :: (Cond.methodLink RX8 198 yX8_item) :: (Cond.instanceMethod yX8_item) :: []
def wsX8_jacket_r3 : List Cond := (Cond.selects RX8 yX8_item yX8_item) :: (Cond.code yX8_item cX8_item 4 (some .boolean)) :: (Cond.fieldLink RX8 69 "TheLiningsInItModel" "numbers" "[I") :: (Cond.fieldLink RX8 72 "TheLiningsInItModel" "tell" "[I") :: (Cond.fieldLink RX8 161 "TheLiningsInItModel" "number" "I") :: (Cond.methodLink RX8 171 yX8_stands) :: (Cond.instanceMethod yX8_stands) :: (Cond.selects RX8 yX8_stands yX8_stands) :: (Cond.code yX8_stands cX8_stands 4 (some .boolean)) :: (Cond.fieldLink RX8 66 "TheLiningsInItModel" "words" "[I") :: (Cond.methodLink RX8 168 yX8_wrong) :: (Cond.instanceMethod yX8_wrong) :: (Cond.selects RX8 yX8_wrong yX8_wrong) :: (Cond.code yX8_wrong cX8_wrong 2 (some .boolean)) :: (Cond.methodLink RX8 174 yX8_word) :: (Cond.instanceMethod yX8_word) :: (Cond.selects RX8 yX8_word yX8_word) :: (Cond.code yX8_word cX8_word 6 (some .int)) :: (Cond.methodLink RX8 178 yX8_reads) :: (Cond.instanceMethod yX8_reads) :: (Cond.selects RX8 yX8_reads yX8_reads) :: (Cond.code yX8_reads cX8_reads 2 (some .boolean)) :: (Cond.methodLink RX8 164 yX8_isDigit) :: (Cond.instanceMethod yX8_isDigit) :: []
def wsX8_jacket_r4 : List Cond := (Cond.selects RX8 yX8_isDigit yX8_isDigit) :: (Cond.code yX8_isDigit cX8_isDigit 1 (some .boolean)) :: (Cond.methodLink RX8 181 yX8_isSo) :: (Cond.instanceMethod yX8_isSo) :: (Cond.selects RX8 yX8_isSo yX8_isSo) :: (Cond.code yX8_isSo cX8_isSo 3 (some .boolean)) :: (Cond.methodLink RX8 138 yX8_isAsked) :: (Cond.instanceMethod yX8_isAsked) :: (Cond.selects RX8 yX8_isAsked yX8_isAsked) :: (Cond.code yX8_isAsked cX8_isAsked 3 (some .boolean)) :: (Cond.methodLink RX8 132 yX8_most) :: (Cond.instanceMethod yX8_most) :: (Cond.selects RX8 yX8_most yX8_most) :: (Cond.code yX8_most cX8_most 2 (some .int)) :: (Cond.methodLink RX8 125 yX8_sews) :: (Cond.instanceMethod yX8_sews) :: (Cond.selects RX8 yX8_sews yX8_sews) :: (Cond.code yX8_sews cX8_sews 3 none) :: (Cond.methodLink RX8 111 yX8_addsPull) :: (Cond.instanceMethod yX8_addsPull) :: (Cond.selects RX8 yX8_addsPull yX8_addsPull) :: (Cond.code yX8_addsPull cX8_addsPull 4 (some .int)) :: (Cond.methodLink RX8 145 yX8_tells) :: (Cond.instanceMethod yX8_tells) :: []
def wsX8_jacket_r5 : List Cond := (Cond.selects RX8 yX8_tells yX8_tells) :: (Cond.code yX8_tells cX8_tells 3 none) :: []
def wsX8_jacket : List Cond := (.code yX8_jacket cX8_jacket 5 (some .int)) :: ((wsX8_jacket_r1 ++ (wsX8_jacket_r2 ++ (wsX8_jacket_r3 ++ (wsX8_jacket_r4 ++ wsX8_jacket_r5)))) ++ wsX80)
def wsX8_image_r1 : List Cond := (Cond.fieldLink RX8 300 "TheLiningsInItModel" "isKept" "Z") :: (Cond.fieldLink RX8 78 "TheLiningsInItModel" "kept" "[I") :: (Cond.fieldLink RX8 90 "TheLiningsInItModel" "pulls" "I") :: (Cond.methodLink RX8 194 yX8_all) :: (Cond.instanceMethod yX8_all) :: (Cond.selects RX8 yX8_all yX8_all) :: (Cond.initialized RX8) :: (Cond.code yX8_all cX8_all 4 none) :: (Cond.fieldLink RX8 29 "TheLiningsInItModel" "kind" "[I") :: (Cond.fieldLink RX8 32 "TheLiningsInItModel" "part" "[I") :: (Cond.fieldLink RX8 35 "TheLiningsInItModel" "takes" "[I") :: (Cond.fieldLink RX8 38 "TheLiningsInItModel" "lacks" "[I") :: (Cond.fieldLink RX8 41 "TheLiningsInItModel" "slack" "[I") :: (Cond.fieldLink RX8 44 "TheLiningsInItModel" "cost" "[I") :: (Cond.fieldLink RX8 7 "TheLiningsInItModel" "teeth" "I") :: (Cond.fieldLink RX8 122 "TheLiningsInItModel" "at" "I") :: (Cond.fieldLink RX8 115 "TheLiningsInItModel" "depth" "I") :: (Cond.fieldLink RX8 188 "TheLiningsInItModel" "torn" "I") :: (Cond.fieldLink RX8 13 "TheLiningsInItModel" "seconds" "I") :: (Cond.fieldLink RX8 135 "TheLiningsInItModel" "hurry" "I") :: (Cond.fieldLink RX8 16 "TheLiningsInItModel" "gap" "I") :: (Cond.fieldLink RX8 19 "TheLiningsInItModel" "seed" "I") :: (Cond.methodLink RX8 184 yX8_carries) :: (Cond.instanceMethod yX8_carries) :: []
def wsX8_image_r2 : List Cond := (Cond.selects RX8 yX8_carries yX8_carries) :: (Cond.code yX8_carries cX8_carries 7 (some .int)) :: []
def wsX8_image : List Cond := (.code yX8_image cX8_image 1 (some .int)) :: ((wsX8_image_r1 ++ wsX8_image_r2) ++ wsX80)
def wsX8_restore_r1 : List Cond := (Cond.fieldLink RX8 300 "TheLiningsInItModel" "isKept" "Z") :: (Cond.fieldLink RX8 78 "TheLiningsInItModel" "kept" "[I") :: (Cond.fieldLink RX8 47 "TheLiningsInItModel" "held" "[I") :: (Cond.fieldLink RX8 56 "TheLiningsInItModel" "shown" "[I") :: (Cond.fieldLink RX8 90 "TheLiningsInItModel" "pulls" "I") :: (Cond.methodLink RX8 97 yX8_no) :: (Cond.instanceMethod yX8_no) :: (Cond.selects RX8 yX8_no yX8_no) :: (Cond.initialized RX8) :: (Cond.code yX8_no cX8_no 2 (some .int)) :: (Cond.fieldLink RX8 25 "TheLiningsInItModel" "refused" "[I") :: (Cond.methodLink RX8 194 yX8_all) :: (Cond.instanceMethod yX8_all) :: (Cond.selects RX8 yX8_all yX8_all) :: (Cond.code yX8_all cX8_all 4 none) :: (Cond.fieldLink RX8 29 "TheLiningsInItModel" "kind" "[I") :: (Cond.fieldLink RX8 32 "TheLiningsInItModel" "part" "[I") :: (Cond.fieldLink RX8 35 "TheLiningsInItModel" "takes" "[I") :: (Cond.fieldLink RX8 38 "TheLiningsInItModel" "lacks" "[I") :: (Cond.fieldLink RX8 41 "TheLiningsInItModel" "slack" "[I") :: (Cond.fieldLink RX8 44 "TheLiningsInItModel" "cost" "[I") :: (Cond.fieldLink RX8 7 "TheLiningsInItModel" "teeth" "I") :: (Cond.fieldLink RX8 122 "TheLiningsInItModel" "at" "I") :: (Cond.fieldLink RX8 115 "TheLiningsInItModel" "depth" "I") :: []
def wsX8_restore_r2 : List Cond := (Cond.fieldLink RX8 188 "TheLiningsInItModel" "torn" "I") :: (Cond.fieldLink RX8 13 "TheLiningsInItModel" "seconds" "I") :: (Cond.fieldLink RX8 135 "TheLiningsInItModel" "hurry" "I") :: (Cond.fieldLink RX8 16 "TheLiningsInItModel" "gap" "I") :: (Cond.fieldLink RX8 19 "TheLiningsInItModel" "seed" "I") :: (Cond.methodLink RX8 184 yX8_carries) :: (Cond.instanceMethod yX8_carries) :: (Cond.selects RX8 yX8_carries yX8_carries) :: (Cond.code yX8_carries cX8_carries 7 (some .int)) :: []
def wsX8_restore : List Cond := (.code yX8_restore cX8_restore 2 (some .int)) :: ((wsX8_restore_r1 ++ wsX8_restore_r2) ++ wsX80)
theorem dX8_word_0 : decode cX8_word 0 = .ok (.iconst 0, 1) := dq_3 dp_cX8_word rfl
theorem dX8_word_1 : decode cX8_word 1 = .ok (.istore_n 1, 1) := dq_60 dp_cX8_word rfl
theorem dX8_word_2 : decode cX8_word 2 = .ok (.aload_n 0, 1) := dq_42 dp_cX8_word rfl
theorem dX8_word_3 : decode cX8_word 3 = .ok (.getfield 152, 3) := dq_180 dp_cX8_word rfl
theorem dX8_word_6 : decode cX8_word 6 = .ok (.istore_n 2, 1) := dq_61 dp_cX8_word rfl
theorem dX8_word_7 : decode cX8_word 7 = .ok (.iconst 0, 1) := dq_3 dp_cX8_word rfl
theorem dX8_word_8 : decode cX8_word 8 = .ok (.istore_n 3, 1) := dq_62 dp_cX8_word rfl
theorem dX8_word_9 : decode cX8_word 9 = .ok (.iload_n 3, 1) := dq_29 dp_cX8_word rfl
theorem dX8_word_10 : decode cX8_word 10 = .ok (.bipush 10, 2) := dq_16 (v := 10) dp_cX8_word rfl rfl
theorem dX8_word_12 : decode cX8_word 12 = .ok (.if_icmp .ge 118, 3) := dq_162 (v := 118) dp_cX8_word rfl rfl
theorem dX8_word_15 : decode cX8_word 15 = .ok (.aload_n 0, 1) := dq_42 dp_cX8_word rfl
theorem dX8_word_16 : decode cX8_word 16 = .ok (.getfield 152, 3) := dq_180 dp_cX8_word rfl
theorem dX8_word_19 : decode cX8_word 19 = .ok (.istore 4, 2) := dq_54 dp_cX8_word rfl
theorem dX8_word_21 : decode cX8_word 21 = .ok (.iload_n 1, 1) := dq_27 dp_cX8_word rfl
theorem dX8_word_22 : decode cX8_word 22 = .ok (.istore 5, 2) := dq_54 dp_cX8_word rfl
theorem dX8_word_24 : decode cX8_word 24 = .ok (.aload_n 0, 1) := dq_42 dp_cX8_word rfl
theorem dX8_word_25 : decode cX8_word 25 = .ok (.getfield 66, 3) := dq_180 dp_cX8_word rfl
theorem dX8_word_28 : decode cX8_word 28 = .ok (.iload 5, 2) := dq_21 dp_cX8_word rfl
theorem dX8_word_30 : decode cX8_word 30 = .ok (.iaload, 1) := dq_46 dp_cX8_word rfl
theorem dX8_word_31 : decode cX8_word 31 = .ok (.ifCond .eq 44, 3) := dq_153 (v := 44) dp_cX8_word rfl rfl
theorem dX8_word_34 : decode cX8_word 34 = .ok (.iload 4, 2) := dq_21 dp_cX8_word rfl
theorem dX8_word_36 : decode cX8_word 36 = .ok (.aload_n 0, 1) := dq_42 dp_cX8_word rfl
theorem dX8_word_37 : decode cX8_word 37 = .ok (.getfield 155, 3) := dq_180 dp_cX8_word rfl
theorem dX8_word_40 : decode cX8_word 40 = .ok (.if_icmp .ge 35, 3) := dq_162 (v := 35) dp_cX8_word rfl rfl
theorem dX8_word_43 : decode cX8_word 43 = .ok (.aload_n 0, 1) := dq_42 dp_cX8_word rfl
theorem dX8_word_44 : decode cX8_word 44 = .ok (.getfield 59, 3) := dq_180 dp_cX8_word rfl
theorem dX8_word_47 : decode cX8_word 47 = .ok (.aload_n 0, 1) := dq_42 dp_cX8_word rfl
theorem dX8_word_48 : decode cX8_word 48 = .ok (.getfield 158, 3) := dq_180 dp_cX8_word rfl
theorem dX8_word_51 : decode cX8_word 51 = .ok (.iload 4, 2) := dq_21 dp_cX8_word rfl
theorem dX8_word_53 : decode cX8_word 53 = .ok (.iadd, 1) := dq_96 dp_cX8_word rfl
theorem dX8_word_54 : decode cX8_word 54 = .ok (.laload, 1) := dq_47 dp_cX8_word rfl
theorem dX8_word_55 : decode cX8_word 55 = .ok (.l2i, 1) := dq_136 dp_cX8_word rfl
theorem dX8_word_56 : decode cX8_word 56 = .ok (.aload_n 0, 1) := dq_42 dp_cX8_word rfl
theorem dX8_word_57 : decode cX8_word 57 = .ok (.getfield 66, 3) := dq_180 dp_cX8_word rfl
theorem dX8_word_60 : decode cX8_word 60 = .ok (.iload 5, 2) := dq_21 dp_cX8_word rfl
theorem dX8_word_62 : decode cX8_word 62 = .ok (.iaload, 1) := dq_46 dp_cX8_word rfl
theorem dX8_word_63 : decode cX8_word 63 = .ok (.if_icmp .ne 12, 3) := dq_160 (v := 12) dp_cX8_word rfl rfl
theorem dX8_word_66 : decode cX8_word 66 = .ok (.iinc 4 1, 3) := dq_132 (v := 1) dp_cX8_word rfl (by decide) rfl
theorem dX8_word_69 : decode cX8_word 69 = .ok (.iinc 5 1, 3) := dq_132 (v := 1) dp_cX8_word rfl (by decide) rfl
theorem dX8_word_72 : decode cX8_word 72 = .ok (.goto (-48), 3) := dq_167 (v := 65488) dp_cX8_word rfl rfl
theorem dX8_word_75 : decode cX8_word 75 = .ok (.aload_n 0, 1) := dq_42 dp_cX8_word rfl
theorem dX8_word_76 : decode cX8_word 76 = .ok (.getfield 66, 3) := dq_180 dp_cX8_word rfl
theorem dX8_word_79 : decode cX8_word 79 = .ok (.iload 5, 2) := dq_21 dp_cX8_word rfl
theorem dX8_word_81 : decode cX8_word 81 = .ok (.iaload, 1) := dq_46 dp_cX8_word rfl
theorem dX8_word_82 : decode cX8_word 82 = .ok (.ifCond .ne 11, 3) := dq_154 (v := 11) dp_cX8_word rfl rfl
theorem dX8_word_85 : decode cX8_word 85 = .ok (.aload_n 0, 1) := dq_42 dp_cX8_word rfl
theorem dX8_word_86 : decode cX8_word 86 = .ok (.iload 4, 2) := dq_21 dp_cX8_word rfl
theorem dX8_word_88 : decode cX8_word 88 = .ok (.putfield 152, 3) := dq_181 dp_cX8_word rfl
theorem dX8_word_91 : decode cX8_word 91 = .ok (.iload_n 3, 1) := dq_29 dp_cX8_word rfl
theorem dX8_word_92 : decode cX8_word 92 = .ok (.ireturn, 1) := dq_172 dp_cX8_word rfl
theorem dX8_word_93 : decode cX8_word 93 = .ok (.iload 4, 2) := dq_21 dp_cX8_word rfl
theorem dX8_word_95 : decode cX8_word 95 = .ok (.iload_n 2, 1) := dq_28 dp_cX8_word rfl
theorem dX8_word_96 : decode cX8_word 96 = .ok (.if_icmp .le 8, 3) := dq_164 (v := 8) dp_cX8_word rfl rfl
theorem dX8_word_99 : decode cX8_word 99 = .ok (.iload 4, 2) := dq_21 dp_cX8_word rfl
theorem dX8_word_101 : decode cX8_word 101 = .ok (.goto 4, 3) := dq_167 (v := 4) dp_cX8_word rfl rfl
theorem dX8_word_104 : decode cX8_word 104 = .ok (.iload_n 2, 1) := dq_28 dp_cX8_word rfl
theorem dX8_word_105 : decode cX8_word 105 = .ok (.istore_n 2, 1) := dq_61 dp_cX8_word rfl
theorem dX8_word_106 : decode cX8_word 106 = .ok (.aload_n 0, 1) := dq_42 dp_cX8_word rfl
theorem dX8_word_107 : decode cX8_word 107 = .ok (.getfield 66, 3) := dq_180 dp_cX8_word rfl
theorem dX8_word_110 : decode cX8_word 110 = .ok (.iload_n 1, 1) := dq_27 dp_cX8_word rfl
theorem dX8_word_111 : decode cX8_word 111 = .ok (.iaload, 1) := dq_46 dp_cX8_word rfl
theorem dX8_word_112 : decode cX8_word 112 = .ok (.ifCond .eq 9, 3) := dq_153 (v := 9) dp_cX8_word rfl rfl
theorem dX8_word_115 : decode cX8_word 115 = .ok (.iinc 1 1, 3) := dq_132 (v := 1) dp_cX8_word rfl (by decide) rfl
theorem dX8_word_118 : decode cX8_word 118 = .ok (.goto (-12), 3) := dq_167 (v := 65524) dp_cX8_word rfl rfl
theorem dX8_word_121 : decode cX8_word 121 = .ok (.iinc 1 1, 3) := dq_132 (v := 1) dp_cX8_word rfl (by decide) rfl
theorem dX8_word_124 : decode cX8_word 124 = .ok (.iinc 3 1, 3) := dq_132 (v := 1) dp_cX8_word rfl (by decide) rfl
theorem dX8_word_127 : decode cX8_word 127 = .ok (.goto (-118), 3) := dq_167 (v := 65418) dp_cX8_word rfl rfl
theorem dX8_word_130 : decode cX8_word 130 = .ok (.aload_n 0, 1) := dq_42 dp_cX8_word rfl
theorem dX8_word_131 : decode cX8_word 131 = .ok (.iload_n 2, 1) := dq_28 dp_cX8_word rfl
theorem dX8_word_132 : decode cX8_word 132 = .ok (.putfield 149, 3) := dq_181 dp_cX8_word rfl
theorem dX8_word_135 : decode cX8_word 135 = .ok (.iconst (-1), 1) := dq_2 dp_cX8_word rfl
theorem dX8_word_136 : decode cX8_word 136 = .ok (.ireturn, 1) := dq_172 dp_cX8_word rfl
set_option maxRecDepth 20000 in
theorem gl_X8_item_X80 : GoodIn wsX8_item wsX80 := (dg_t (dg_r gw_wsX80))
theorem ggX8_item_X8_stands : GoodIn wsX8_item wsX8_stands := (dg_c 17 rfl rfl (dg_c 18 rfl rfl (dg_c 2 rfl rfl (dg_c 4 rfl rfl (dg_c 5 rfl rfl (dg_c 6 rfl rfl gl_X8_item_X80))))))
set_option maxRecDepth 20000 in
theorem gX8_item_X8_stands : GoodIn wsX8_item (wsV RX8 171 RX8 yX8_stands wsX8_stands) := goodIn_app (dg_c 13 rfl rfl (dg_c 14 rfl rfl (dg_c 15 rfl rfl (dg_c 16 rfl rfl dg_0)))) ggX8_item_X8_stands
set_option maxRecDepth 20000 in
theorem ggX8_item_X8_wrong : GoodIn wsX8_item wsX8_wrong := (dg_c 22 rfl rfl (dg_c 23 rfl rfl gl_X8_item_X80))
set_option maxRecDepth 20000 in
theorem gX8_item_X8_wrong : GoodIn wsX8_item (wsV RX8 168 RX8 yX8_wrong wsX8_wrong) := goodIn_app (dg_c 19 rfl rfl (dg_c 20 rfl rfl (dg_c 21 rfl rfl (dg_c 16 rfl rfl dg_0)))) ggX8_item_X8_wrong
set_option maxRecDepth 20000 in
theorem ggX8_item_X8_word : GoodIn wsX8_item wsX8_word := (dg_c 27 rfl rfl (dg_c 2 rfl rfl (dg_c 18 rfl rfl (dg_c 4 rfl rfl (dg_c 5 rfl rfl (dg_c 6 rfl rfl (dg_c 23 rfl rfl gl_X8_item_X80)))))))
set_option maxRecDepth 20000 in
theorem gX8_item_X8_word : GoodIn wsX8_item (wsV RX8 174 RX8 yX8_word wsX8_word) := goodIn_app (dg_c 24 rfl rfl (dg_c 25 rfl rfl (dg_c 26 rfl rfl (dg_c 16 rfl rfl dg_0)))) ggX8_item_X8_word
set_option maxRecDepth 20000 in
theorem ggX8_item_X8_reads : GoodIn wsX8_item wsX8_reads := (dg_c 31 rfl rfl (dg_c 8 rfl rfl (dg_c 2 rfl rfl (dg_c 5 rfl rfl (dg_c 6 rfl rfl (dg_c 32 rfl rfl (dg_c 33 rfl rfl (dg_c 34 rfl rfl (dg_c 16 rfl rfl (dg_c 35 rfl rfl (dg_c 4 rfl rfl (dg_c 19 rfl rfl (dg_c 20 rfl rfl (dg_c 21 rfl rfl (dg_c 22 rfl rfl (dg_c 23 rfl rfl gl_X8_item_X80))))))))))))))))
set_option maxRecDepth 20000 in
theorem gX8_item_X8_reads : GoodIn wsX8_item (wsV RX8 178 RX8 yX8_reads wsX8_reads) := goodIn_app (dg_c 28 rfl rfl (dg_c 29 rfl rfl (dg_c 30 rfl rfl (dg_c 16 rfl rfl dg_0)))) ggX8_item_X8_reads
set_option maxRecDepth 20000 in
theorem ggX8_item_X8_isSo : GoodIn wsX8_item wsX8_isSo := (dg_c 39 rfl rfl (dg_c 8 rfl rfl (dg_c 40 rfl rfl (dg_c 41 rfl rfl (dg_c 42 rfl rfl (dg_c 43 rfl rfl (dg_c 16 rfl rfl (dg_c 44 rfl rfl (dg_c 45 rfl rfl (dg_c 46 rfl rfl (dg_c 47 rfl rfl (dg_c 48 rfl rfl gl_X8_item_X80))))))))))))
set_option maxRecDepth 20000 in
theorem gX8_item_X8_isSo : GoodIn wsX8_item (wsV RX8 181 RX8 yX8_isSo wsX8_isSo) := goodIn_app (dg_c 36 rfl rfl (dg_c 37 rfl rfl (dg_c 38 rfl rfl (dg_c 16 rfl rfl dg_0)))) ggX8_item_X8_isSo
set_option maxRecDepth 20000 in
theorem ggX8_item_X8_sews : GoodIn wsX8_item wsX8_sews := (dg_c 52 rfl rfl (dg_c 40 rfl rfl (dg_c 12 rfl rfl (dg_c 9 rfl rfl (dg_c 10 rfl rfl gl_X8_item_X80)))))
set_option maxRecDepth 20000 in
theorem gX8_item_X8_sews : GoodIn wsX8_item (wsV RX8 125 RX8 yX8_sews wsX8_sews) := goodIn_app (dg_c 49 rfl rfl (dg_c 50 rfl rfl (dg_c 51 rfl rfl (dg_c 16 rfl rfl dg_0)))) ggX8_item_X8_sews
set_option maxRecDepth 20000 in
theorem ggX8_item_X8_addsPull : GoodIn wsX8_item wsX8_addsPull := (dg_c 56 rfl rfl (dg_c 57 rfl rfl (dg_c 1 rfl rfl (dg_c 58 rfl rfl (dg_c 59 rfl rfl gl_X8_item_X80)))))
set_option maxRecDepth 20000 in
theorem gX8_item_X8_addsPull : GoodIn wsX8_item (wsV RX8 111 RX8 yX8_addsPull wsX8_addsPull) := goodIn_app (dg_c 53 rfl rfl (dg_c 54 rfl rfl (dg_c 55 rfl rfl (dg_c 16 rfl rfl dg_0)))) ggX8_item_X8_addsPull
set_option maxRecDepth 20000 in
theorem ggX8_item_X8_tells : GoodIn wsX8_item wsX8_tells := (dg_c 63 rfl rfl (dg_c 64 rfl rfl (dg_c 65 rfl rfl (dg_c 66 rfl rfl (dg_c 67 rfl rfl (dg_c 12 rfl rfl (dg_c 11 rfl rfl gl_X8_item_X80)))))))
set_option maxRecDepth 20000 in
theorem gX8_item_X8_tells : GoodIn wsX8_item (wsV RX8 145 RX8 yX8_tells wsX8_tells) := goodIn_app (dg_c 60 rfl rfl (dg_c 61 rfl rfl (dg_c 62 rfl rfl (dg_c 16 rfl rfl dg_0)))) ggX8_item_X8_tells
theorem dX8_item_0 : decode cX8_item 0 = .ok (.aload_n 0, 1) := dq_42 dp_cX8_item rfl
theorem dX8_item_1 : decode cX8_item 1 = .ok (.iconst 3, 1) := dq_6 dp_cX8_item rfl
theorem dX8_item_2 : decode cX8_item 2 = .ok (.invokevirtual 171, 3) := dq_182 dp_cX8_item rfl
theorem dX8_item_5 : decode cX8_item 5 = .ok (.ifCond .eq 21, 3) := dq_153 (v := 21) dp_cX8_item rfl rfl
theorem dX8_item_8 : decode cX8_item 8 = .ok (.aload_n 0, 1) := dq_42 dp_cX8_item rfl
theorem dX8_item_9 : decode cX8_item 9 = .ok (.getfield 90, 3) := dq_180 dp_cX8_item rfl
theorem dX8_item_12 : decode cX8_item 12 = .ok (.bipush 8, 2) := dq_16 (v := 8) dp_cX8_item rfl rfl
theorem dX8_item_14 : decode cX8_item 14 = .ok (.if_icmp .ne 12, 3) := dq_160 (v := 12) dp_cX8_item rfl rfl
theorem dX8_item_17 : decode cX8_item 17 = .ok (.aload_n 0, 1) := dq_42 dp_cX8_item rfl
theorem dX8_item_18 : decode cX8_item 18 = .ok (.aload_n 0, 1) := dq_42 dp_cX8_item rfl
theorem dX8_item_19 : decode cX8_item 19 = .ok (.getfield 152, 3) := dq_180 dp_cX8_item rfl
theorem dX8_item_22 : decode cX8_item 22 = .ok (.invokevirtual 168, 3) := dq_182 dp_cX8_item rfl
theorem dX8_item_25 : decode cX8_item 25 = .ok (.ireturn, 1) := dq_172 dp_cX8_item rfl
theorem dX8_item_26 : decode cX8_item 26 = .ok (.aload_n 0, 1) := dq_42 dp_cX8_item rfl
theorem dX8_item_27 : decode cX8_item 27 = .ok (.invokevirtual 174, 3) := dq_182 dp_cX8_item rfl
theorem dX8_item_30 : decode cX8_item 30 = .ok (.istore_n 1, 1) := dq_60 dp_cX8_item rfl
theorem dX8_item_31 : decode cX8_item 31 = .ok (.iload_n 1, 1) := dq_27 dp_cX8_item rfl
theorem dX8_item_32 : decode cX8_item 32 = .ok (.iconst (-1), 1) := dq_2 dp_cX8_item rfl
theorem dX8_item_33 : decode cX8_item 33 = .ok (.if_icmp .ne 5, 3) := dq_160 (v := 5) dp_cX8_item rfl rfl
theorem dX8_item_36 : decode cX8_item 36 = .ok (.iconst 0, 1) := dq_3 dp_cX8_item rfl
theorem dX8_item_37 : decode cX8_item 37 = .ok (.ireturn, 1) := dq_172 dp_cX8_item rfl
theorem dX8_item_38 : decode cX8_item 38 = .ok (.iconst 0, 1) := dq_3 dp_cX8_item rfl
theorem dX8_item_39 : decode cX8_item 39 = .ok (.istore_n 2, 1) := dq_61 dp_cX8_item rfl
theorem dX8_item_40 : decode cX8_item 40 = .ok (.iload_n 2, 1) := dq_28 dp_cX8_item rfl
theorem dX8_item_41 : decode cX8_item 41 = .ok (.aload_n 0, 1) := dq_42 dp_cX8_item rfl
theorem dX8_item_42 : decode cX8_item 42 = .ok (.getfield 69, 3) := dq_180 dp_cX8_item rfl
theorem dX8_item_45 : decode cX8_item 45 = .ok (.iload_n 1, 1) := dq_27 dp_cX8_item rfl
theorem dX8_item_46 : decode cX8_item 46 = .ok (.iaload, 1) := dq_46 dp_cX8_item rfl
theorem dX8_item_47 : decode cX8_item 47 = .ok (.if_icmp .ge 102, 3) := dq_162 (v := 102) dp_cX8_item rfl rfl
theorem dX8_item_50 : decode cX8_item 50 = .ok (.iload_n 2, 1) := dq_28 dp_cX8_item rfl
theorem dX8_item_51 : decode cX8_item 51 = .ok (.ifCond .le 53, 3) := dq_158 (v := 53) dp_cX8_item rfl rfl
theorem dX8_item_54 : decode cX8_item 54 = .ok (.aload_n 0, 1) := dq_42 dp_cX8_item rfl
theorem dX8_item_55 : decode cX8_item 55 = .ok (.getfield 152, 3) := dq_180 dp_cX8_item rfl
theorem dX8_item_58 : decode cX8_item 58 = .ok (.aload_n 0, 1) := dq_42 dp_cX8_item rfl
theorem dX8_item_59 : decode cX8_item 59 = .ok (.getfield 155, 3) := dq_180 dp_cX8_item rfl
theorem dX8_item_62 : decode cX8_item 62 = .ok (.if_icmp .ge 23, 3) := dq_162 (v := 23) dp_cX8_item rfl rfl
theorem dX8_item_65 : decode cX8_item 65 = .ok (.aload_n 0, 1) := dq_42 dp_cX8_item rfl
theorem dX8_item_66 : decode cX8_item 66 = .ok (.getfield 59, 3) := dq_180 dp_cX8_item rfl
theorem dX8_item_69 : decode cX8_item 69 = .ok (.aload_n 0, 1) := dq_42 dp_cX8_item rfl
theorem dX8_item_70 : decode cX8_item 70 = .ok (.getfield 158, 3) := dq_180 dp_cX8_item rfl
theorem dX8_item_73 : decode cX8_item 73 = .ok (.aload_n 0, 1) := dq_42 dp_cX8_item rfl
theorem dX8_item_74 : decode cX8_item 74 = .ok (.getfield 152, 3) := dq_180 dp_cX8_item rfl
theorem dX8_item_77 : decode cX8_item 77 = .ok (.iadd, 1) := dq_96 dp_cX8_item rfl
theorem dX8_item_78 : decode cX8_item 78 = .ok (.laload, 1) := dq_47 dp_cX8_item rfl
theorem dX8_item_79 : decode cX8_item 79 = .ok (.l2i, 1) := dq_136 dp_cX8_item rfl
theorem dX8_item_80 : decode cX8_item 80 = .ok (.bipush 32, 2) := dq_16 (v := 32) dp_cX8_item rfl rfl
theorem dX8_item_82 : decode cX8_item 82 = .ok (.if_icmp .eq 12, 3) := dq_159 (v := 12) dp_cX8_item rfl rfl
theorem dX8_item_85 : decode cX8_item 85 = .ok (.aload_n 0, 1) := dq_42 dp_cX8_item rfl
theorem dX8_item_86 : decode cX8_item 86 = .ok (.aload_n 0, 1) := dq_42 dp_cX8_item rfl
theorem dX8_item_87 : decode cX8_item 87 = .ok (.getfield 152, 3) := dq_180 dp_cX8_item rfl
theorem dX8_item_90 : decode cX8_item 90 = .ok (.invokevirtual 168, 3) := dq_182 dp_cX8_item rfl
theorem dX8_item_93 : decode cX8_item 93 = .ok (.ireturn, 1) := dq_172 dp_cX8_item rfl
theorem dX8_item_94 : decode cX8_item 94 = .ok (.aload_n 0, 1) := dq_42 dp_cX8_item rfl
theorem dX8_item_95 : decode cX8_item 95 = .ok (.dup, 1) := dq_89 dp_cX8_item rfl
theorem dX8_item_96 : decode cX8_item 96 = .ok (.getfield 152, 3) := dq_180 dp_cX8_item rfl
theorem dX8_item_99 : decode cX8_item 99 = .ok (.iconst 1, 1) := dq_4 dp_cX8_item rfl
theorem dX8_item_100 : decode cX8_item 100 = .ok (.iadd, 1) := dq_96 dp_cX8_item rfl
theorem dX8_item_101 : decode cX8_item 101 = .ok (.putfield 152, 3) := dq_181 dp_cX8_item rfl
theorem dX8_item_104 : decode cX8_item 104 = .ok (.aload_n 0, 1) := dq_42 dp_cX8_item rfl
theorem dX8_item_105 : decode cX8_item 105 = .ok (.getfield 152, 3) := dq_180 dp_cX8_item rfl
theorem dX8_item_108 : decode cX8_item 108 = .ok (.istore_n 3, 1) := dq_62 dp_cX8_item rfl
theorem dX8_item_109 : decode cX8_item 109 = .ok (.aload_n 0, 1) := dq_42 dp_cX8_item rfl
theorem dX8_item_110 : decode cX8_item 110 = .ok (.invokevirtual 178, 3) := dq_182 dp_cX8_item rfl
theorem dX8_item_113 : decode cX8_item 113 = .ok (.ifCond .ne 5, 3) := dq_154 (v := 5) dp_cX8_item rfl rfl
theorem dX8_item_116 : decode cX8_item 116 = .ok (.iconst 0, 1) := dq_3 dp_cX8_item rfl
theorem dX8_item_117 : decode cX8_item 117 = .ok (.ireturn, 1) := dq_172 dp_cX8_item rfl
theorem dX8_item_118 : decode cX8_item 118 = .ok (.aload_n 0, 1) := dq_42 dp_cX8_item rfl
theorem dX8_item_119 : decode cX8_item 119 = .ok (.iload_n 1, 1) := dq_27 dp_cX8_item rfl
theorem dX8_item_120 : decode cX8_item 120 = .ok (.iload_n 2, 1) := dq_28 dp_cX8_item rfl
theorem dX8_item_121 : decode cX8_item 121 = .ok (.invokevirtual 181, 3) := dq_182 dp_cX8_item rfl
theorem dX8_item_124 : decode cX8_item 124 = .ok (.ifCond .ne 9, 3) := dq_154 (v := 9) dp_cX8_item rfl rfl
theorem dX8_item_127 : decode cX8_item 127 = .ok (.aload_n 0, 1) := dq_42 dp_cX8_item rfl
theorem dX8_item_128 : decode cX8_item 128 = .ok (.iload_n 3, 1) := dq_29 dp_cX8_item rfl
theorem dX8_item_129 : decode cX8_item 129 = .ok (.invokevirtual 168, 3) := dq_182 dp_cX8_item rfl
theorem dX8_item_132 : decode cX8_item 132 = .ok (.ireturn, 1) := dq_172 dp_cX8_item rfl
theorem dX8_item_133 : decode cX8_item 133 = .ok (.aload_n 0, 1) := dq_42 dp_cX8_item rfl
theorem dX8_item_134 : decode cX8_item 134 = .ok (.getfield 72, 3) := dq_180 dp_cX8_item rfl
theorem dX8_item_137 : decode cX8_item 137 = .ok (.iload_n 2, 1) := dq_28 dp_cX8_item rfl
theorem dX8_item_138 : decode cX8_item 138 = .ok (.aload_n 0, 1) := dq_42 dp_cX8_item rfl
theorem dX8_item_139 : decode cX8_item 139 = .ok (.getfield 161, 3) := dq_180 dp_cX8_item rfl
theorem dX8_item_142 : decode cX8_item 142 = .ok (.iastore, 1) := dq_79 dp_cX8_item rfl
theorem dX8_item_143 : decode cX8_item 143 = .ok (.iinc 2 1, 3) := dq_132 (v := 1) dp_cX8_item rfl (by decide) rfl
theorem dX8_item_146 : decode cX8_item 146 = .ok (.goto (-106), 3) := dq_167 (v := 65430) dp_cX8_item rfl rfl
theorem dX8_item_149 : decode cX8_item 149 = .ok (.iload_n 1, 1) := dq_27 dp_cX8_item rfl
theorem dX8_item_150 : decode cX8_item 150 = .ok (.tableswitch 161 0 9 #[54, 67, 82, 102, 161, 161, 161, 161, 128, 148], 54) := by decide +kernel
theorem dX8_item_204 : decode cX8_item 204 = .ok (.aload_n 0, 1) := dq_42 dp_cX8_item rfl
theorem dX8_item_205 : decode cX8_item 205 = .ok (.aload_n 0, 1) := dq_42 dp_cX8_item rfl
theorem dX8_item_206 : decode cX8_item 206 = .ok (.getfield 72, 3) := dq_180 dp_cX8_item rfl
theorem dX8_item_209 : decode cX8_item 209 = .ok (.iconst 0, 1) := dq_3 dp_cX8_item rfl
theorem dX8_item_210 : decode cX8_item 210 = .ok (.iaload, 1) := dq_46 dp_cX8_item rfl
theorem dX8_item_211 : decode cX8_item 211 = .ok (.invokevirtual 125, 3) := dq_182 dp_cX8_item rfl
theorem dX8_item_214 : decode cX8_item 214 = .ok (.goto 110, 3) := dq_167 (v := 110) dp_cX8_item rfl rfl
theorem dX8_item_217 : decode cX8_item 217 = .ok (.aload_n 0, 1) := dq_42 dp_cX8_item rfl
theorem dX8_item_218 : decode cX8_item 218 = .ok (.getfield 38, 3) := dq_180 dp_cX8_item rfl
theorem dX8_item_221 : decode cX8_item 221 = .ok (.aload_n 0, 1) := dq_42 dp_cX8_item rfl
theorem dX8_item_222 : decode cX8_item 222 = .ok (.getfield 72, 3) := dq_180 dp_cX8_item rfl
theorem dX8_item_225 : decode cX8_item 225 = .ok (.iconst 0, 1) := dq_3 dp_cX8_item rfl
theorem dX8_item_226 : decode cX8_item 226 = .ok (.iaload, 1) := dq_46 dp_cX8_item rfl
theorem dX8_item_227 : decode cX8_item 227 = .ok (.iconst 1, 1) := dq_4 dp_cX8_item rfl
theorem dX8_item_228 : decode cX8_item 228 = .ok (.iastore, 1) := dq_79 dp_cX8_item rfl
theorem dX8_item_229 : decode cX8_item 229 = .ok (.goto 95, 3) := dq_167 (v := 95) dp_cX8_item rfl rfl
theorem dX8_item_232 : decode cX8_item 232 = .ok (.aload_n 0, 1) := dq_42 dp_cX8_item rfl
theorem dX8_item_233 : decode cX8_item 233 = .ok (.getfield 41, 3) := dq_180 dp_cX8_item rfl
theorem dX8_item_236 : decode cX8_item 236 = .ok (.aload_n 0, 1) := dq_42 dp_cX8_item rfl
theorem dX8_item_237 : decode cX8_item 237 = .ok (.getfield 72, 3) := dq_180 dp_cX8_item rfl
theorem dX8_item_240 : decode cX8_item 240 = .ok (.iconst 0, 1) := dq_3 dp_cX8_item rfl
theorem dX8_item_241 : decode cX8_item 241 = .ok (.iaload, 1) := dq_46 dp_cX8_item rfl
theorem dX8_item_242 : decode cX8_item 242 = .ok (.aload_n 0, 1) := dq_42 dp_cX8_item rfl
theorem dX8_item_243 : decode cX8_item 243 = .ok (.getfield 72, 3) := dq_180 dp_cX8_item rfl
theorem dX8_item_246 : decode cX8_item 246 = .ok (.iconst 1, 1) := dq_4 dp_cX8_item rfl
theorem dX8_item_247 : decode cX8_item 247 = .ok (.iaload, 1) := dq_46 dp_cX8_item rfl
theorem dX8_item_248 : decode cX8_item 248 = .ok (.iastore, 1) := dq_79 dp_cX8_item rfl
theorem dX8_item_249 : decode cX8_item 249 = .ok (.goto 75, 3) := dq_167 (v := 75) dp_cX8_item rfl rfl
theorem dX8_item_252 : decode cX8_item 252 = .ok (.aload_n 0, 1) := dq_42 dp_cX8_item rfl
theorem dX8_item_253 : decode cX8_item 253 = .ok (.aload_n 0, 1) := dq_42 dp_cX8_item rfl
theorem dX8_item_254 : decode cX8_item 254 = .ok (.getfield 72, 3) := dq_180 dp_cX8_item rfl
theorem dX8_item_257 : decode cX8_item 257 = .ok (.iconst 0, 1) := dq_3 dp_cX8_item rfl
theorem dX8_item_258 : decode cX8_item 258 = .ok (.iaload, 1) := dq_46 dp_cX8_item rfl
theorem dX8_item_259 : decode cX8_item 259 = .ok (.aload_n 0, 1) := dq_42 dp_cX8_item rfl
theorem dX8_item_260 : decode cX8_item 260 = .ok (.getfield 72, 3) := dq_180 dp_cX8_item rfl
theorem dX8_item_263 : decode cX8_item 263 = .ok (.iconst 1, 1) := dq_4 dp_cX8_item rfl
theorem dX8_item_264 : decode cX8_item 264 = .ok (.iaload, 1) := dq_46 dp_cX8_item rfl
theorem dX8_item_265 : decode cX8_item 265 = .ok (.aload_n 0, 1) := dq_42 dp_cX8_item rfl
theorem dX8_item_266 : decode cX8_item 266 = .ok (.getfield 72, 3) := dq_180 dp_cX8_item rfl
theorem dX8_item_269 : decode cX8_item 269 = .ok (.iconst 2, 1) := dq_5 dp_cX8_item rfl
theorem dX8_item_270 : decode cX8_item 270 = .ok (.iaload, 1) := dq_46 dp_cX8_item rfl
theorem dX8_item_271 : decode cX8_item 271 = .ok (.invokevirtual 111, 3) := dq_182 dp_cX8_item rfl
theorem dX8_item_274 : decode cX8_item 274 = .ok (.pop, 1) := dq_87 dp_cX8_item rfl
theorem dX8_item_275 : decode cX8_item 275 = .ok (.goto 49, 3) := dq_167 (v := 49) dp_cX8_item rfl rfl
theorem dX8_item_278 : decode cX8_item 278 = .ok (.aload_n 0, 1) := dq_42 dp_cX8_item rfl
theorem dX8_item_279 : decode cX8_item 279 = .ok (.getfield 44, 3) := dq_180 dp_cX8_item rfl
theorem dX8_item_282 : decode cX8_item 282 = .ok (.aload_n 0, 1) := dq_42 dp_cX8_item rfl
theorem dX8_item_283 : decode cX8_item 283 = .ok (.getfield 72, 3) := dq_180 dp_cX8_item rfl
theorem dX8_item_286 : decode cX8_item 286 = .ok (.iconst 0, 1) := dq_3 dp_cX8_item rfl
theorem dX8_item_287 : decode cX8_item 287 = .ok (.iaload, 1) := dq_46 dp_cX8_item rfl
theorem dX8_item_288 : decode cX8_item 288 = .ok (.aload_n 0, 1) := dq_42 dp_cX8_item rfl
theorem dX8_item_289 : decode cX8_item 289 = .ok (.getfield 72, 3) := dq_180 dp_cX8_item rfl
theorem dX8_item_292 : decode cX8_item 292 = .ok (.iconst 1, 1) := dq_4 dp_cX8_item rfl
theorem dX8_item_293 : decode cX8_item 293 = .ok (.iaload, 1) := dq_46 dp_cX8_item rfl
theorem dX8_item_294 : decode cX8_item 294 = .ok (.iastore, 1) := dq_79 dp_cX8_item rfl
theorem dX8_item_295 : decode cX8_item 295 = .ok (.goto 29, 3) := dq_167 (v := 29) dp_cX8_item rfl rfl
theorem dX8_item_298 : decode cX8_item 298 = .ok (.aload_n 0, 1) := dq_42 dp_cX8_item rfl
theorem dX8_item_299 : decode cX8_item 299 = .ok (.aload_n 0, 1) := dq_42 dp_cX8_item rfl
theorem dX8_item_300 : decode cX8_item 300 = .ok (.getfield 72, 3) := dq_180 dp_cX8_item rfl
theorem dX8_item_303 : decode cX8_item 303 = .ok (.iconst 0, 1) := dq_3 dp_cX8_item rfl
theorem dX8_item_304 : decode cX8_item 304 = .ok (.iaload, 1) := dq_46 dp_cX8_item rfl
theorem dX8_item_305 : decode cX8_item 305 = .ok (.putfield 122, 3) := dq_181 dp_cX8_item rfl
theorem dX8_item_308 : decode cX8_item 308 = .ok (.goto 16, 3) := dq_167 (v := 16) dp_cX8_item rfl rfl
theorem dX8_item_311 : decode cX8_item 311 = .ok (.aload_n 0, 1) := dq_42 dp_cX8_item rfl
theorem dX8_item_312 : decode cX8_item 312 = .ok (.iload_n 1, 1) := dq_27 dp_cX8_item rfl
theorem dX8_item_313 : decode cX8_item 313 = .ok (.iconst 4, 1) := dq_7 dp_cX8_item rfl
theorem dX8_item_314 : decode cX8_item 314 = .ok (.isub, 1) := dq_100 dp_cX8_item rfl
theorem dX8_item_315 : decode cX8_item 315 = .ok (.aload_n 0, 1) := dq_42 dp_cX8_item rfl
theorem dX8_item_316 : decode cX8_item 316 = .ok (.getfield 72, 3) := dq_180 dp_cX8_item rfl
theorem dX8_item_319 : decode cX8_item 319 = .ok (.iconst 0, 1) := dq_3 dp_cX8_item rfl
theorem dX8_item_320 : decode cX8_item 320 = .ok (.iaload, 1) := dq_46 dp_cX8_item rfl
theorem dX8_item_321 : decode cX8_item 321 = .ok (.invokevirtual 145, 3) := dq_182 dp_cX8_item rfl
theorem dX8_item_324 : decode cX8_item 324 = .ok (.iconst 1, 1) := dq_4 dp_cX8_item rfl
theorem dX8_item_325 : decode cX8_item 325 = .ok (.ireturn, 1) := dq_172 dp_cX8_item rfl
theorem dX8_carries_0 : decode cX8_carries 0 = .ok (.iconst 0, 1) := dq_3 dp_cX8_carries rfl
theorem dX8_carries_1 : decode cX8_carries 1 = .ok (.istore 6, 2) := dq_54 dp_cX8_carries rfl
theorem dX8_carries_3 : decode cX8_carries 3 = .ok (.iload 6, 2) := dq_21 dp_cX8_carries rfl
theorem dX8_carries_5 : decode cX8_carries 5 = .ok (.iload_n 2, 1) := dq_28 dp_cX8_carries rfl
theorem dX8_carries_6 : decode cX8_carries 6 = .ok (.if_icmp .ge 39, 3) := dq_162 (v := 39) dp_cX8_carries rfl rfl
theorem dX8_carries_9 : decode cX8_carries 9 = .ok (.iload 5, 2) := dq_21 dp_cX8_carries rfl
theorem dX8_carries_11 : decode cX8_carries 11 = .ok (.ifCond .eq 17, 3) := dq_153 (v := 17) dp_cX8_carries rfl rfl
theorem dX8_carries_14 : decode cX8_carries 14 = .ok (.aload_n 1, 1) := dq_43 dp_cX8_carries rfl
theorem dX8_carries_15 : decode cX8_carries 15 = .ok (.iload 6, 2) := dq_21 dp_cX8_carries rfl
theorem dX8_carries_17 : decode cX8_carries 17 = .ok (.aload_n 3, 1) := dq_45 dp_cX8_carries rfl
theorem dX8_carries_18 : decode cX8_carries 18 = .ok (.iload 4, 2) := dq_21 dp_cX8_carries rfl
theorem dX8_carries_20 : decode cX8_carries 20 = .ok (.iload 6, 2) := dq_21 dp_cX8_carries rfl
theorem dX8_carries_22 : decode cX8_carries 22 = .ok (.iadd, 1) := dq_96 dp_cX8_carries rfl
theorem dX8_carries_23 : decode cX8_carries 23 = .ok (.iaload, 1) := dq_46 dp_cX8_carries rfl
theorem dX8_carries_24 : decode cX8_carries 24 = .ok (.iastore, 1) := dq_79 dp_cX8_carries rfl
theorem dX8_carries_25 : decode cX8_carries 25 = .ok (.goto 14, 3) := dq_167 (v := 14) dp_cX8_carries rfl rfl
theorem dX8_carries_28 : decode cX8_carries 28 = .ok (.aload_n 3, 1) := dq_45 dp_cX8_carries rfl
theorem dX8_carries_29 : decode cX8_carries 29 = .ok (.iload 4, 2) := dq_21 dp_cX8_carries rfl
theorem dX8_carries_31 : decode cX8_carries 31 = .ok (.iload 6, 2) := dq_21 dp_cX8_carries rfl
theorem dX8_carries_33 : decode cX8_carries 33 = .ok (.iadd, 1) := dq_96 dp_cX8_carries rfl
theorem dX8_carries_34 : decode cX8_carries 34 = .ok (.aload_n 1, 1) := dq_43 dp_cX8_carries rfl
theorem dX8_carries_35 : decode cX8_carries 35 = .ok (.iload 6, 2) := dq_21 dp_cX8_carries rfl
theorem dX8_carries_37 : decode cX8_carries 37 = .ok (.iaload, 1) := dq_46 dp_cX8_carries rfl
theorem dX8_carries_38 : decode cX8_carries 38 = .ok (.iastore, 1) := dq_79 dp_cX8_carries rfl
theorem dX8_carries_39 : decode cX8_carries 39 = .ok (.iinc 6 1, 3) := dq_132 (v := 1) dp_cX8_carries rfl (by decide) rfl
theorem dX8_carries_42 : decode cX8_carries 42 = .ok (.goto (-39), 3) := dq_167 (v := 65497) dp_cX8_carries rfl rfl
theorem dX8_carries_45 : decode cX8_carries 45 = .ok (.iload 4, 2) := dq_21 dp_cX8_carries rfl
theorem dX8_carries_47 : decode cX8_carries 47 = .ok (.iload_n 2, 1) := dq_28 dp_cX8_carries rfl
theorem dX8_carries_48 : decode cX8_carries 48 = .ok (.iadd, 1) := dq_96 dp_cX8_carries rfl
theorem dX8_carries_49 : decode cX8_carries 49 = .ok (.ireturn, 1) := dq_172 dp_cX8_carries rfl
set_option maxRecDepth 20000 in
theorem ggX8_all_X8_carries : GoodIn wsX8_all wsX8_carries := (dg_c 20 rfl rfl dg_0)
set_option maxRecDepth 20000 in
theorem gX8_all_X8_carries : GoodIn wsX8_all (wsV RX8 184 RX8 yX8_carries wsX8_carries) := goodIn_app (dg_c 16 rfl rfl (dg_c 17 rfl rfl (dg_c 18 rfl rfl (dg_c 19 rfl rfl dg_0)))) ggX8_all_X8_carries
theorem dX8_all_0 : decode cX8_all 0 = .ok (.aload_n 0, 1) := dq_42 dp_cX8_all rfl
theorem dX8_all_1 : decode cX8_all 1 = .ok (.aload_n 0, 1) := dq_42 dp_cX8_all rfl
theorem dX8_all_2 : decode cX8_all 2 = .ok (.getfield 29, 3) := dq_180 dp_cX8_all rfl
theorem dX8_all_5 : decode cX8_all 5 = .ok (.bipush 8, 2) := dq_16 (v := 8) dp_cX8_all rfl rfl
theorem dX8_all_7 : decode cX8_all 7 = .ok (.aload_n 1, 1) := dq_43 dp_cX8_all rfl
theorem dX8_all_8 : decode cX8_all 8 = .ok (.iconst 0, 1) := dq_3 dp_cX8_all rfl
theorem dX8_all_9 : decode cX8_all 9 = .ok (.iload_n 2, 1) := dq_28 dp_cX8_all rfl
theorem dX8_all_10 : decode cX8_all 10 = .ok (.invokevirtual 184, 3) := dq_182 dp_cX8_all rfl
theorem dX8_all_13 : decode cX8_all 13 = .ok (.istore_n 3, 1) := dq_62 dp_cX8_all rfl
theorem dX8_all_14 : decode cX8_all 14 = .ok (.aload_n 0, 1) := dq_42 dp_cX8_all rfl
theorem dX8_all_15 : decode cX8_all 15 = .ok (.aload_n 0, 1) := dq_42 dp_cX8_all rfl
theorem dX8_all_16 : decode cX8_all 16 = .ok (.getfield 32, 3) := dq_180 dp_cX8_all rfl
theorem dX8_all_19 : decode cX8_all 19 = .ok (.bipush 8, 2) := dq_16 (v := 8) dp_cX8_all rfl rfl
theorem dX8_all_21 : decode cX8_all 21 = .ok (.aload_n 1, 1) := dq_43 dp_cX8_all rfl
theorem dX8_all_22 : decode cX8_all 22 = .ok (.iload_n 3, 1) := dq_29 dp_cX8_all rfl
theorem dX8_all_23 : decode cX8_all 23 = .ok (.iload_n 2, 1) := dq_28 dp_cX8_all rfl
theorem dX8_all_24 : decode cX8_all 24 = .ok (.invokevirtual 184, 3) := dq_182 dp_cX8_all rfl
theorem dX8_all_27 : decode cX8_all 27 = .ok (.istore_n 3, 1) := dq_62 dp_cX8_all rfl
theorem dX8_all_28 : decode cX8_all 28 = .ok (.aload_n 0, 1) := dq_42 dp_cX8_all rfl
theorem dX8_all_29 : decode cX8_all 29 = .ok (.aload_n 0, 1) := dq_42 dp_cX8_all rfl
theorem dX8_all_30 : decode cX8_all 30 = .ok (.getfield 35, 3) := dq_180 dp_cX8_all rfl
theorem dX8_all_33 : decode cX8_all 33 = .ok (.bipush 8, 2) := dq_16 (v := 8) dp_cX8_all rfl rfl
theorem dX8_all_35 : decode cX8_all 35 = .ok (.aload_n 1, 1) := dq_43 dp_cX8_all rfl
theorem dX8_all_36 : decode cX8_all 36 = .ok (.iload_n 3, 1) := dq_29 dp_cX8_all rfl
theorem dX8_all_37 : decode cX8_all 37 = .ok (.iload_n 2, 1) := dq_28 dp_cX8_all rfl
theorem dX8_all_38 : decode cX8_all 38 = .ok (.invokevirtual 184, 3) := dq_182 dp_cX8_all rfl
theorem dX8_all_41 : decode cX8_all 41 = .ok (.istore_n 3, 1) := dq_62 dp_cX8_all rfl
theorem dX8_all_42 : decode cX8_all 42 = .ok (.aload_n 0, 1) := dq_42 dp_cX8_all rfl
theorem dX8_all_43 : decode cX8_all 43 = .ok (.aload_n 0, 1) := dq_42 dp_cX8_all rfl
theorem dX8_all_44 : decode cX8_all 44 = .ok (.getfield 38, 3) := dq_180 dp_cX8_all rfl
theorem dX8_all_47 : decode cX8_all 47 = .ok (.bipush 40, 2) := dq_16 (v := 40) dp_cX8_all rfl rfl
theorem dX8_all_49 : decode cX8_all 49 = .ok (.aload_n 1, 1) := dq_43 dp_cX8_all rfl
theorem dX8_all_50 : decode cX8_all 50 = .ok (.iload_n 3, 1) := dq_29 dp_cX8_all rfl
theorem dX8_all_51 : decode cX8_all 51 = .ok (.iload_n 2, 1) := dq_28 dp_cX8_all rfl
theorem dX8_all_52 : decode cX8_all 52 = .ok (.invokevirtual 184, 3) := dq_182 dp_cX8_all rfl
theorem dX8_all_55 : decode cX8_all 55 = .ok (.istore_n 3, 1) := dq_62 dp_cX8_all rfl
theorem dX8_all_56 : decode cX8_all 56 = .ok (.aload_n 0, 1) := dq_42 dp_cX8_all rfl
theorem dX8_all_57 : decode cX8_all 57 = .ok (.aload_n 0, 1) := dq_42 dp_cX8_all rfl
theorem dX8_all_58 : decode cX8_all 58 = .ok (.getfield 41, 3) := dq_180 dp_cX8_all rfl
theorem dX8_all_61 : decode cX8_all 61 = .ok (.bipush 40, 2) := dq_16 (v := 40) dp_cX8_all rfl rfl
theorem dX8_all_63 : decode cX8_all 63 = .ok (.aload_n 1, 1) := dq_43 dp_cX8_all rfl
theorem dX8_all_64 : decode cX8_all 64 = .ok (.iload_n 3, 1) := dq_29 dp_cX8_all rfl
theorem dX8_all_65 : decode cX8_all 65 = .ok (.iload_n 2, 1) := dq_28 dp_cX8_all rfl
theorem dX8_all_66 : decode cX8_all 66 = .ok (.invokevirtual 184, 3) := dq_182 dp_cX8_all rfl
theorem dX8_all_69 : decode cX8_all 69 = .ok (.istore_n 3, 1) := dq_62 dp_cX8_all rfl
theorem dX8_all_70 : decode cX8_all 70 = .ok (.aload_n 0, 1) := dq_42 dp_cX8_all rfl
theorem dX8_all_71 : decode cX8_all 71 = .ok (.aload_n 0, 1) := dq_42 dp_cX8_all rfl
theorem dX8_all_72 : decode cX8_all 72 = .ok (.getfield 44, 3) := dq_180 dp_cX8_all rfl
theorem dX8_all_75 : decode cX8_all 75 = .ok (.iconst 3, 1) := dq_6 dp_cX8_all rfl
theorem dX8_all_76 : decode cX8_all 76 = .ok (.aload_n 1, 1) := dq_43 dp_cX8_all rfl
theorem dX8_all_77 : decode cX8_all 77 = .ok (.iload_n 3, 1) := dq_29 dp_cX8_all rfl
theorem dX8_all_78 : decode cX8_all 78 = .ok (.iload_n 2, 1) := dq_28 dp_cX8_all rfl
theorem dX8_all_79 : decode cX8_all 79 = .ok (.invokevirtual 184, 3) := dq_182 dp_cX8_all rfl
theorem dX8_all_82 : decode cX8_all 82 = .ok (.istore_n 3, 1) := dq_62 dp_cX8_all rfl
theorem dX8_all_83 : decode cX8_all 83 = .ok (.iload_n 2, 1) := dq_28 dp_cX8_all rfl
theorem dX8_all_84 : decode cX8_all 84 = .ok (.ifCond .eq 88, 3) := dq_153 (v := 88) dp_cX8_all rfl rfl
theorem dX8_all_87 : decode cX8_all 87 = .ok (.aload_n 0, 1) := dq_42 dp_cX8_all rfl
theorem dX8_all_88 : decode cX8_all 88 = .ok (.aload_n 1, 1) := dq_43 dp_cX8_all rfl
theorem dX8_all_89 : decode cX8_all 89 = .ok (.iload_n 3, 1) := dq_29 dp_cX8_all rfl
theorem dX8_all_90 : decode cX8_all 90 = .ok (.iaload, 1) := dq_46 dp_cX8_all rfl
theorem dX8_all_91 : decode cX8_all 91 = .ok (.putfield 90, 3) := dq_181 dp_cX8_all rfl
theorem dX8_all_94 : decode cX8_all 94 = .ok (.aload_n 0, 1) := dq_42 dp_cX8_all rfl
theorem dX8_all_95 : decode cX8_all 95 = .ok (.aload_n 1, 1) := dq_43 dp_cX8_all rfl
theorem dX8_all_96 : decode cX8_all 96 = .ok (.iload_n 3, 1) := dq_29 dp_cX8_all rfl
theorem dX8_all_97 : decode cX8_all 97 = .ok (.iconst 1, 1) := dq_4 dp_cX8_all rfl
theorem dX8_all_98 : decode cX8_all 98 = .ok (.iadd, 1) := dq_96 dp_cX8_all rfl
theorem dX8_all_99 : decode cX8_all 99 = .ok (.iaload, 1) := dq_46 dp_cX8_all rfl
theorem dX8_all_100 : decode cX8_all 100 = .ok (.putfield 7, 3) := dq_181 dp_cX8_all rfl
theorem dX8_all_103 : decode cX8_all 103 = .ok (.aload_n 0, 1) := dq_42 dp_cX8_all rfl
theorem dX8_all_104 : decode cX8_all 104 = .ok (.aload_n 1, 1) := dq_43 dp_cX8_all rfl
theorem dX8_all_105 : decode cX8_all 105 = .ok (.iload_n 3, 1) := dq_29 dp_cX8_all rfl
theorem dX8_all_106 : decode cX8_all 106 = .ok (.iconst 2, 1) := dq_5 dp_cX8_all rfl
theorem dX8_all_107 : decode cX8_all 107 = .ok (.iadd, 1) := dq_96 dp_cX8_all rfl
theorem dX8_all_108 : decode cX8_all 108 = .ok (.iaload, 1) := dq_46 dp_cX8_all rfl
theorem dX8_all_109 : decode cX8_all 109 = .ok (.putfield 122, 3) := dq_181 dp_cX8_all rfl
theorem dX8_all_112 : decode cX8_all 112 = .ok (.aload_n 0, 1) := dq_42 dp_cX8_all rfl
theorem dX8_all_113 : decode cX8_all 113 = .ok (.aload_n 1, 1) := dq_43 dp_cX8_all rfl
theorem dX8_all_114 : decode cX8_all 114 = .ok (.iload_n 3, 1) := dq_29 dp_cX8_all rfl
theorem dX8_all_115 : decode cX8_all 115 = .ok (.iconst 3, 1) := dq_6 dp_cX8_all rfl
theorem dX8_all_116 : decode cX8_all 116 = .ok (.iadd, 1) := dq_96 dp_cX8_all rfl
theorem dX8_all_117 : decode cX8_all 117 = .ok (.iaload, 1) := dq_46 dp_cX8_all rfl
theorem dX8_all_118 : decode cX8_all 118 = .ok (.putfield 115, 3) := dq_181 dp_cX8_all rfl
theorem dX8_all_121 : decode cX8_all 121 = .ok (.aload_n 0, 1) := dq_42 dp_cX8_all rfl
theorem dX8_all_122 : decode cX8_all 122 = .ok (.aload_n 1, 1) := dq_43 dp_cX8_all rfl
theorem dX8_all_123 : decode cX8_all 123 = .ok (.iload_n 3, 1) := dq_29 dp_cX8_all rfl
theorem dX8_all_124 : decode cX8_all 124 = .ok (.iconst 4, 1) := dq_7 dp_cX8_all rfl
theorem dX8_all_125 : decode cX8_all 125 = .ok (.iadd, 1) := dq_96 dp_cX8_all rfl
theorem dX8_all_126 : decode cX8_all 126 = .ok (.iaload, 1) := dq_46 dp_cX8_all rfl
theorem dX8_all_127 : decode cX8_all 127 = .ok (.putfield 188, 3) := dq_181 dp_cX8_all rfl
theorem dX8_all_130 : decode cX8_all 130 = .ok (.aload_n 0, 1) := dq_42 dp_cX8_all rfl
theorem dX8_all_131 : decode cX8_all 131 = .ok (.aload_n 1, 1) := dq_43 dp_cX8_all rfl
theorem dX8_all_132 : decode cX8_all 132 = .ok (.iload_n 3, 1) := dq_29 dp_cX8_all rfl
theorem dX8_all_133 : decode cX8_all 133 = .ok (.iconst 5, 1) := dq_8 dp_cX8_all rfl
theorem dX8_all_134 : decode cX8_all 134 = .ok (.iadd, 1) := dq_96 dp_cX8_all rfl
theorem dX8_all_135 : decode cX8_all 135 = .ok (.iaload, 1) := dq_46 dp_cX8_all rfl
theorem dX8_all_136 : decode cX8_all 136 = .ok (.putfield 13, 3) := dq_181 dp_cX8_all rfl
theorem dX8_all_139 : decode cX8_all 139 = .ok (.aload_n 0, 1) := dq_42 dp_cX8_all rfl
theorem dX8_all_140 : decode cX8_all 140 = .ok (.aload_n 1, 1) := dq_43 dp_cX8_all rfl
theorem dX8_all_141 : decode cX8_all 141 = .ok (.iload_n 3, 1) := dq_29 dp_cX8_all rfl
theorem dX8_all_142 : decode cX8_all 142 = .ok (.bipush 6, 2) := dq_16 (v := 6) dp_cX8_all rfl rfl
theorem dX8_all_144 : decode cX8_all 144 = .ok (.iadd, 1) := dq_96 dp_cX8_all rfl
theorem dX8_all_145 : decode cX8_all 145 = .ok (.iaload, 1) := dq_46 dp_cX8_all rfl
theorem dX8_all_146 : decode cX8_all 146 = .ok (.putfield 135, 3) := dq_181 dp_cX8_all rfl
theorem dX8_all_149 : decode cX8_all 149 = .ok (.aload_n 0, 1) := dq_42 dp_cX8_all rfl
theorem dX8_all_150 : decode cX8_all 150 = .ok (.aload_n 1, 1) := dq_43 dp_cX8_all rfl
theorem dX8_all_151 : decode cX8_all 151 = .ok (.iload_n 3, 1) := dq_29 dp_cX8_all rfl
theorem dX8_all_152 : decode cX8_all 152 = .ok (.bipush 7, 2) := dq_16 (v := 7) dp_cX8_all rfl rfl
theorem dX8_all_154 : decode cX8_all 154 = .ok (.iadd, 1) := dq_96 dp_cX8_all rfl
theorem dX8_all_155 : decode cX8_all 155 = .ok (.iaload, 1) := dq_46 dp_cX8_all rfl
theorem dX8_all_156 : decode cX8_all 156 = .ok (.putfield 16, 3) := dq_181 dp_cX8_all rfl
theorem dX8_all_159 : decode cX8_all 159 = .ok (.aload_n 0, 1) := dq_42 dp_cX8_all rfl
theorem dX8_all_160 : decode cX8_all 160 = .ok (.aload_n 1, 1) := dq_43 dp_cX8_all rfl
theorem dX8_all_161 : decode cX8_all 161 = .ok (.iload_n 3, 1) := dq_29 dp_cX8_all rfl
theorem dX8_all_162 : decode cX8_all 162 = .ok (.bipush 8, 2) := dq_16 (v := 8) dp_cX8_all rfl rfl
theorem dX8_all_164 : decode cX8_all 164 = .ok (.iadd, 1) := dq_96 dp_cX8_all rfl
theorem dX8_all_165 : decode cX8_all 165 = .ok (.iaload, 1) := dq_46 dp_cX8_all rfl
theorem dX8_all_166 : decode cX8_all 166 = .ok (.putfield 19, 3) := dq_181 dp_cX8_all rfl
theorem dX8_all_169 : decode cX8_all 169 = .ok (.goto 85, 3) := dq_167 (v := 85) dp_cX8_all rfl rfl
theorem dX8_all_172 : decode cX8_all 172 = .ok (.aload_n 1, 1) := dq_43 dp_cX8_all rfl
theorem dX8_all_173 : decode cX8_all 173 = .ok (.iload_n 3, 1) := dq_29 dp_cX8_all rfl
theorem dX8_all_174 : decode cX8_all 174 = .ok (.aload_n 0, 1) := dq_42 dp_cX8_all rfl
theorem dX8_all_175 : decode cX8_all 175 = .ok (.getfield 90, 3) := dq_180 dp_cX8_all rfl
theorem dX8_all_178 : decode cX8_all 178 = .ok (.iastore, 1) := dq_79 dp_cX8_all rfl
theorem dX8_all_179 : decode cX8_all 179 = .ok (.aload_n 1, 1) := dq_43 dp_cX8_all rfl
theorem dX8_all_180 : decode cX8_all 180 = .ok (.iload_n 3, 1) := dq_29 dp_cX8_all rfl
theorem dX8_all_181 : decode cX8_all 181 = .ok (.iconst 1, 1) := dq_4 dp_cX8_all rfl
theorem dX8_all_182 : decode cX8_all 182 = .ok (.iadd, 1) := dq_96 dp_cX8_all rfl
theorem dX8_all_183 : decode cX8_all 183 = .ok (.aload_n 0, 1) := dq_42 dp_cX8_all rfl
theorem dX8_all_184 : decode cX8_all 184 = .ok (.getfield 7, 3) := dq_180 dp_cX8_all rfl
theorem dX8_all_187 : decode cX8_all 187 = .ok (.iastore, 1) := dq_79 dp_cX8_all rfl
theorem dX8_all_188 : decode cX8_all 188 = .ok (.aload_n 1, 1) := dq_43 dp_cX8_all rfl
theorem dX8_all_189 : decode cX8_all 189 = .ok (.iload_n 3, 1) := dq_29 dp_cX8_all rfl
theorem dX8_all_190 : decode cX8_all 190 = .ok (.iconst 2, 1) := dq_5 dp_cX8_all rfl
theorem dX8_all_191 : decode cX8_all 191 = .ok (.iadd, 1) := dq_96 dp_cX8_all rfl
theorem dX8_all_192 : decode cX8_all 192 = .ok (.aload_n 0, 1) := dq_42 dp_cX8_all rfl
theorem dX8_all_193 : decode cX8_all 193 = .ok (.getfield 122, 3) := dq_180 dp_cX8_all rfl
theorem dX8_all_196 : decode cX8_all 196 = .ok (.iastore, 1) := dq_79 dp_cX8_all rfl
theorem dX8_all_197 : decode cX8_all 197 = .ok (.aload_n 1, 1) := dq_43 dp_cX8_all rfl
theorem dX8_all_198 : decode cX8_all 198 = .ok (.iload_n 3, 1) := dq_29 dp_cX8_all rfl
theorem dX8_all_199 : decode cX8_all 199 = .ok (.iconst 3, 1) := dq_6 dp_cX8_all rfl
theorem dX8_all_200 : decode cX8_all 200 = .ok (.iadd, 1) := dq_96 dp_cX8_all rfl
theorem dX8_all_201 : decode cX8_all 201 = .ok (.aload_n 0, 1) := dq_42 dp_cX8_all rfl
theorem dX8_all_202 : decode cX8_all 202 = .ok (.getfield 115, 3) := dq_180 dp_cX8_all rfl
theorem dX8_all_205 : decode cX8_all 205 = .ok (.iastore, 1) := dq_79 dp_cX8_all rfl
theorem dX8_all_206 : decode cX8_all 206 = .ok (.aload_n 1, 1) := dq_43 dp_cX8_all rfl
theorem dX8_all_207 : decode cX8_all 207 = .ok (.iload_n 3, 1) := dq_29 dp_cX8_all rfl
theorem dX8_all_208 : decode cX8_all 208 = .ok (.iconst 4, 1) := dq_7 dp_cX8_all rfl
theorem dX8_all_209 : decode cX8_all 209 = .ok (.iadd, 1) := dq_96 dp_cX8_all rfl
theorem dX8_all_210 : decode cX8_all 210 = .ok (.aload_n 0, 1) := dq_42 dp_cX8_all rfl
theorem dX8_all_211 : decode cX8_all 211 = .ok (.getfield 188, 3) := dq_180 dp_cX8_all rfl
theorem dX8_all_214 : decode cX8_all 214 = .ok (.iastore, 1) := dq_79 dp_cX8_all rfl
theorem dX8_all_215 : decode cX8_all 215 = .ok (.aload_n 1, 1) := dq_43 dp_cX8_all rfl
theorem dX8_all_216 : decode cX8_all 216 = .ok (.iload_n 3, 1) := dq_29 dp_cX8_all rfl
theorem dX8_all_217 : decode cX8_all 217 = .ok (.iconst 5, 1) := dq_8 dp_cX8_all rfl
theorem dX8_all_218 : decode cX8_all 218 = .ok (.iadd, 1) := dq_96 dp_cX8_all rfl
theorem dX8_all_219 : decode cX8_all 219 = .ok (.aload_n 0, 1) := dq_42 dp_cX8_all rfl
theorem dX8_all_220 : decode cX8_all 220 = .ok (.getfield 13, 3) := dq_180 dp_cX8_all rfl
theorem dX8_all_223 : decode cX8_all 223 = .ok (.iastore, 1) := dq_79 dp_cX8_all rfl
theorem dX8_all_224 : decode cX8_all 224 = .ok (.aload_n 1, 1) := dq_43 dp_cX8_all rfl
theorem dX8_all_225 : decode cX8_all 225 = .ok (.iload_n 3, 1) := dq_29 dp_cX8_all rfl
theorem dX8_all_226 : decode cX8_all 226 = .ok (.bipush 6, 2) := dq_16 (v := 6) dp_cX8_all rfl rfl
theorem dX8_all_228 : decode cX8_all 228 = .ok (.iadd, 1) := dq_96 dp_cX8_all rfl
theorem dX8_all_229 : decode cX8_all 229 = .ok (.aload_n 0, 1) := dq_42 dp_cX8_all rfl
theorem dX8_all_230 : decode cX8_all 230 = .ok (.getfield 135, 3) := dq_180 dp_cX8_all rfl
theorem dX8_all_233 : decode cX8_all 233 = .ok (.iastore, 1) := dq_79 dp_cX8_all rfl
theorem dX8_all_234 : decode cX8_all 234 = .ok (.aload_n 1, 1) := dq_43 dp_cX8_all rfl
theorem dX8_all_235 : decode cX8_all 235 = .ok (.iload_n 3, 1) := dq_29 dp_cX8_all rfl
theorem dX8_all_236 : decode cX8_all 236 = .ok (.bipush 7, 2) := dq_16 (v := 7) dp_cX8_all rfl rfl
theorem dX8_all_238 : decode cX8_all 238 = .ok (.iadd, 1) := dq_96 dp_cX8_all rfl
theorem dX8_all_239 : decode cX8_all 239 = .ok (.aload_n 0, 1) := dq_42 dp_cX8_all rfl
theorem dX8_all_240 : decode cX8_all 240 = .ok (.getfield 16, 3) := dq_180 dp_cX8_all rfl
theorem dX8_all_243 : decode cX8_all 243 = .ok (.iastore, 1) := dq_79 dp_cX8_all rfl
theorem dX8_all_244 : decode cX8_all 244 = .ok (.aload_n 1, 1) := dq_43 dp_cX8_all rfl
theorem dX8_all_245 : decode cX8_all 245 = .ok (.iload_n 3, 1) := dq_29 dp_cX8_all rfl
theorem dX8_all_246 : decode cX8_all 246 = .ok (.bipush 8, 2) := dq_16 (v := 8) dp_cX8_all rfl rfl
theorem dX8_all_248 : decode cX8_all 248 = .ok (.iadd, 1) := dq_96 dp_cX8_all rfl
theorem dX8_all_249 : decode cX8_all 249 = .ok (.aload_n 0, 1) := dq_42 dp_cX8_all rfl
theorem dX8_all_250 : decode cX8_all 250 = .ok (.getfield 19, 3) := dq_180 dp_cX8_all rfl
theorem dX8_all_253 : decode cX8_all 253 = .ok (.iastore, 1) := dq_79 dp_cX8_all rfl
theorem dX8_all_254 : decode cX8_all 254 = .ok (.return_, 1) := dq_177 dp_cX8_all rfl
set_option maxRecDepth 20000 in
theorem gl_X8_jacket_X80 : GoodIn wsX8_jacket wsX80 := (dg_t (dg_r gw_wsX80))
theorem ggX8_jacket_X8_wanted : GoodIn wsX8_jacket wsX8_wanted := (dg_c 13 rfl rfl (dg_c 14 rfl rfl (dg_c 15 rfl rfl (dg_c 16 rfl rfl (dg_c 17 rfl rfl (dg_c 12 rfl rfl (dg_c 18 rfl rfl gl_X8_jacket_X80)))))))
set_option maxRecDepth 20000 in
theorem gX8_jacket_X8_wanted : GoodIn wsX8_jacket (wsV RX8 191 RX8 yX8_wanted wsX8_wanted) := goodIn_app (dg_c 9 rfl rfl (dg_c 10 rfl rfl (dg_c 11 rfl rfl (dg_c 12 rfl rfl dg_0)))) ggX8_jacket_X8_wanted
set_option maxRecDepth 20000 in
theorem ggX8_jacket_X8_no : GoodIn wsX8_jacket wsX8_no := (dg_c 22 rfl rfl (dg_c 23 rfl rfl gl_X8_jacket_X80))
set_option maxRecDepth 20000 in
theorem gX8_jacket_X8_no : GoodIn wsX8_jacket (wsV RX8 97 RX8 yX8_no wsX8_no) := goodIn_app (dg_c 19 rfl rfl (dg_c 20 rfl rfl (dg_c 21 rfl rfl (dg_c 12 rfl rfl dg_0)))) ggX8_jacket_X8_no
set_option maxRecDepth 20000 in
theorem ggX8_jacket_X8_all : GoodIn wsX8_jacket wsX8_all := (dg_c 27 rfl rfl (dg_c 28 rfl rfl (dg_c 29 rfl rfl (dg_c 30 rfl rfl (dg_c 31 rfl rfl (dg_c 32 rfl rfl (dg_c 33 rfl rfl (dg_c 34 rfl rfl (dg_c 35 rfl rfl (dg_c 36 rfl rfl (dg_c 37 rfl rfl (dg_c 38 rfl rfl (dg_c 39 rfl rfl (dg_c 40 rfl rfl (dg_c 41 rfl rfl (dg_c 42 rfl rfl (dg_c 43 rfl rfl (dg_c 44 rfl rfl (dg_c 45 rfl rfl (dg_c 12 rfl rfl (dg_c 46 rfl rfl gl_X8_jacket_X80)))))))))))))))))))))
set_option maxRecDepth 20000 in
theorem gX8_jacket_X8_all : GoodIn wsX8_jacket (wsV RX8 194 RX8 yX8_all wsX8_all) := goodIn_app (dg_c 24 rfl rfl (dg_c 25 rfl rfl (dg_c 26 rfl rfl (dg_c 12 rfl rfl dg_0)))) ggX8_jacket_X8_all
set_option maxRecDepth 20000 in
theorem ggX8_jacket_X8_item : GoodIn wsX8_jacket wsX8_item := (dg_c 50 rfl rfl (goodIn_app (goodIn_app (dg_c 34 rfl rfl (dg_c 3 rfl rfl (dg_c 51 rfl rfl (dg_c 5 rfl rfl (dg_c 7 rfl rfl (dg_c 2 rfl rfl (dg_c 52 rfl rfl (dg_c 53 rfl rfl (dg_c 31 rfl rfl (dg_c 32 rfl rfl (dg_c 33 rfl rfl (dg_c 36 rfl rfl (dg_c 54 rfl rfl (dg_c 55 rfl rfl (dg_c 56 rfl rfl (dg_c 12 rfl rfl (dg_c 57 rfl rfl (dg_c 58 rfl rfl (dg_c 59 rfl rfl (dg_c 60 rfl rfl (dg_c 61 rfl rfl (dg_c 62 rfl rfl (dg_c 8 rfl rfl (dg_c 63 rfl rfl dg_0)))))))))))))))))))))))) (goodIn_app (dg_c 64 rfl rfl (dg_c 65 rfl rfl (dg_c 66 rfl rfl (dg_c 67 rfl rfl (dg_c 68 rfl rfl (dg_c 69 rfl rfl (dg_c 70 rfl rfl (dg_c 71 rfl rfl (dg_c 72 rfl rfl (dg_c 73 rfl rfl (dg_c 74 rfl rfl (dg_c 75 rfl rfl (dg_c 76 rfl rfl (dg_c 77 rfl rfl (dg_c 78 rfl rfl (dg_c 35 rfl rfl (dg_c 79 rfl rfl (dg_c 80 rfl rfl (dg_c 81 rfl rfl (dg_c 82 rfl rfl (dg_c 83 rfl rfl (dg_c 84 rfl rfl (dg_c 85 rfl rfl (dg_c 86 rfl rfl dg_0)))))))))))))))))))))))) (dg_c 87 rfl rfl (dg_c 88 rfl rfl (dg_c 89 rfl rfl (dg_c 90 rfl rfl (dg_c 91 rfl rfl (dg_c 92 rfl rfl (dg_c 93 rfl rfl (dg_c 94 rfl rfl (dg_c 28 rfl rfl (dg_c 29 rfl rfl (dg_c 30 rfl rfl (dg_c 95 rfl rfl (dg_c 96 rfl rfl (dg_c 97 rfl rfl (dg_c 98 rfl rfl (dg_c 37 rfl rfl (dg_c 39 rfl rfl (dg_c 40 rfl rfl (dg_c 41 rfl rfl dg_0))))))))))))))))))))) gl_X8_jacket_X80))
set_option maxRecDepth 20000 in
theorem gX8_jacket_X8_item : GoodIn wsX8_jacket (wsV RX8 198 RX8 yX8_item wsX8_item) := goodIn_app (dg_c 47 rfl rfl (dg_c 48 rfl rfl (dg_c 49 rfl rfl (dg_c 12 rfl rfl dg_0)))) ggX8_jacket_X8_item
set_option maxRecDepth 20000 in
theorem ggX8_jacket_X8_wrong : GoodIn wsX8_jacket wsX8_wrong := (dg_c 62 rfl rfl (dg_c 8 rfl rfl gl_X8_jacket_X80))
set_option maxRecDepth 20000 in
theorem gX8_jacket_X8_wrong : GoodIn wsX8_jacket (wsV RX8 168 RX8 yX8_wrong wsX8_wrong) := goodIn_app (dg_c 59 rfl rfl (dg_c 60 rfl rfl (dg_c 61 rfl rfl (dg_c 12 rfl rfl dg_0)))) ggX8_jacket_X8_wrong
theorem dX8_jacket_0 : decode cX8_jacket 0 = .ok (.aload_n 0, 1) := dq_42 dp_cX8_jacket rfl
theorem dX8_jacket_1 : decode cX8_jacket 1 = .ok (.iload_n 1, 1) := dq_27 dp_cX8_jacket rfl
theorem dX8_jacket_2 : decode cX8_jacket 2 = .ok (.invokevirtual 191, 3) := dq_182 dp_cX8_jacket rfl
theorem dX8_jacket_5 : decode cX8_jacket 5 = .ok (.istore_n 2, 1) := dq_61 dp_cX8_jacket rfl
theorem dX8_jacket_6 : decode cX8_jacket 6 = .ok (.iload_n 2, 1) := dq_28 dp_cX8_jacket rfl
theorem dX8_jacket_7 : decode cX8_jacket 7 = .ok (.ifCond .eq 9, 3) := dq_153 (v := 9) dp_cX8_jacket rfl rfl
theorem dX8_jacket_10 : decode cX8_jacket 10 = .ok (.aload_n 0, 1) := dq_42 dp_cX8_jacket rfl
theorem dX8_jacket_11 : decode cX8_jacket 11 = .ok (.iload_n 2, 1) := dq_28 dp_cX8_jacket rfl
theorem dX8_jacket_12 : decode cX8_jacket 12 = .ok (.invokevirtual 97, 3) := dq_182 dp_cX8_jacket rfl
theorem dX8_jacket_15 : decode cX8_jacket 15 = .ok (.ireturn, 1) := dq_172 dp_cX8_jacket rfl
theorem dX8_jacket_16 : decode cX8_jacket 16 = .ok (.aload_n 0, 1) := dq_42 dp_cX8_jacket rfl
theorem dX8_jacket_17 : decode cX8_jacket 17 = .ok (.aload_n 0, 1) := dq_42 dp_cX8_jacket rfl
theorem dX8_jacket_18 : decode cX8_jacket 18 = .ok (.getfield 75, 3) := dq_180 dp_cX8_jacket rfl
theorem dX8_jacket_21 : decode cX8_jacket 21 = .ok (.iconst 0, 1) := dq_3 dp_cX8_jacket rfl
theorem dX8_jacket_22 : decode cX8_jacket 22 = .ok (.invokevirtual 194, 3) := dq_182 dp_cX8_jacket rfl
theorem dX8_jacket_25 : decode cX8_jacket 25 = .ok (.aload_n 0, 1) := dq_42 dp_cX8_jacket rfl
theorem dX8_jacket_26 : decode cX8_jacket 26 = .ok (.sipush 160, 3) := dq_17 (v := 160) dp_cX8_jacket rfl rfl
theorem dX8_jacket_29 : decode cX8_jacket 29 = .ok (.iload_n 1, 1) := dq_27 dp_cX8_jacket rfl
theorem dX8_jacket_30 : decode cX8_jacket 30 = .ok (.imul, 1) := dq_104 dp_cX8_jacket rfl
theorem dX8_jacket_31 : decode cX8_jacket 31 = .ok (.putfield 158, 3) := dq_181 dp_cX8_jacket rfl
theorem dX8_jacket_34 : decode cX8_jacket 34 = .ok (.aload_n 0, 1) := dq_42 dp_cX8_jacket rfl
theorem dX8_jacket_35 : decode cX8_jacket 35 = .ok (.iconst 0, 1) := dq_3 dp_cX8_jacket rfl
theorem dX8_jacket_36 : decode cX8_jacket 36 = .ok (.putfield 152, 3) := dq_181 dp_cX8_jacket rfl
theorem dX8_jacket_39 : decode cX8_jacket 39 = .ok (.aload_n 0, 1) := dq_42 dp_cX8_jacket rfl
theorem dX8_jacket_40 : decode cX8_jacket 40 = .ok (.aload_n 0, 1) := dq_42 dp_cX8_jacket rfl
theorem dX8_jacket_41 : decode cX8_jacket 41 = .ok (.getfield 53, 3) := dq_180 dp_cX8_jacket rfl
theorem dX8_jacket_44 : decode cX8_jacket 44 = .ok (.iload_n 1, 1) := dq_27 dp_cX8_jacket rfl
theorem dX8_jacket_45 : decode cX8_jacket 45 = .ok (.iaload, 1) := dq_46 dp_cX8_jacket rfl
theorem dX8_jacket_46 : decode cX8_jacket 46 = .ok (.putfield 155, 3) := dq_181 dp_cX8_jacket rfl
theorem dX8_jacket_49 : decode cX8_jacket 49 = .ok (.aload_n 0, 1) := dq_42 dp_cX8_jacket rfl
theorem dX8_jacket_50 : decode cX8_jacket 50 = .ok (.iconst (-1), 1) := dq_2 dp_cX8_jacket rfl
theorem dX8_jacket_51 : decode cX8_jacket 51 = .ok (.putfield 22, 3) := dq_181 dp_cX8_jacket rfl
theorem dX8_jacket_54 : decode cX8_jacket 54 = .ok (.iconst 1, 1) := dq_4 dp_cX8_jacket rfl
theorem dX8_jacket_55 : decode cX8_jacket 55 = .ok (.istore_n 3, 1) := dq_62 dp_cX8_jacket rfl
theorem dX8_jacket_56 : decode cX8_jacket 56 = .ok (.aload_n 0, 1) := dq_42 dp_cX8_jacket rfl
theorem dX8_jacket_57 : decode cX8_jacket 57 = .ok (.invokevirtual 198, 3) := dq_182 dp_cX8_jacket rfl
theorem dX8_jacket_60 : decode cX8_jacket 60 = .ok (.istore 4, 2) := dq_54 dp_cX8_jacket rfl
theorem dX8_jacket_62 : decode cX8_jacket 62 = .ok (.iload 4, 2) := dq_21 dp_cX8_jacket rfl
theorem dX8_jacket_64 : decode cX8_jacket 64 = .ok (.ifCond .eq 69, 3) := dq_153 (v := 69) dp_cX8_jacket rfl rfl
theorem dX8_jacket_67 : decode cX8_jacket 67 = .ok (.aload_n 0, 1) := dq_42 dp_cX8_jacket rfl
theorem dX8_jacket_68 : decode cX8_jacket 68 = .ok (.getfield 152, 3) := dq_180 dp_cX8_jacket rfl
theorem dX8_jacket_71 : decode cX8_jacket 71 = .ok (.aload_n 0, 1) := dq_42 dp_cX8_jacket rfl
theorem dX8_jacket_72 : decode cX8_jacket 72 = .ok (.getfield 155, 3) := dq_180 dp_cX8_jacket rfl
theorem dX8_jacket_75 : decode cX8_jacket 75 = .ok (.if_icmp .ge 58, 3) := dq_162 (v := 58) dp_cX8_jacket rfl rfl
theorem dX8_jacket_78 : decode cX8_jacket 78 = .ok (.aload_n 0, 1) := dq_42 dp_cX8_jacket rfl
theorem dX8_jacket_79 : decode cX8_jacket 79 = .ok (.getfield 59, 3) := dq_180 dp_cX8_jacket rfl
theorem dX8_jacket_82 : decode cX8_jacket 82 = .ok (.aload_n 0, 1) := dq_42 dp_cX8_jacket rfl
theorem dX8_jacket_83 : decode cX8_jacket 83 = .ok (.getfield 158, 3) := dq_180 dp_cX8_jacket rfl
theorem dX8_jacket_86 : decode cX8_jacket 86 = .ok (.aload_n 0, 1) := dq_42 dp_cX8_jacket rfl
theorem dX8_jacket_87 : decode cX8_jacket 87 = .ok (.getfield 152, 3) := dq_180 dp_cX8_jacket rfl
theorem dX8_jacket_90 : decode cX8_jacket 90 = .ok (.iadd, 1) := dq_96 dp_cX8_jacket rfl
theorem dX8_jacket_91 : decode cX8_jacket 91 = .ok (.laload, 1) := dq_47 dp_cX8_jacket rfl
theorem dX8_jacket_92 : decode cX8_jacket 92 = .ok (.l2i, 1) := dq_136 dp_cX8_jacket rfl
theorem dX8_jacket_93 : decode cX8_jacket 93 = .ok (.bipush 59, 2) := dq_16 (v := 59) dp_cX8_jacket rfl rfl
theorem dX8_jacket_95 : decode cX8_jacket 95 = .ok (.if_icmp .eq 16, 3) := dq_159 (v := 16) dp_cX8_jacket rfl rfl
theorem dX8_jacket_98 : decode cX8_jacket 98 = .ok (.aload_n 0, 1) := dq_42 dp_cX8_jacket rfl
theorem dX8_jacket_99 : decode cX8_jacket 99 = .ok (.aload_n 0, 1) := dq_42 dp_cX8_jacket rfl
theorem dX8_jacket_100 : decode cX8_jacket 100 = .ok (.getfield 152, 3) := dq_180 dp_cX8_jacket rfl
theorem dX8_jacket_103 : decode cX8_jacket 103 = .ok (.invokevirtual 168, 3) := dq_182 dp_cX8_jacket rfl
theorem dX8_jacket_106 : decode cX8_jacket 106 = .ok (.istore 4, 2) := dq_54 dp_cX8_jacket rfl
theorem dX8_jacket_108 : decode cX8_jacket 108 = .ok (.goto (-46), 3) := dq_167 (v := 65490) dp_cX8_jacket rfl rfl
theorem dX8_jacket_111 : decode cX8_jacket 111 = .ok (.aload_n 0, 1) := dq_42 dp_cX8_jacket rfl
theorem dX8_jacket_112 : decode cX8_jacket 112 = .ok (.dup, 1) := dq_89 dp_cX8_jacket rfl
theorem dX8_jacket_113 : decode cX8_jacket 113 = .ok (.getfield 152, 3) := dq_180 dp_cX8_jacket rfl
theorem dX8_jacket_116 : decode cX8_jacket 116 = .ok (.iconst 1, 1) := dq_4 dp_cX8_jacket rfl
theorem dX8_jacket_117 : decode cX8_jacket 117 = .ok (.iadd, 1) := dq_96 dp_cX8_jacket rfl
theorem dX8_jacket_118 : decode cX8_jacket 118 = .ok (.putfield 152, 3) := dq_181 dp_cX8_jacket rfl
theorem dX8_jacket_121 : decode cX8_jacket 121 = .ok (.iinc 3 1, 3) := dq_132 (v := 1) dp_cX8_jacket rfl (by decide) rfl
theorem dX8_jacket_124 : decode cX8_jacket 124 = .ok (.aload_n 0, 1) := dq_42 dp_cX8_jacket rfl
theorem dX8_jacket_125 : decode cX8_jacket 125 = .ok (.invokevirtual 198, 3) := dq_182 dp_cX8_jacket rfl
theorem dX8_jacket_128 : decode cX8_jacket 128 = .ok (.istore 4, 2) := dq_54 dp_cX8_jacket rfl
theorem dX8_jacket_130 : decode cX8_jacket 130 = .ok (.goto (-68), 3) := dq_167 (v := 65468) dp_cX8_jacket rfl rfl
theorem dX8_jacket_133 : decode cX8_jacket 133 = .ok (.iload 4, 2) := dq_21 dp_cX8_jacket rfl
theorem dX8_jacket_135 : decode cX8_jacket 135 = .ok (.ifCond .eq 5, 3) := dq_153 (v := 5) dp_cX8_jacket rfl rfl
theorem dX8_jacket_138 : decode cX8_jacket 138 = .ok (.iload_n 3, 1) := dq_29 dp_cX8_jacket rfl
theorem dX8_jacket_139 : decode cX8_jacket 139 = .ok (.ireturn, 1) := dq_172 dp_cX8_jacket rfl
theorem dX8_jacket_140 : decode cX8_jacket 140 = .ok (.aload_n 0, 1) := dq_42 dp_cX8_jacket rfl
theorem dX8_jacket_141 : decode cX8_jacket 141 = .ok (.aload_n 0, 1) := dq_42 dp_cX8_jacket rfl
theorem dX8_jacket_142 : decode cX8_jacket 142 = .ok (.getfield 75, 3) := dq_180 dp_cX8_jacket rfl
theorem dX8_jacket_145 : decode cX8_jacket 145 = .ok (.iconst 1, 1) := dq_4 dp_cX8_jacket rfl
theorem dX8_jacket_146 : decode cX8_jacket 146 = .ok (.invokevirtual 194, 3) := dq_182 dp_cX8_jacket rfl
theorem dX8_jacket_149 : decode cX8_jacket 149 = .ok (.aload_n 0, 1) := dq_42 dp_cX8_jacket rfl
theorem dX8_jacket_150 : decode cX8_jacket 150 = .ok (.aload_n 0, 1) := dq_42 dp_cX8_jacket rfl
theorem dX8_jacket_151 : decode cX8_jacket 151 = .ok (.getfield 149, 3) := dq_180 dp_cX8_jacket rfl
theorem dX8_jacket_154 : decode cX8_jacket 154 = .ok (.putfield 22, 3) := dq_181 dp_cX8_jacket rfl
theorem dX8_jacket_157 : decode cX8_jacket 157 = .ok (.aload_n 0, 1) := dq_42 dp_cX8_jacket rfl
theorem dX8_jacket_158 : decode cX8_jacket 158 = .ok (.bipush (-6), 2) := dq_16 (v := 250) dp_cX8_jacket rfl rfl
theorem dX8_jacket_160 : decode cX8_jacket 160 = .ok (.invokevirtual 97, 3) := dq_182 dp_cX8_jacket rfl
theorem dX8_jacket_163 : decode cX8_jacket 163 = .ok (.ireturn, 1) := dq_172 dp_cX8_jacket rfl
set_option maxRecDepth 20000 in
theorem gl_X8_image_X80 : GoodIn wsX8_image wsX80 := (dg_t (dg_r gw_wsX80))
theorem ggX8_image_X8_all : GoodIn wsX8_image wsX8_all := (dg_c 8 rfl rfl (dg_c 9 rfl rfl (dg_c 10 rfl rfl (dg_c 11 rfl rfl (dg_c 12 rfl rfl (dg_c 13 rfl rfl (dg_c 14 rfl rfl (dg_c 3 rfl rfl (dg_c 15 rfl rfl (dg_c 16 rfl rfl (dg_c 17 rfl rfl (dg_c 18 rfl rfl (dg_c 19 rfl rfl (dg_c 20 rfl rfl (dg_c 21 rfl rfl (dg_c 22 rfl rfl (dg_c 23 rfl rfl (dg_c 24 rfl rfl (dg_c 25 rfl rfl (dg_c 7 rfl rfl (dg_c 26 rfl rfl gl_X8_image_X80)))))))))))))))))))))
set_option maxRecDepth 20000 in
theorem gX8_image_X8_all : GoodIn wsX8_image (wsV RX8 194 RX8 yX8_all wsX8_all) := goodIn_app (dg_c 4 rfl rfl (dg_c 5 rfl rfl (dg_c 6 rfl rfl (dg_c 7 rfl rfl dg_0)))) ggX8_image_X8_all
theorem dX8_image_0 : decode cX8_image 0 = .ok (.aload_n 0, 1) := dq_42 dp_cX8_image rfl
theorem dX8_image_1 : decode cX8_image 1 = .ok (.iconst 1, 1) := dq_4 dp_cX8_image rfl
theorem dX8_image_2 : decode cX8_image 2 = .ok (.putfield 300, 3) := dq_181 dp_cX8_image rfl
theorem dX8_image_5 : decode cX8_image 5 = .ok (.aload_n 0, 1) := dq_42 dp_cX8_image rfl
theorem dX8_image_6 : decode cX8_image 6 = .ok (.aload_n 0, 1) := dq_42 dp_cX8_image rfl
theorem dX8_image_7 : decode cX8_image 7 = .ok (.getfield 78, 3) := dq_180 dp_cX8_image rfl
theorem dX8_image_10 : decode cX8_image 10 = .ok (.iconst 0, 1) := dq_3 dp_cX8_image rfl
theorem dX8_image_11 : decode cX8_image 11 = .ok (.invokevirtual 194, 3) := dq_182 dp_cX8_image rfl
theorem dX8_image_14 : decode cX8_image 14 = .ok (.aload_n 0, 1) := dq_42 dp_cX8_image rfl
theorem dX8_image_15 : decode cX8_image 15 = .ok (.getfield 90, 3) := dq_180 dp_cX8_image rfl
theorem dX8_image_18 : decode cX8_image 18 = .ok (.ireturn, 1) := dq_172 dp_cX8_image rfl
set_option maxRecDepth 20000 in
theorem gl_X8_restore_X80 : GoodIn wsX8_restore wsX80 := (dg_t (dg_r gw_wsX80))
theorem ggX8_restore_X8_no : GoodIn wsX8_restore wsX8_no := (dg_c 10 rfl rfl (dg_c 11 rfl rfl gl_X8_restore_X80))
set_option maxRecDepth 20000 in
theorem gX8_restore_X8_no : GoodIn wsX8_restore (wsV RX8 97 RX8 yX8_no wsX8_no) := goodIn_app (dg_c 6 rfl rfl (dg_c 7 rfl rfl (dg_c 8 rfl rfl (dg_c 9 rfl rfl dg_0)))) ggX8_restore_X8_no
set_option maxRecDepth 20000 in
theorem ggX8_restore_X8_all : GoodIn wsX8_restore wsX8_all := (dg_c 15 rfl rfl (dg_c 16 rfl rfl (dg_c 17 rfl rfl (dg_c 18 rfl rfl (dg_c 19 rfl rfl (dg_c 20 rfl rfl (dg_c 21 rfl rfl (dg_c 5 rfl rfl (dg_c 22 rfl rfl (dg_c 23 rfl rfl (dg_c 24 rfl rfl (dg_c 25 rfl rfl (dg_c 26 rfl rfl (dg_c 27 rfl rfl (dg_c 28 rfl rfl (dg_c 29 rfl rfl (dg_c 30 rfl rfl (dg_c 31 rfl rfl (dg_c 32 rfl rfl (dg_c 9 rfl rfl (dg_c 33 rfl rfl gl_X8_restore_X80)))))))))))))))))))))
set_option maxRecDepth 20000 in
theorem gX8_restore_X8_all : GoodIn wsX8_restore (wsV RX8 194 RX8 yX8_all wsX8_all) := goodIn_app (dg_c 12 rfl rfl (dg_c 13 rfl rfl (dg_c 14 rfl rfl (dg_c 9 rfl rfl dg_0)))) ggX8_restore_X8_all
theorem dX8_restore_0 : decode cX8_restore 0 = .ok (.aload_n 0, 1) := dq_42 dp_cX8_restore rfl
theorem dX8_restore_1 : decode cX8_restore 1 = .ok (.getfield 300, 3) := dq_180 dp_cX8_restore rfl
theorem dX8_restore_4 : decode cX8_restore 4 = .ok (.ifCond .ne 10, 3) := dq_154 (v := 10) dp_cX8_restore rfl rfl
theorem dX8_restore_7 : decode cX8_restore 7 = .ok (.aload_n 0, 1) := dq_42 dp_cX8_restore rfl
theorem dX8_restore_8 : decode cX8_restore 8 = .ok (.bipush (-6), 2) := dq_16 (v := 250) dp_cX8_restore rfl rfl
theorem dX8_restore_10 : decode cX8_restore 10 = .ok (.invokevirtual 97, 3) := dq_182 dp_cX8_restore rfl
theorem dX8_restore_13 : decode cX8_restore 13 = .ok (.ireturn, 1) := dq_172 dp_cX8_restore rfl
theorem dX8_restore_14 : decode cX8_restore 14 = .ok (.aload_n 0, 1) := dq_42 dp_cX8_restore rfl
theorem dX8_restore_15 : decode cX8_restore 15 = .ok (.aload_n 0, 1) := dq_42 dp_cX8_restore rfl
theorem dX8_restore_16 : decode cX8_restore 16 = .ok (.getfield 78, 3) := dq_180 dp_cX8_restore rfl
theorem dX8_restore_19 : decode cX8_restore 19 = .ok (.iconst 1, 1) := dq_4 dp_cX8_restore rfl
theorem dX8_restore_20 : decode cX8_restore 20 = .ok (.invokevirtual 194, 3) := dq_182 dp_cX8_restore rfl
theorem dX8_restore_23 : decode cX8_restore 23 = .ok (.iconst 0, 1) := dq_3 dp_cX8_restore rfl
theorem dX8_restore_24 : decode cX8_restore 24 = .ok (.istore_n 1, 1) := dq_60 dp_cX8_restore rfl
theorem dX8_restore_25 : decode cX8_restore 25 = .ok (.iload_n 1, 1) := dq_27 dp_cX8_restore rfl
theorem dX8_restore_26 : decode cX8_restore 26 = .ok (.bipush 8, 2) := dq_16 (v := 8) dp_cX8_restore rfl rfl
theorem dX8_restore_28 : decode cX8_restore 28 = .ok (.if_icmp .ge 39, 3) := dq_162 (v := 39) dp_cX8_restore rfl rfl
theorem dX8_restore_31 : decode cX8_restore 31 = .ok (.aload_n 0, 1) := dq_42 dp_cX8_restore rfl
theorem dX8_restore_32 : decode cX8_restore 32 = .ok (.getfield 47, 3) := dq_180 dp_cX8_restore rfl
theorem dX8_restore_35 : decode cX8_restore 35 = .ok (.iload_n 1, 1) := dq_27 dp_cX8_restore rfl
theorem dX8_restore_36 : decode cX8_restore 36 = .ok (.iaload, 1) := dq_46 dp_cX8_restore rfl
theorem dX8_restore_37 : decode cX8_restore 37 = .ok (.iconst 2, 1) := dq_5 dp_cX8_restore rfl
theorem dX8_restore_38 : decode cX8_restore 38 = .ok (.if_icmp .ne 23, 3) := dq_160 (v := 23) dp_cX8_restore rfl rfl
theorem dX8_restore_41 : decode cX8_restore 41 = .ok (.aload_n 0, 1) := dq_42 dp_cX8_restore rfl
theorem dX8_restore_42 : decode cX8_restore 42 = .ok (.getfield 56, 3) := dq_180 dp_cX8_restore rfl
theorem dX8_restore_45 : decode cX8_restore 45 = .ok (.iload_n 1, 1) := dq_27 dp_cX8_restore rfl
theorem dX8_restore_46 : decode cX8_restore 46 = .ok (.iaload, 1) := dq_46 dp_cX8_restore rfl
theorem dX8_restore_47 : decode cX8_restore 47 = .ok (.aload_n 0, 1) := dq_42 dp_cX8_restore rfl
theorem dX8_restore_48 : decode cX8_restore 48 = .ok (.getfield 90, 3) := dq_180 dp_cX8_restore rfl
theorem dX8_restore_51 : decode cX8_restore 51 = .ok (.if_icmp .lt 10, 3) := dq_161 (v := 10) dp_cX8_restore rfl rfl
theorem dX8_restore_54 : decode cX8_restore 54 = .ok (.aload_n 0, 1) := dq_42 dp_cX8_restore rfl
theorem dX8_restore_55 : decode cX8_restore 55 = .ok (.getfield 47, 3) := dq_180 dp_cX8_restore rfl
theorem dX8_restore_58 : decode cX8_restore 58 = .ok (.iload_n 1, 1) := dq_27 dp_cX8_restore rfl
theorem dX8_restore_59 : decode cX8_restore 59 = .ok (.iconst 0, 1) := dq_3 dp_cX8_restore rfl
theorem dX8_restore_60 : decode cX8_restore 60 = .ok (.iastore, 1) := dq_79 dp_cX8_restore rfl
theorem dX8_restore_61 : decode cX8_restore 61 = .ok (.iinc 1 1, 3) := dq_132 (v := 1) dp_cX8_restore rfl (by decide) rfl
theorem dX8_restore_64 : decode cX8_restore 64 = .ok (.goto (-39), 3) := dq_167 (v := 65497) dp_cX8_restore rfl rfl
theorem dX8_restore_67 : decode cX8_restore 67 = .ok (.aload_n 0, 1) := dq_42 dp_cX8_restore rfl
theorem dX8_restore_68 : decode cX8_restore 68 = .ok (.getfield 90, 3) := dq_180 dp_cX8_restore rfl
theorem dX8_restore_71 : decode cX8_restore 71 = .ok (.ireturn, 1) := dq_172 dp_cX8_restore rfl
end
section
theorem gl_X8_word_X80 : GoodIn wsX8_word wsX80 := (dg_t (dg_t (dg_t (dg_t (dg_t (dg_t (dg_t gw_wsX80)))))))
theorem hi_X8_word_8 : ∀ w ∈ u_ws RX8 TX8 38, w ∈ wsX8_word := fun w h => (gl_X8_word_X80 w h).1
end
section
theorem hi_X8_item_8 : ∀ w ∈ u_ws RX8 TX8 38, w ∈ wsX8_item := fun w h => (gl_X8_item_X80 w h).1
end
section
set_option maxHeartbeats 4000000 in
set_option maxRecDepth 100000 in
theorem c_M_carf_8_0 (l : Launch) (D : va_G) (cI cJ cZ cP cS : ClassId) (po : zPool) (m0 of_ to_ : Nat) (fo ft : Nat → Int32)  (hpz : Nat) : Met l yX8_carries wsX8_carries ({ frames := 0, cells := 0, slots := 0, locals := 0 }) (va_Pc [.ref m0, .ref of_, .int 8, .ref to_, .int 0, .int 0] (zW D (zKT cI cJ cZ cP cS) po [(of_, .inl (cI, 8, .inl fo)), (to_, .inl (cI, 130, .inl ft))] hpz)) (va_Qi (fun (r : Int32) (ft2 : (Nat → Int32)) => ((∀ j : Nat, ft2 j = zCar fo ft 0 8 j)) ∧ (r = 8)) (zB D [(of_, .inl (cI, 8, .inl fo)), (to_, .inl (cI, 130, .inl ft))] hpz (fun (ft2 : Nat → Int32) => [(of_, .inl (cI, 8, .inl fo)), (to_, .inl (cI, 130, .inl ft2))])) (va_A [(of_, .inl (cI, 8, .inl fo)), (to_, .inl (cI, 130, .inl ft))] hpz)) 0 0 (va_A [(of_, .inl (cI, 8, .inl fo)), (to_, .inl (cI, 130, .inl ft))] hpz) := by
  refine Met.ofW (cc := cX8_carries) (maxL := 7) (ret := (some .int)) (by decide) rfl ?_
  intro p e s m args below meth c s₁ B hml hv
  obtain ⟨rfl, hsz, hP, hK, hD0, hN, hZ⟩ := hv
  have hx := B.exec
  have hb := B.bytes
  have hr := B.returns
  have hts := atoms_spec (ws := wsX8_carries) B.pre
  have hown : s.vm.findClass RX8 = some m.cls := findClass_of_methodNamed B.named
  have hlocks := B.notSynchronized
  subst hsz
  have hD := hD0.self (sz := s.heap.size)
  have hA := zA_of hD
  have hl := lv_entry ([.ref m0, .ref of_, .int 8, .ref to_, .int 0, .int 0]) (n := 7) (Nat.le_of_ble_eq_true rfl)
  rw [lg_entry_eq]
  generalize (lg_sl ([.ref m0, .ref of_, .int 8, .ref to_, .int 0, .int 0]) ++ List.replicate (7 - (lg_sl ([.ref m0, .ref of_, .int 8, .ref to_, .int 0, .int 0])).length) Slot.unset).toArray = ls at hl ⊢
  replace hl : lv_has ls 7 [(0, .ref m0), (1, .ref of_), (2, .int 8), (3, .ref to_), (4, .int 0), (5, .int 0)] := hl
  refine zw_begin hP hD (fun H locs hP1 hS => ?_)
  clear hP
  have hP := hP1
  clear hP1
  refine lv_iconst (v := 0) hx hb dX8_carries_0 (by decide) ?_
  refine lv_istore (lv' := [(6, .int 0), (0, .ref m0), (1, .ref of_), (2, .int 8), (3, .ref to_), (4, .int 0), (5, .int 0)]) hx hb dX8_carries_1 hl (by decide) rfl (fun ls hl => ?_)
  obtain ⟨i_3, hi_3⟩ : ∃ i : Int32, i = 0 := ⟨_, rfl⟩
  replace hl : lv_has ls 7 [(6, .int i_3), (0, .ref m0), (1, .ref of_), (2, .int 8), (3, .ref to_), (4, .int 0), (5, .int 0)] := by rw [hi_3]; exact lv_sub hl [0, 1, 2, 3, 4, 5, 6] rfl
  have h1i_3 : i_3.toInt = 0 := by rw [hi_3]; decide
  obtain ⟨nfu, hni_3⟩ : ∃ nq9 : Nat, 8 ≤ i_3.toInt + (nq9 : Int) := ⟨((8 : Int) - 0).toNat, by omega⟩
  have hloi_3 : 0 ≤ i_3.toInt := by omega
  obtain ⟨g_1, hg_1⟩ : ∃ g : Nat → Int32, g = ft := ⟨_, rfl⟩
  replace hP : va_P D vwCl [(of_, .inl (cI, 8, .inl fo)), (to_, .inl (cI, 130, .inl g_1))] H := by rw [hg_1]; exact hP
  replace hD : va_D (va_A [(of_, .inl (cI, 8, .inl fo)), (to_, .inl (cI, 130, .inl ft))] s.heap.size) [(of_, .inl (cI, 8, .inl fo)), (to_, .inl (cI, 130, .inl g_1))] := by rw [hg_1]; exact hD
  have hvi_3_0 : (∀ j : Nat, g_1 j = zCar fo ft 0 i_3.toInt.toNat j) := by
    (try rw [hi_3]); (try rw [hg_1]); (intro j; unfold zCar; rw [if_neg (by have h8 : (0 : Int32).toInt.toNat = 0 := (by decide); omega)])
  have hvi_3_1 : i_3.toInt ≤ 8 := by
    (try rw [hi_3]); (try rw [hg_1]); first | omega | decide
  clear h1i_3 hi_3 hg_1
  skip
  revert hni_3
  revert hloi_3
  revert hvi_3_1
  revert hvi_3_0
  revert hl
  revert hS
  revert hD
  revert hP
  revert ls
  revert locs
  revert H
  revert g_1
  revert i_3
  induction nfu with
  | zero =>
    intro i_3 g_1 H locs ls hP hD hS hl hvi_3_0 hvi_3_1 hloi_3 hni_3
    have hzi_3 : 8 ≤ i_3.toInt := by omega
    refine lv_iload hx hb dX8_carries_3 (lv_at hl 0 rfl) ?_
    refine lv_iload_n hx hb dX8_carries_5 rfl (lv_at hl 3 rfl) ?_
    refine lv_icmp_ge (tgt := 45) hx hb dX8_carries_6 (by decide) (fun c_2 => ?_) (fun c_2 => ?_)
    · have fc_2 : 8 ≤ i_3.toInt := zf_le c_2 (by decide) rfl
      refine lv_iload hx hb dX8_carries_45 (lv_at hl 5 rfl) ?_
      refine lv_iload_n hx hb dX8_carries_47 rfl (lv_at hl 3 rfl) ?_
      refine lv_iadd hx hb dX8_carries_48 ?_
      refine lv_topi (fun y_3 ey_3 => ?_)
      obtain rfl : y_3 = 8 := ey_3.trans (by decide)
      exact W.iret (v := 8) hx hb hr (fun t ht hW => ⟨⟨8, g_1, rfl, ⟨(show (∀ j : Nat, g_1 j = zCar fo ft 0 8 j) from by (intro j; have h8 := hvi_3_0 j; rw [show i_3.toInt.toNat = 8 from by omega] at h8; exact h8)), rfl⟩, zRet ht hP hD [0, 1] (by decide) rfl⟩, hS.F ht⟩) hS.2.2 dX8_carries_49
    · exfalso; have fc_2 : i_3.toInt < 8 := zf_nle c_2 (by decide) rfl; omega
  | succ nfu ih =>
    intro i_3 g_1 H locs ls hP hD hS hl hvi_3_0 hvi_3_1 hloi_3 hni_3
    refine lv_iload hx hb dX8_carries_3 (lv_at hl 0 rfl) ?_
    refine lv_iload_n hx hb dX8_carries_5 rfl (lv_at hl 3 rfl) ?_
    refine lv_icmp_ge (tgt := 45) hx hb dX8_carries_6 (by decide) (fun c_4 => ?_) (fun c_4 => ?_)
    · have fc_4 : 8 ≤ i_3.toInt := zf_le c_4 (by decide) rfl
      refine lv_iload hx hb dX8_carries_45 (lv_at hl 5 rfl) ?_
      refine lv_iload_n hx hb dX8_carries_47 rfl (lv_at hl 3 rfl) ?_
      refine lv_iadd hx hb dX8_carries_48 ?_
      refine lv_topi (fun y_5 ey_5 => ?_)
      obtain rfl : y_5 = 8 := ey_5.trans (by decide)
      exact W.iret (v := 8) hx hb hr (fun t ht hW => ⟨⟨8, g_1, rfl, ⟨(show (∀ j : Nat, g_1 j = zCar fo ft 0 8 j) from by (intro j; have h8 := hvi_3_0 j; rw [show i_3.toInt.toNat = 8 from by omega] at h8; exact h8)), rfl⟩, zRet ht hP hD [0, 1] (by decide) rfl⟩, hS.F ht⟩) hS.2.2 dX8_carries_49
    · have fc_4 : i_3.toInt < 8 := zf_nle c_4 (by decide) rfl
      refine lv_iload hx hb dX8_carries_9 (lv_at hl 6 rfl) ?_
      refine lv_if_eq (tgt := 28) hx hb dX8_carries_11 (by decide) (fun c_6 => ?_) (fun c_6 => ?_)
      · refine lv_aload_n hx hb dX8_carries_28 rfl (lv_at hl 4 rfl) ?_
        refine lv_iload hx hb dX8_carries_29 (lv_at hl 5 rfl) ?_
        refine lv_iload hx hb dX8_carries_31 (lv_at hl 0 rfl) ?_
        refine lv_iadd hx hb dX8_carries_33 ?_
        refine lv_topi (fun x_7 ex_7 => ?_)
        have qx_7 : x_7.toInt = 0 + i_3.toInt := by rw [ex_7]; exact zf_add (by decide) rfl (by omega) (by omega)
        refine lv_aload_n hx hb dX8_carries_34 rfl (lv_at hl 2 rfl) ?_
        refine lv_iload hx hb dX8_carries_35 (lv_at hl 0 rfl) ?_
        refine va_iald hx hb hK hP 0 0 rfl rfl (zf_in (by omega) (by omega)) dX8_carries_37 ?_
        refine lv_topi (fun x_8 ex_8 => ?_)
        refine va_iast hx hb hK hP hD hS 1 0 rfl rfl (zf_in (by omega) (by omega)) dX8_carries_38 (fun H locs hP hD hS => ?_)
        have h9R := zRe (ws' := [(of_, .inl (cI, 8, .inl fo)), (to_, .inl (cI, 130, .inl (upd g_1 x_7.toNatClampNeg x_8)))]) hP hD rfl
        clear hP hD
        obtain ⟨hP, hD⟩ := h9R
        obtain ⟨x_9, ex_9⟩ : ∃ y : Int32, y = i_3 + 1 := ⟨_, rfl⟩
        have qx_9 : x_9.toInt = i_3.toInt + 1 := dw_incK ex_9 fc_4 (by decide)
        refine lv_iinc (v := x_9) (lv' := [(6, .int x_9), (0, .ref m0), (1, .ref of_), (2, .int 8), (3, .ref to_), (4, .int 0), (5, .int 0)]) hx hb dX8_carries_39 hl (k := 0) rfl ex_9.symm (by decide) rfl (fun ls hl => ?_)
        refine lv_goto (tgt := 3) hx hb dX8_carries_42 (by decide) ?_
        exact ih x_9 ((upd g_1 x_7.toNatClampNeg x_8)) _ _ _ (hP.sub [0, 1] rfl) (hD.sub [0, 1] (by decide) rfl) hS (lv_sub hl [0, 1, 2, 3, 4, 5, 6] rfl) (show (∀ j : Nat, (upd g_1 x_7.toNatClampNeg x_8) j = zCar fo ft 0 x_9.toInt.toNat j) from by (intro j; have h8 : x_7.toNatClampNeg = 0 + i_3.toInt.toNat := (by (show x_7.toInt.toNat = _; omega)); have h7 := hvi_3_0 j; simp only [upd]; unfold zCar at h7 ⊢; exact (Classical.em (j = x_7.toNatClampNeg)).elim (fun e9 => by (rw [if_pos e9, if_pos (by omega), ex_8]; congr 1; (show i_3.toInt.toNat = _; omega))) (fun e9 => by (rw [if_neg e9, h7]; exact (Classical.em (0 ≤ j ∧ j < 0 + i_3.toInt.toNat)).elim (fun h6 => by rw [if_pos h6, if_pos (by omega)]) (fun h6 => by rw [if_neg h6, if_neg (by omega)]))))) (show x_9.toInt ≤ 8 from by omega) (dw_lo hloi_3 qx_9) (dw_hn hni_3 qx_9)
      · exact absurd c_6 (by decide)
set_option maxHeartbeats 4000000 in
set_option maxRecDepth 100000 in
theorem c_M_carb_8_0 (l : Launch) (D : va_G) (cI cJ cZ cP cS : ClassId) (po : zPool) (m0 of_ to_ : Nat) (fo ft : Nat → Int32) (hto : ∀ j : Nat, j < 8 → 0 ≤ (ft (0 + j)).toInt ∧ (ft (0 + j)).toInt ≤ 6) (hp_fo : zRg fo (0) 6) (hpz : Nat) : Met l yX8_carries wsX8_carries ({ frames := 0, cells := 0, slots := 0, locals := 0 }) (va_Pc [.ref m0, .ref of_, .int 8, .ref to_, .int 0, .int 1] (zW D (zKT cI cJ cZ cP cS) po [(of_, .inl (cI, 8, .inl fo)), (to_, .inl (cI, 130, .inl ft))] hpz)) (va_Qi (fun (r : Int32) (fo2 : (Nat → Int32)) => zRg fo2 (0) 6 ∧ ((∀ j : Nat, fo2 j = zCab ft fo 0 8 j)) ∧ (r = 8)) (zB D [(of_, .inl (cI, 8, .inl fo)), (to_, .inl (cI, 130, .inl ft))] hpz (fun (fo2 : Nat → Int32) => [(of_, .inl (cI, 8, .inl fo2)), (to_, .inl (cI, 130, .inl ft))])) (va_A [(of_, .inl (cI, 8, .inl fo)), (to_, .inl (cI, 130, .inl ft))] hpz)) 0 0 (va_A [(of_, .inl (cI, 8, .inl fo)), (to_, .inl (cI, 130, .inl ft))] hpz) := by
  refine Met.ofW (cc := cX8_carries) (maxL := 7) (ret := (some .int)) (by decide) rfl ?_
  intro p e s m args below meth c s₁ B hml hv
  obtain ⟨rfl, hsz, hP, hK, hD0, hN, hZ⟩ := hv
  have hx := B.exec
  have hb := B.bytes
  have hr := B.returns
  have hts := atoms_spec (ws := wsX8_carries) B.pre
  have hown : s.vm.findClass RX8 = some m.cls := findClass_of_methodNamed B.named
  have hlocks := B.notSynchronized
  subst hsz
  have hD := hD0.self (sz := s.heap.size)
  have hA := zA_of hD
  have hl := lv_entry ([.ref m0, .ref of_, .int 8, .ref to_, .int 0, .int 1]) (n := 7) (Nat.le_of_ble_eq_true rfl)
  rw [lg_entry_eq]
  generalize (lg_sl ([.ref m0, .ref of_, .int 8, .ref to_, .int 0, .int 1]) ++ List.replicate (7 - (lg_sl ([.ref m0, .ref of_, .int 8, .ref to_, .int 0, .int 1])).length) Slot.unset).toArray = ls at hl ⊢
  replace hl : lv_has ls 7 [(0, .ref m0), (1, .ref of_), (2, .int 8), (3, .ref to_), (4, .int 0), (5, .int 1)] := hl
  refine zw_begin hP hD (fun H locs hP1 hS => ?_)
  clear hP
  have hP := hP1
  clear hP1
  refine lv_iconst (v := 0) hx hb dX8_carries_0 (by decide) ?_
  refine lv_istore (lv' := [(6, .int 0), (0, .ref m0), (1, .ref of_), (2, .int 8), (3, .ref to_), (4, .int 0), (5, .int 1)]) hx hb dX8_carries_1 hl (by decide) rfl (fun ls hl => ?_)
  obtain ⟨i_3, hi_3⟩ : ∃ i : Int32, i = 0 := ⟨_, rfl⟩
  replace hl : lv_has ls 7 [(6, .int i_3), (0, .ref m0), (1, .ref of_), (2, .int 8), (3, .ref to_), (4, .int 0), (5, .int 1)] := by rw [hi_3]; exact lv_sub hl [0, 1, 2, 3, 4, 5, 6] rfl
  have h1i_3 : i_3.toInt = 0 := by rw [hi_3]; decide
  obtain ⟨nfu, hni_3⟩ : ∃ nq9 : Nat, 8 ≤ i_3.toInt + (nq9 : Int) := ⟨((8 : Int) - 0).toNat, by omega⟩
  have hloi_3 : 0 ≤ i_3.toInt := by omega
  obtain ⟨g_1, hg_1⟩ : ∃ g : Nat → Int32, g = fo := ⟨_, rfl⟩
  have hpg_1 : zRg g_1 (0) 6 := by rw [hg_1]; exact hp_fo
  replace hP : va_P D vwCl [(of_, .inl (cI, 8, .inl g_1)), (to_, .inl (cI, 130, .inl ft))] H := by rw [hg_1]; exact hP
  replace hD : va_D (va_A [(of_, .inl (cI, 8, .inl fo)), (to_, .inl (cI, 130, .inl ft))] s.heap.size) [(of_, .inl (cI, 8, .inl g_1)), (to_, .inl (cI, 130, .inl ft))] := by rw [hg_1]; exact hD
  have hvi_3_0 : (∀ j : Nat, g_1 j = zCab ft fo 0 i_3.toInt.toNat j) := by
    (try rw [hi_3]); (try rw [hg_1]); (intro j; unfold zCab; rw [if_neg (by have h8 : (0 : Int32).toInt.toNat = 0 := (by decide); omega)])
  have hvi_3_1 : i_3.toInt ≤ 8 := by
    (try rw [hi_3]); (try rw [hg_1]); first | omega | decide
  clear h1i_3 hi_3 hg_1
  skip
  revert hni_3
  revert hloi_3
  revert hvi_3_1
  revert hvi_3_0
  revert hpg_1
  revert hl
  revert hS
  revert hD
  revert hP
  revert ls
  revert locs
  revert H
  revert g_1
  revert i_3
  induction nfu with
  | zero =>
    intro i_3 g_1 H locs ls hP hD hS hl hpg_1 hvi_3_0 hvi_3_1 hloi_3 hni_3
    have hzi_3 : 8 ≤ i_3.toInt := by omega
    refine lv_iload hx hb dX8_carries_3 (lv_at hl 0 rfl) ?_
    refine lv_iload_n hx hb dX8_carries_5 rfl (lv_at hl 3 rfl) ?_
    refine lv_icmp_ge (tgt := 45) hx hb dX8_carries_6 (by decide) (fun c_2 => ?_) (fun c_2 => ?_)
    · have fc_2 : 8 ≤ i_3.toInt := zf_le c_2 (by decide) rfl
      refine lv_iload hx hb dX8_carries_45 (lv_at hl 5 rfl) ?_
      refine lv_iload_n hx hb dX8_carries_47 rfl (lv_at hl 3 rfl) ?_
      refine lv_iadd hx hb dX8_carries_48 ?_
      refine lv_topi (fun y_3 ey_3 => ?_)
      obtain rfl : y_3 = 8 := ey_3.trans (by decide)
      exact W.iret (v := 8) hx hb hr (fun t ht hW => ⟨⟨8, g_1, rfl, ⟨hpg_1, (show (∀ j : Nat, g_1 j = zCab ft fo 0 8 j) from by (intro j; have h8 := hvi_3_0 j; rw [show i_3.toInt.toNat = 8 from by omega] at h8; exact h8)), rfl⟩, zRet ht hP hD [0, 1] (by decide) rfl⟩, hS.F ht⟩) hS.2.2 dX8_carries_49
    · exfalso; have fc_2 : i_3.toInt < 8 := zf_nle c_2 (by decide) rfl; omega
  | succ nfu ih =>
    intro i_3 g_1 H locs ls hP hD hS hl hpg_1 hvi_3_0 hvi_3_1 hloi_3 hni_3
    refine lv_iload hx hb dX8_carries_3 (lv_at hl 0 rfl) ?_
    refine lv_iload_n hx hb dX8_carries_5 rfl (lv_at hl 3 rfl) ?_
    refine lv_icmp_ge (tgt := 45) hx hb dX8_carries_6 (by decide) (fun c_4 => ?_) (fun c_4 => ?_)
    · have fc_4 : 8 ≤ i_3.toInt := zf_le c_4 (by decide) rfl
      refine lv_iload hx hb dX8_carries_45 (lv_at hl 5 rfl) ?_
      refine lv_iload_n hx hb dX8_carries_47 rfl (lv_at hl 3 rfl) ?_
      refine lv_iadd hx hb dX8_carries_48 ?_
      refine lv_topi (fun y_5 ey_5 => ?_)
      obtain rfl : y_5 = 8 := ey_5.trans (by decide)
      exact W.iret (v := 8) hx hb hr (fun t ht hW => ⟨⟨8, g_1, rfl, ⟨hpg_1, (show (∀ j : Nat, g_1 j = zCab ft fo 0 8 j) from by (intro j; have h8 := hvi_3_0 j; rw [show i_3.toInt.toNat = 8 from by omega] at h8; exact h8)), rfl⟩, zRet ht hP hD [0, 1] (by decide) rfl⟩, hS.F ht⟩) hS.2.2 dX8_carries_49
    · have fc_4 : i_3.toInt < 8 := zf_nle c_4 (by decide) rfl
      refine lv_iload hx hb dX8_carries_9 (lv_at hl 6 rfl) ?_
      refine lv_if_eq (tgt := 28) hx hb dX8_carries_11 (by decide) (fun c_6 => ?_) (fun c_6 => ?_)
      · exact absurd c_6 (by decide)
      · refine lv_aload_n hx hb dX8_carries_14 rfl (lv_at hl 2 rfl) ?_
        refine lv_iload hx hb dX8_carries_15 (lv_at hl 0 rfl) ?_
        refine lv_aload_n hx hb dX8_carries_17 rfl (lv_at hl 4 rfl) ?_
        refine lv_iload hx hb dX8_carries_18 (lv_at hl 5 rfl) ?_
        refine lv_iload hx hb dX8_carries_20 (lv_at hl 0 rfl) ?_
        refine lv_iadd hx hb dX8_carries_22 ?_
        refine lv_topi (fun x_7 ex_7 => ?_)
        have qx_7 : x_7.toInt = 0 + i_3.toInt := by rw [ex_7]; exact zf_add (by decide) rfl (by omega) (by omega)
        refine va_iald hx hb hK hP 1 0 rfl rfl (zf_in (by omega) (by omega)) dX8_carries_23 ?_
        refine lv_topi (fun x_8 ex_8 => ?_)
        have bx_8 : 0 ≤ x_8.toInt ∧ x_8.toInt ≤ 6 := by rw [ex_8, show x_7.toNatClampNeg = 0 + i_3.toInt.toNat from by (show x_7.toInt.toNat = _; omega)]; exact hto _ (by omega)
        refine va_iast hx hb hK hP hD hS 0 0 rfl rfl (zf_in (by omega) (by omega)) dX8_carries_24 (fun H locs hP hD hS => ?_)
        have hpg_9 : zRg (upd g_1 i_3.toNatClampNeg x_8) (0) 6 := zRg_upd hpg_1 (by omega) (by omega)
        obtain ⟨g_9, hg_9⟩ : ∃ g : Nat → Int32, g = upd g_1 i_3.toNatClampNeg x_8 := ⟨_, rfl⟩
        rw [← hg_9] at hP hD hpg_9
        have h9R := zRe (ws' := [(of_, .inl (cI, 8, .inl g_9)), (to_, .inl (cI, 130, .inl ft))]) hP hD rfl
        clear hP hD
        obtain ⟨hP, hD⟩ := h9R
        refine lv_goto (tgt := 39) hx hb dX8_carries_25 (by decide) ?_
        obtain ⟨x_10, ex_10⟩ : ∃ y : Int32, y = i_3 + 1 := ⟨_, rfl⟩
        have qx_10 : x_10.toInt = i_3.toInt + 1 := dw_incK ex_10 fc_4 (by decide)
        refine lv_iinc (v := x_10) (lv' := [(6, .int x_10), (0, .ref m0), (1, .ref of_), (2, .int 8), (3, .ref to_), (4, .int 0), (5, .int 1)]) hx hb dX8_carries_39 hl (k := 0) rfl ex_10.symm (by decide) rfl (fun ls hl => ?_)
        refine lv_goto (tgt := 3) hx hb dX8_carries_42 (by decide) ?_
        exact ih x_10 (g_9) _ _ _ (hP.sub [0, 1] rfl) (hD.sub [0, 1] (by decide) rfl) hS (lv_sub hl [0, 1, 2, 3, 4, 5, 6] rfl) hpg_9 (show (∀ j : Nat, g_9 j = zCab ft fo 0 x_10.toInt.toNat j) from by (intro j; rw [hg_9]; have h8 : i_3.toNatClampNeg = i_3.toInt.toNat := rfl; have h7 := hvi_3_0 j; simp only [upd]; unfold zCab at h7 ⊢; exact (Classical.em (j = i_3.toNatClampNeg)).elim (fun e9 => by (rw [if_pos e9, if_pos (by omega), ex_8]; congr 1; (show x_7.toInt.toNat = _; omega))) (fun e9 => by (rw [if_neg e9, h7]; exact (Classical.em (j < i_3.toInt.toNat)).elim (fun h6 => by rw [if_pos h6, if_pos (by omega)]) (fun h6 => by rw [if_neg h6, if_neg (by omega)]))))) (show x_10.toInt ≤ 8 from by omega) (dw_lo hloi_3 qx_10) (dw_hn hni_3 qx_10)
set_option maxHeartbeats 4000000 in
set_option maxRecDepth 100000 in
theorem c_M_carf_8_8 (l : Launch) (D : va_G) (cI cJ cZ cP cS : ClassId) (po : zPool) (m0 of_ to_ : Nat) (fo ft : Nat → Int32)  (hpz : Nat) : Met l yX8_carries wsX8_carries ({ frames := 0, cells := 0, slots := 0, locals := 0 }) (va_Pc [.ref m0, .ref of_, .int 8, .ref to_, .int 8, .int 0] (zW D (zKT cI cJ cZ cP cS) po [(of_, .inl (cI, 8, .inl fo)), (to_, .inl (cI, 130, .inl ft))] hpz)) (va_Qi (fun (r : Int32) (ft2 : (Nat → Int32)) => ((∀ j : Nat, ft2 j = zCar fo ft 8 8 j)) ∧ (r = 16)) (zB D [(of_, .inl (cI, 8, .inl fo)), (to_, .inl (cI, 130, .inl ft))] hpz (fun (ft2 : Nat → Int32) => [(of_, .inl (cI, 8, .inl fo)), (to_, .inl (cI, 130, .inl ft2))])) (va_A [(of_, .inl (cI, 8, .inl fo)), (to_, .inl (cI, 130, .inl ft))] hpz)) 0 0 (va_A [(of_, .inl (cI, 8, .inl fo)), (to_, .inl (cI, 130, .inl ft))] hpz) := by
  refine Met.ofW (cc := cX8_carries) (maxL := 7) (ret := (some .int)) (by decide) rfl ?_
  intro p e s m args below meth c s₁ B hml hv
  obtain ⟨rfl, hsz, hP, hK, hD0, hN, hZ⟩ := hv
  have hx := B.exec
  have hb := B.bytes
  have hr := B.returns
  have hts := atoms_spec (ws := wsX8_carries) B.pre
  have hown : s.vm.findClass RX8 = some m.cls := findClass_of_methodNamed B.named
  have hlocks := B.notSynchronized
  subst hsz
  have hD := hD0.self (sz := s.heap.size)
  have hA := zA_of hD
  have hl := lv_entry ([.ref m0, .ref of_, .int 8, .ref to_, .int 8, .int 0]) (n := 7) (Nat.le_of_ble_eq_true rfl)
  rw [lg_entry_eq]
  generalize (lg_sl ([.ref m0, .ref of_, .int 8, .ref to_, .int 8, .int 0]) ++ List.replicate (7 - (lg_sl ([.ref m0, .ref of_, .int 8, .ref to_, .int 8, .int 0])).length) Slot.unset).toArray = ls at hl ⊢
  replace hl : lv_has ls 7 [(0, .ref m0), (1, .ref of_), (2, .int 8), (3, .ref to_), (4, .int 8), (5, .int 0)] := hl
  refine zw_begin hP hD (fun H locs hP1 hS => ?_)
  clear hP
  have hP := hP1
  clear hP1
  refine lv_iconst (v := 0) hx hb dX8_carries_0 (by decide) ?_
  refine lv_istore (lv' := [(6, .int 0), (0, .ref m0), (1, .ref of_), (2, .int 8), (3, .ref to_), (4, .int 8), (5, .int 0)]) hx hb dX8_carries_1 hl (by decide) rfl (fun ls hl => ?_)
  obtain ⟨i_3, hi_3⟩ : ∃ i : Int32, i = 0 := ⟨_, rfl⟩
  replace hl : lv_has ls 7 [(6, .int i_3), (0, .ref m0), (1, .ref of_), (2, .int 8), (3, .ref to_), (4, .int 8), (5, .int 0)] := by rw [hi_3]; exact lv_sub hl [0, 1, 2, 3, 4, 5, 6] rfl
  have h1i_3 : i_3.toInt = 0 := by rw [hi_3]; decide
  obtain ⟨nfu, hni_3⟩ : ∃ nq9 : Nat, 8 ≤ i_3.toInt + (nq9 : Int) := ⟨((8 : Int) - 0).toNat, by omega⟩
  have hloi_3 : 0 ≤ i_3.toInt := by omega
  obtain ⟨g_1, hg_1⟩ : ∃ g : Nat → Int32, g = ft := ⟨_, rfl⟩
  replace hP : va_P D vwCl [(of_, .inl (cI, 8, .inl fo)), (to_, .inl (cI, 130, .inl g_1))] H := by rw [hg_1]; exact hP
  replace hD : va_D (va_A [(of_, .inl (cI, 8, .inl fo)), (to_, .inl (cI, 130, .inl ft))] s.heap.size) [(of_, .inl (cI, 8, .inl fo)), (to_, .inl (cI, 130, .inl g_1))] := by rw [hg_1]; exact hD
  have hvi_3_0 : (∀ j : Nat, g_1 j = zCar fo ft 8 i_3.toInt.toNat j) := by
    (try rw [hi_3]); (try rw [hg_1]); (intro j; unfold zCar; rw [if_neg (by have h8 : (0 : Int32).toInt.toNat = 0 := (by decide); omega)])
  have hvi_3_1 : i_3.toInt ≤ 8 := by
    (try rw [hi_3]); (try rw [hg_1]); first | omega | decide
  clear h1i_3 hi_3 hg_1
  skip
  revert hni_3
  revert hloi_3
  revert hvi_3_1
  revert hvi_3_0
  revert hl
  revert hS
  revert hD
  revert hP
  revert ls
  revert locs
  revert H
  revert g_1
  revert i_3
  induction nfu with
  | zero =>
    intro i_3 g_1 H locs ls hP hD hS hl hvi_3_0 hvi_3_1 hloi_3 hni_3
    have hzi_3 : 8 ≤ i_3.toInt := by omega
    refine lv_iload hx hb dX8_carries_3 (lv_at hl 0 rfl) ?_
    refine lv_iload_n hx hb dX8_carries_5 rfl (lv_at hl 3 rfl) ?_
    refine lv_icmp_ge (tgt := 45) hx hb dX8_carries_6 (by decide) (fun c_2 => ?_) (fun c_2 => ?_)
    · have fc_2 : 8 ≤ i_3.toInt := zf_le c_2 (by decide) rfl
      refine lv_iload hx hb dX8_carries_45 (lv_at hl 5 rfl) ?_
      refine lv_iload_n hx hb dX8_carries_47 rfl (lv_at hl 3 rfl) ?_
      refine lv_iadd hx hb dX8_carries_48 ?_
      refine lv_topi (fun y_3 ey_3 => ?_)
      obtain rfl : y_3 = 16 := ey_3.trans (by decide)
      exact W.iret (v := 16) hx hb hr (fun t ht hW => ⟨⟨16, g_1, rfl, ⟨(show (∀ j : Nat, g_1 j = zCar fo ft 8 8 j) from by (intro j; have h8 := hvi_3_0 j; rw [show i_3.toInt.toNat = 8 from by omega] at h8; exact h8)), rfl⟩, zRet ht hP hD [0, 1] (by decide) rfl⟩, hS.F ht⟩) hS.2.2 dX8_carries_49
    · exfalso; have fc_2 : i_3.toInt < 8 := zf_nle c_2 (by decide) rfl; omega
  | succ nfu ih =>
    intro i_3 g_1 H locs ls hP hD hS hl hvi_3_0 hvi_3_1 hloi_3 hni_3
    refine lv_iload hx hb dX8_carries_3 (lv_at hl 0 rfl) ?_
    refine lv_iload_n hx hb dX8_carries_5 rfl (lv_at hl 3 rfl) ?_
    refine lv_icmp_ge (tgt := 45) hx hb dX8_carries_6 (by decide) (fun c_4 => ?_) (fun c_4 => ?_)
    · have fc_4 : 8 ≤ i_3.toInt := zf_le c_4 (by decide) rfl
      refine lv_iload hx hb dX8_carries_45 (lv_at hl 5 rfl) ?_
      refine lv_iload_n hx hb dX8_carries_47 rfl (lv_at hl 3 rfl) ?_
      refine lv_iadd hx hb dX8_carries_48 ?_
      refine lv_topi (fun y_5 ey_5 => ?_)
      obtain rfl : y_5 = 16 := ey_5.trans (by decide)
      exact W.iret (v := 16) hx hb hr (fun t ht hW => ⟨⟨16, g_1, rfl, ⟨(show (∀ j : Nat, g_1 j = zCar fo ft 8 8 j) from by (intro j; have h8 := hvi_3_0 j; rw [show i_3.toInt.toNat = 8 from by omega] at h8; exact h8)), rfl⟩, zRet ht hP hD [0, 1] (by decide) rfl⟩, hS.F ht⟩) hS.2.2 dX8_carries_49
    · have fc_4 : i_3.toInt < 8 := zf_nle c_4 (by decide) rfl
      refine lv_iload hx hb dX8_carries_9 (lv_at hl 6 rfl) ?_
      refine lv_if_eq (tgt := 28) hx hb dX8_carries_11 (by decide) (fun c_6 => ?_) (fun c_6 => ?_)
      · refine lv_aload_n hx hb dX8_carries_28 rfl (lv_at hl 4 rfl) ?_
        refine lv_iload hx hb dX8_carries_29 (lv_at hl 5 rfl) ?_
        refine lv_iload hx hb dX8_carries_31 (lv_at hl 0 rfl) ?_
        refine lv_iadd hx hb dX8_carries_33 ?_
        refine lv_topi (fun x_7 ex_7 => ?_)
        have qx_7 : x_7.toInt = 8 + i_3.toInt := by rw [ex_7]; exact zf_add (by decide) rfl (by omega) (by omega)
        refine lv_aload_n hx hb dX8_carries_34 rfl (lv_at hl 2 rfl) ?_
        refine lv_iload hx hb dX8_carries_35 (lv_at hl 0 rfl) ?_
        refine va_iald hx hb hK hP 0 0 rfl rfl (zf_in (by omega) (by omega)) dX8_carries_37 ?_
        refine lv_topi (fun x_8 ex_8 => ?_)
        refine va_iast hx hb hK hP hD hS 1 0 rfl rfl (zf_in (by omega) (by omega)) dX8_carries_38 (fun H locs hP hD hS => ?_)
        have h9R := zRe (ws' := [(of_, .inl (cI, 8, .inl fo)), (to_, .inl (cI, 130, .inl (upd g_1 x_7.toNatClampNeg x_8)))]) hP hD rfl
        clear hP hD
        obtain ⟨hP, hD⟩ := h9R
        obtain ⟨x_9, ex_9⟩ : ∃ y : Int32, y = i_3 + 1 := ⟨_, rfl⟩
        have qx_9 : x_9.toInt = i_3.toInt + 1 := dw_incK ex_9 fc_4 (by decide)
        refine lv_iinc (v := x_9) (lv' := [(6, .int x_9), (0, .ref m0), (1, .ref of_), (2, .int 8), (3, .ref to_), (4, .int 8), (5, .int 0)]) hx hb dX8_carries_39 hl (k := 0) rfl ex_9.symm (by decide) rfl (fun ls hl => ?_)
        refine lv_goto (tgt := 3) hx hb dX8_carries_42 (by decide) ?_
        exact ih x_9 ((upd g_1 x_7.toNatClampNeg x_8)) _ _ _ (hP.sub [0, 1] rfl) (hD.sub [0, 1] (by decide) rfl) hS (lv_sub hl [0, 1, 2, 3, 4, 5, 6] rfl) (show (∀ j : Nat, (upd g_1 x_7.toNatClampNeg x_8) j = zCar fo ft 8 x_9.toInt.toNat j) from by (intro j; have h8 : x_7.toNatClampNeg = 8 + i_3.toInt.toNat := (by (show x_7.toInt.toNat = _; omega)); have h7 := hvi_3_0 j; simp only [upd]; unfold zCar at h7 ⊢; exact (Classical.em (j = x_7.toNatClampNeg)).elim (fun e9 => by (rw [if_pos e9, if_pos (by omega), ex_8]; congr 1; (show i_3.toInt.toNat = _; omega))) (fun e9 => by (rw [if_neg e9, h7]; exact (Classical.em (8 ≤ j ∧ j < 8 + i_3.toInt.toNat)).elim (fun h6 => by rw [if_pos h6, if_pos (by omega)]) (fun h6 => by rw [if_neg h6, if_neg (by omega)]))))) (show x_9.toInt ≤ 8 from by omega) (dw_lo hloi_3 qx_9) (dw_hn hni_3 qx_9)
      · exact absurd c_6 (by decide)
set_option maxHeartbeats 4000000 in
set_option maxRecDepth 100000 in
theorem c_M_carb_8_8 (l : Launch) (D : va_G) (cI cJ cZ cP cS : ClassId) (po : zPool) (m0 of_ to_ : Nat) (fo ft : Nat → Int32) (hto : ∀ j : Nat, j < 8 → 0 ≤ (ft (8 + j)).toInt ∧ (ft (8 + j)).toInt ≤ 9) (hp_fo : zRg fo (0) 9) (hpz : Nat) : Met l yX8_carries wsX8_carries ({ frames := 0, cells := 0, slots := 0, locals := 0 }) (va_Pc [.ref m0, .ref of_, .int 8, .ref to_, .int 8, .int 1] (zW D (zKT cI cJ cZ cP cS) po [(of_, .inl (cI, 8, .inl fo)), (to_, .inl (cI, 130, .inl ft))] hpz)) (va_Qi (fun (r : Int32) (fo2 : (Nat → Int32)) => zRg fo2 (0) 9 ∧ ((∀ j : Nat, fo2 j = zCab ft fo 8 8 j)) ∧ (r = 16)) (zB D [(of_, .inl (cI, 8, .inl fo)), (to_, .inl (cI, 130, .inl ft))] hpz (fun (fo2 : Nat → Int32) => [(of_, .inl (cI, 8, .inl fo2)), (to_, .inl (cI, 130, .inl ft))])) (va_A [(of_, .inl (cI, 8, .inl fo)), (to_, .inl (cI, 130, .inl ft))] hpz)) 0 0 (va_A [(of_, .inl (cI, 8, .inl fo)), (to_, .inl (cI, 130, .inl ft))] hpz) := by
  refine Met.ofW (cc := cX8_carries) (maxL := 7) (ret := (some .int)) (by decide) rfl ?_
  intro p e s m args below meth c s₁ B hml hv
  obtain ⟨rfl, hsz, hP, hK, hD0, hN, hZ⟩ := hv
  have hx := B.exec
  have hb := B.bytes
  have hr := B.returns
  have hts := atoms_spec (ws := wsX8_carries) B.pre
  have hown : s.vm.findClass RX8 = some m.cls := findClass_of_methodNamed B.named
  have hlocks := B.notSynchronized
  subst hsz
  have hD := hD0.self (sz := s.heap.size)
  have hA := zA_of hD
  have hl := lv_entry ([.ref m0, .ref of_, .int 8, .ref to_, .int 8, .int 1]) (n := 7) (Nat.le_of_ble_eq_true rfl)
  rw [lg_entry_eq]
  generalize (lg_sl ([.ref m0, .ref of_, .int 8, .ref to_, .int 8, .int 1]) ++ List.replicate (7 - (lg_sl ([.ref m0, .ref of_, .int 8, .ref to_, .int 8, .int 1])).length) Slot.unset).toArray = ls at hl ⊢
  replace hl : lv_has ls 7 [(0, .ref m0), (1, .ref of_), (2, .int 8), (3, .ref to_), (4, .int 8), (5, .int 1)] := hl
  refine zw_begin hP hD (fun H locs hP1 hS => ?_)
  clear hP
  have hP := hP1
  clear hP1
  refine lv_iconst (v := 0) hx hb dX8_carries_0 (by decide) ?_
  refine lv_istore (lv' := [(6, .int 0), (0, .ref m0), (1, .ref of_), (2, .int 8), (3, .ref to_), (4, .int 8), (5, .int 1)]) hx hb dX8_carries_1 hl (by decide) rfl (fun ls hl => ?_)
  obtain ⟨i_3, hi_3⟩ : ∃ i : Int32, i = 0 := ⟨_, rfl⟩
  replace hl : lv_has ls 7 [(6, .int i_3), (0, .ref m0), (1, .ref of_), (2, .int 8), (3, .ref to_), (4, .int 8), (5, .int 1)] := by rw [hi_3]; exact lv_sub hl [0, 1, 2, 3, 4, 5, 6] rfl
  have h1i_3 : i_3.toInt = 0 := by rw [hi_3]; decide
  obtain ⟨nfu, hni_3⟩ : ∃ nq9 : Nat, 8 ≤ i_3.toInt + (nq9 : Int) := ⟨((8 : Int) - 0).toNat, by omega⟩
  have hloi_3 : 0 ≤ i_3.toInt := by omega
  obtain ⟨g_1, hg_1⟩ : ∃ g : Nat → Int32, g = fo := ⟨_, rfl⟩
  have hpg_1 : zRg g_1 (0) 9 := by rw [hg_1]; exact hp_fo
  replace hP : va_P D vwCl [(of_, .inl (cI, 8, .inl g_1)), (to_, .inl (cI, 130, .inl ft))] H := by rw [hg_1]; exact hP
  replace hD : va_D (va_A [(of_, .inl (cI, 8, .inl fo)), (to_, .inl (cI, 130, .inl ft))] s.heap.size) [(of_, .inl (cI, 8, .inl g_1)), (to_, .inl (cI, 130, .inl ft))] := by rw [hg_1]; exact hD
  have hvi_3_0 : (∀ j : Nat, g_1 j = zCab ft fo 8 i_3.toInt.toNat j) := by
    (try rw [hi_3]); (try rw [hg_1]); (intro j; unfold zCab; rw [if_neg (by have h8 : (0 : Int32).toInt.toNat = 0 := (by decide); omega)])
  have hvi_3_1 : i_3.toInt ≤ 8 := by
    (try rw [hi_3]); (try rw [hg_1]); first | omega | decide
  clear h1i_3 hi_3 hg_1
  skip
  revert hni_3
  revert hloi_3
  revert hvi_3_1
  revert hvi_3_0
  revert hpg_1
  revert hl
  revert hS
  revert hD
  revert hP
  revert ls
  revert locs
  revert H
  revert g_1
  revert i_3
  induction nfu with
  | zero =>
    intro i_3 g_1 H locs ls hP hD hS hl hpg_1 hvi_3_0 hvi_3_1 hloi_3 hni_3
    have hzi_3 : 8 ≤ i_3.toInt := by omega
    refine lv_iload hx hb dX8_carries_3 (lv_at hl 0 rfl) ?_
    refine lv_iload_n hx hb dX8_carries_5 rfl (lv_at hl 3 rfl) ?_
    refine lv_icmp_ge (tgt := 45) hx hb dX8_carries_6 (by decide) (fun c_2 => ?_) (fun c_2 => ?_)
    · have fc_2 : 8 ≤ i_3.toInt := zf_le c_2 (by decide) rfl
      refine lv_iload hx hb dX8_carries_45 (lv_at hl 5 rfl) ?_
      refine lv_iload_n hx hb dX8_carries_47 rfl (lv_at hl 3 rfl) ?_
      refine lv_iadd hx hb dX8_carries_48 ?_
      refine lv_topi (fun y_3 ey_3 => ?_)
      obtain rfl : y_3 = 16 := ey_3.trans (by decide)
      exact W.iret (v := 16) hx hb hr (fun t ht hW => ⟨⟨16, g_1, rfl, ⟨hpg_1, (show (∀ j : Nat, g_1 j = zCab ft fo 8 8 j) from by (intro j; have h8 := hvi_3_0 j; rw [show i_3.toInt.toNat = 8 from by omega] at h8; exact h8)), rfl⟩, zRet ht hP hD [0, 1] (by decide) rfl⟩, hS.F ht⟩) hS.2.2 dX8_carries_49
    · exfalso; have fc_2 : i_3.toInt < 8 := zf_nle c_2 (by decide) rfl; omega
  | succ nfu ih =>
    intro i_3 g_1 H locs ls hP hD hS hl hpg_1 hvi_3_0 hvi_3_1 hloi_3 hni_3
    refine lv_iload hx hb dX8_carries_3 (lv_at hl 0 rfl) ?_
    refine lv_iload_n hx hb dX8_carries_5 rfl (lv_at hl 3 rfl) ?_
    refine lv_icmp_ge (tgt := 45) hx hb dX8_carries_6 (by decide) (fun c_4 => ?_) (fun c_4 => ?_)
    · have fc_4 : 8 ≤ i_3.toInt := zf_le c_4 (by decide) rfl
      refine lv_iload hx hb dX8_carries_45 (lv_at hl 5 rfl) ?_
      refine lv_iload_n hx hb dX8_carries_47 rfl (lv_at hl 3 rfl) ?_
      refine lv_iadd hx hb dX8_carries_48 ?_
      refine lv_topi (fun y_5 ey_5 => ?_)
      obtain rfl : y_5 = 16 := ey_5.trans (by decide)
      exact W.iret (v := 16) hx hb hr (fun t ht hW => ⟨⟨16, g_1, rfl, ⟨hpg_1, (show (∀ j : Nat, g_1 j = zCab ft fo 8 8 j) from by (intro j; have h8 := hvi_3_0 j; rw [show i_3.toInt.toNat = 8 from by omega] at h8; exact h8)), rfl⟩, zRet ht hP hD [0, 1] (by decide) rfl⟩, hS.F ht⟩) hS.2.2 dX8_carries_49
    · have fc_4 : i_3.toInt < 8 := zf_nle c_4 (by decide) rfl
      refine lv_iload hx hb dX8_carries_9 (lv_at hl 6 rfl) ?_
      refine lv_if_eq (tgt := 28) hx hb dX8_carries_11 (by decide) (fun c_6 => ?_) (fun c_6 => ?_)
      · exact absurd c_6 (by decide)
      · refine lv_aload_n hx hb dX8_carries_14 rfl (lv_at hl 2 rfl) ?_
        refine lv_iload hx hb dX8_carries_15 (lv_at hl 0 rfl) ?_
        refine lv_aload_n hx hb dX8_carries_17 rfl (lv_at hl 4 rfl) ?_
        refine lv_iload hx hb dX8_carries_18 (lv_at hl 5 rfl) ?_
        refine lv_iload hx hb dX8_carries_20 (lv_at hl 0 rfl) ?_
        refine lv_iadd hx hb dX8_carries_22 ?_
        refine lv_topi (fun x_7 ex_7 => ?_)
        have qx_7 : x_7.toInt = 8 + i_3.toInt := by rw [ex_7]; exact zf_add (by decide) rfl (by omega) (by omega)
        refine va_iald hx hb hK hP 1 0 rfl rfl (zf_in (by omega) (by omega)) dX8_carries_23 ?_
        refine lv_topi (fun x_8 ex_8 => ?_)
        have bx_8 : 0 ≤ x_8.toInt ∧ x_8.toInt ≤ 9 := by rw [ex_8, show x_7.toNatClampNeg = 8 + i_3.toInt.toNat from by (show x_7.toInt.toNat = _; omega)]; exact hto _ (by omega)
        refine va_iast hx hb hK hP hD hS 0 0 rfl rfl (zf_in (by omega) (by omega)) dX8_carries_24 (fun H locs hP hD hS => ?_)
        have hpg_9 : zRg (upd g_1 i_3.toNatClampNeg x_8) (0) 9 := zRg_upd hpg_1 (by omega) (by omega)
        obtain ⟨g_9, hg_9⟩ : ∃ g : Nat → Int32, g = upd g_1 i_3.toNatClampNeg x_8 := ⟨_, rfl⟩
        rw [← hg_9] at hP hD hpg_9
        have h9R := zRe (ws' := [(of_, .inl (cI, 8, .inl g_9)), (to_, .inl (cI, 130, .inl ft))]) hP hD rfl
        clear hP hD
        obtain ⟨hP, hD⟩ := h9R
        refine lv_goto (tgt := 39) hx hb dX8_carries_25 (by decide) ?_
        obtain ⟨x_10, ex_10⟩ : ∃ y : Int32, y = i_3 + 1 := ⟨_, rfl⟩
        have qx_10 : x_10.toInt = i_3.toInt + 1 := dw_incK ex_10 fc_4 (by decide)
        refine lv_iinc (v := x_10) (lv' := [(6, .int x_10), (0, .ref m0), (1, .ref of_), (2, .int 8), (3, .ref to_), (4, .int 8), (5, .int 1)]) hx hb dX8_carries_39 hl (k := 0) rfl ex_10.symm (by decide) rfl (fun ls hl => ?_)
        refine lv_goto (tgt := 3) hx hb dX8_carries_42 (by decide) ?_
        exact ih x_10 (g_9) _ _ _ (hP.sub [0, 1] rfl) (hD.sub [0, 1] (by decide) rfl) hS (lv_sub hl [0, 1, 2, 3, 4, 5, 6] rfl) hpg_9 (show (∀ j : Nat, g_9 j = zCab ft fo 8 x_10.toInt.toNat j) from by (intro j; rw [hg_9]; have h8 : i_3.toNatClampNeg = i_3.toInt.toNat := rfl; have h7 := hvi_3_0 j; simp only [upd]; unfold zCab at h7 ⊢; exact (Classical.em (j = i_3.toNatClampNeg)).elim (fun e9 => by (rw [if_pos e9, if_pos (by omega), ex_8]; congr 1; (show x_7.toInt.toNat = _; omega))) (fun e9 => by (rw [if_neg e9, h7]; exact (Classical.em (j < i_3.toInt.toNat)).elim (fun h6 => by rw [if_pos h6, if_pos (by omega)]) (fun h6 => by rw [if_neg h6, if_neg (by omega)]))))) (show x_10.toInt ≤ 8 from by omega) (dw_lo hloi_3 qx_10) (dw_hn hni_3 qx_10)
set_option maxHeartbeats 4000000 in
set_option maxRecDepth 100000 in
theorem c_M_carf_8_16 (l : Launch) (D : va_G) (cI cJ cZ cP cS : ClassId) (po : zPool) (m0 of_ to_ : Nat) (fo ft : Nat → Int32)  (hpz : Nat) : Met l yX8_carries wsX8_carries ({ frames := 0, cells := 0, slots := 0, locals := 0 }) (va_Pc [.ref m0, .ref of_, .int 8, .ref to_, .int 16, .int 0] (zW D (zKT cI cJ cZ cP cS) po [(of_, .inl (cI, 8, .inl fo)), (to_, .inl (cI, 130, .inl ft))] hpz)) (va_Qi (fun (r : Int32) (ft2 : (Nat → Int32)) => ((∀ j : Nat, ft2 j = zCar fo ft 16 8 j)) ∧ (r = 24)) (zB D [(of_, .inl (cI, 8, .inl fo)), (to_, .inl (cI, 130, .inl ft))] hpz (fun (ft2 : Nat → Int32) => [(of_, .inl (cI, 8, .inl fo)), (to_, .inl (cI, 130, .inl ft2))])) (va_A [(of_, .inl (cI, 8, .inl fo)), (to_, .inl (cI, 130, .inl ft))] hpz)) 0 0 (va_A [(of_, .inl (cI, 8, .inl fo)), (to_, .inl (cI, 130, .inl ft))] hpz) := by
  refine Met.ofW (cc := cX8_carries) (maxL := 7) (ret := (some .int)) (by decide) rfl ?_
  intro p e s m args below meth c s₁ B hml hv
  obtain ⟨rfl, hsz, hP, hK, hD0, hN, hZ⟩ := hv
  have hx := B.exec
  have hb := B.bytes
  have hr := B.returns
  have hts := atoms_spec (ws := wsX8_carries) B.pre
  have hown : s.vm.findClass RX8 = some m.cls := findClass_of_methodNamed B.named
  have hlocks := B.notSynchronized
  subst hsz
  have hD := hD0.self (sz := s.heap.size)
  have hA := zA_of hD
  have hl := lv_entry ([.ref m0, .ref of_, .int 8, .ref to_, .int 16, .int 0]) (n := 7) (Nat.le_of_ble_eq_true rfl)
  rw [lg_entry_eq]
  generalize (lg_sl ([.ref m0, .ref of_, .int 8, .ref to_, .int 16, .int 0]) ++ List.replicate (7 - (lg_sl ([.ref m0, .ref of_, .int 8, .ref to_, .int 16, .int 0])).length) Slot.unset).toArray = ls at hl ⊢
  replace hl : lv_has ls 7 [(0, .ref m0), (1, .ref of_), (2, .int 8), (3, .ref to_), (4, .int 16), (5, .int 0)] := hl
  refine zw_begin hP hD (fun H locs hP1 hS => ?_)
  clear hP
  have hP := hP1
  clear hP1
  refine lv_iconst (v := 0) hx hb dX8_carries_0 (by decide) ?_
  refine lv_istore (lv' := [(6, .int 0), (0, .ref m0), (1, .ref of_), (2, .int 8), (3, .ref to_), (4, .int 16), (5, .int 0)]) hx hb dX8_carries_1 hl (by decide) rfl (fun ls hl => ?_)
  obtain ⟨i_3, hi_3⟩ : ∃ i : Int32, i = 0 := ⟨_, rfl⟩
  replace hl : lv_has ls 7 [(6, .int i_3), (0, .ref m0), (1, .ref of_), (2, .int 8), (3, .ref to_), (4, .int 16), (5, .int 0)] := by rw [hi_3]; exact lv_sub hl [0, 1, 2, 3, 4, 5, 6] rfl
  have h1i_3 : i_3.toInt = 0 := by rw [hi_3]; decide
  obtain ⟨nfu, hni_3⟩ : ∃ nq9 : Nat, 8 ≤ i_3.toInt + (nq9 : Int) := ⟨((8 : Int) - 0).toNat, by omega⟩
  have hloi_3 : 0 ≤ i_3.toInt := by omega
  obtain ⟨g_1, hg_1⟩ : ∃ g : Nat → Int32, g = ft := ⟨_, rfl⟩
  replace hP : va_P D vwCl [(of_, .inl (cI, 8, .inl fo)), (to_, .inl (cI, 130, .inl g_1))] H := by rw [hg_1]; exact hP
  replace hD : va_D (va_A [(of_, .inl (cI, 8, .inl fo)), (to_, .inl (cI, 130, .inl ft))] s.heap.size) [(of_, .inl (cI, 8, .inl fo)), (to_, .inl (cI, 130, .inl g_1))] := by rw [hg_1]; exact hD
  have hvi_3_0 : (∀ j : Nat, g_1 j = zCar fo ft 16 i_3.toInt.toNat j) := by
    (try rw [hi_3]); (try rw [hg_1]); (intro j; unfold zCar; rw [if_neg (by have h8 : (0 : Int32).toInt.toNat = 0 := (by decide); omega)])
  have hvi_3_1 : i_3.toInt ≤ 8 := by
    (try rw [hi_3]); (try rw [hg_1]); first | omega | decide
  clear h1i_3 hi_3 hg_1
  skip
  revert hni_3
  revert hloi_3
  revert hvi_3_1
  revert hvi_3_0
  revert hl
  revert hS
  revert hD
  revert hP
  revert ls
  revert locs
  revert H
  revert g_1
  revert i_3
  induction nfu with
  | zero =>
    intro i_3 g_1 H locs ls hP hD hS hl hvi_3_0 hvi_3_1 hloi_3 hni_3
    have hzi_3 : 8 ≤ i_3.toInt := by omega
    refine lv_iload hx hb dX8_carries_3 (lv_at hl 0 rfl) ?_
    refine lv_iload_n hx hb dX8_carries_5 rfl (lv_at hl 3 rfl) ?_
    refine lv_icmp_ge (tgt := 45) hx hb dX8_carries_6 (by decide) (fun c_2 => ?_) (fun c_2 => ?_)
    · have fc_2 : 8 ≤ i_3.toInt := zf_le c_2 (by decide) rfl
      refine lv_iload hx hb dX8_carries_45 (lv_at hl 5 rfl) ?_
      refine lv_iload_n hx hb dX8_carries_47 rfl (lv_at hl 3 rfl) ?_
      refine lv_iadd hx hb dX8_carries_48 ?_
      refine lv_topi (fun y_3 ey_3 => ?_)
      obtain rfl : y_3 = 24 := ey_3.trans (by decide)
      exact W.iret (v := 24) hx hb hr (fun t ht hW => ⟨⟨24, g_1, rfl, ⟨(show (∀ j : Nat, g_1 j = zCar fo ft 16 8 j) from by (intro j; have h8 := hvi_3_0 j; rw [show i_3.toInt.toNat = 8 from by omega] at h8; exact h8)), rfl⟩, zRet ht hP hD [0, 1] (by decide) rfl⟩, hS.F ht⟩) hS.2.2 dX8_carries_49
    · exfalso; have fc_2 : i_3.toInt < 8 := zf_nle c_2 (by decide) rfl; omega
  | succ nfu ih =>
    intro i_3 g_1 H locs ls hP hD hS hl hvi_3_0 hvi_3_1 hloi_3 hni_3
    refine lv_iload hx hb dX8_carries_3 (lv_at hl 0 rfl) ?_
    refine lv_iload_n hx hb dX8_carries_5 rfl (lv_at hl 3 rfl) ?_
    refine lv_icmp_ge (tgt := 45) hx hb dX8_carries_6 (by decide) (fun c_4 => ?_) (fun c_4 => ?_)
    · have fc_4 : 8 ≤ i_3.toInt := zf_le c_4 (by decide) rfl
      refine lv_iload hx hb dX8_carries_45 (lv_at hl 5 rfl) ?_
      refine lv_iload_n hx hb dX8_carries_47 rfl (lv_at hl 3 rfl) ?_
      refine lv_iadd hx hb dX8_carries_48 ?_
      refine lv_topi (fun y_5 ey_5 => ?_)
      obtain rfl : y_5 = 24 := ey_5.trans (by decide)
      exact W.iret (v := 24) hx hb hr (fun t ht hW => ⟨⟨24, g_1, rfl, ⟨(show (∀ j : Nat, g_1 j = zCar fo ft 16 8 j) from by (intro j; have h8 := hvi_3_0 j; rw [show i_3.toInt.toNat = 8 from by omega] at h8; exact h8)), rfl⟩, zRet ht hP hD [0, 1] (by decide) rfl⟩, hS.F ht⟩) hS.2.2 dX8_carries_49
    · have fc_4 : i_3.toInt < 8 := zf_nle c_4 (by decide) rfl
      refine lv_iload hx hb dX8_carries_9 (lv_at hl 6 rfl) ?_
      refine lv_if_eq (tgt := 28) hx hb dX8_carries_11 (by decide) (fun c_6 => ?_) (fun c_6 => ?_)
      · refine lv_aload_n hx hb dX8_carries_28 rfl (lv_at hl 4 rfl) ?_
        refine lv_iload hx hb dX8_carries_29 (lv_at hl 5 rfl) ?_
        refine lv_iload hx hb dX8_carries_31 (lv_at hl 0 rfl) ?_
        refine lv_iadd hx hb dX8_carries_33 ?_
        refine lv_topi (fun x_7 ex_7 => ?_)
        have qx_7 : x_7.toInt = 16 + i_3.toInt := by rw [ex_7]; exact zf_add (by decide) rfl (by omega) (by omega)
        refine lv_aload_n hx hb dX8_carries_34 rfl (lv_at hl 2 rfl) ?_
        refine lv_iload hx hb dX8_carries_35 (lv_at hl 0 rfl) ?_
        refine va_iald hx hb hK hP 0 0 rfl rfl (zf_in (by omega) (by omega)) dX8_carries_37 ?_
        refine lv_topi (fun x_8 ex_8 => ?_)
        refine va_iast hx hb hK hP hD hS 1 0 rfl rfl (zf_in (by omega) (by omega)) dX8_carries_38 (fun H locs hP hD hS => ?_)
        have h9R := zRe (ws' := [(of_, .inl (cI, 8, .inl fo)), (to_, .inl (cI, 130, .inl (upd g_1 x_7.toNatClampNeg x_8)))]) hP hD rfl
        clear hP hD
        obtain ⟨hP, hD⟩ := h9R
        obtain ⟨x_9, ex_9⟩ : ∃ y : Int32, y = i_3 + 1 := ⟨_, rfl⟩
        have qx_9 : x_9.toInt = i_3.toInt + 1 := dw_incK ex_9 fc_4 (by decide)
        refine lv_iinc (v := x_9) (lv' := [(6, .int x_9), (0, .ref m0), (1, .ref of_), (2, .int 8), (3, .ref to_), (4, .int 16), (5, .int 0)]) hx hb dX8_carries_39 hl (k := 0) rfl ex_9.symm (by decide) rfl (fun ls hl => ?_)
        refine lv_goto (tgt := 3) hx hb dX8_carries_42 (by decide) ?_
        exact ih x_9 ((upd g_1 x_7.toNatClampNeg x_8)) _ _ _ (hP.sub [0, 1] rfl) (hD.sub [0, 1] (by decide) rfl) hS (lv_sub hl [0, 1, 2, 3, 4, 5, 6] rfl) (show (∀ j : Nat, (upd g_1 x_7.toNatClampNeg x_8) j = zCar fo ft 16 x_9.toInt.toNat j) from by (intro j; have h8 : x_7.toNatClampNeg = 16 + i_3.toInt.toNat := (by (show x_7.toInt.toNat = _; omega)); have h7 := hvi_3_0 j; simp only [upd]; unfold zCar at h7 ⊢; exact (Classical.em (j = x_7.toNatClampNeg)).elim (fun e9 => by (rw [if_pos e9, if_pos (by omega), ex_8]; congr 1; (show i_3.toInt.toNat = _; omega))) (fun e9 => by (rw [if_neg e9, h7]; exact (Classical.em (16 ≤ j ∧ j < 16 + i_3.toInt.toNat)).elim (fun h6 => by rw [if_pos h6, if_pos (by omega)]) (fun h6 => by rw [if_neg h6, if_neg (by omega)]))))) (show x_9.toInt ≤ 8 from by omega) (dw_lo hloi_3 qx_9) (dw_hn hni_3 qx_9)
      · exact absurd c_6 (by decide)
set_option maxHeartbeats 4000000 in
set_option maxRecDepth 100000 in
theorem c_M_carb_8_16 (l : Launch) (D : va_G) (cI cJ cZ cP cS : ClassId) (po : zPool) (m0 of_ to_ : Nat) (fo ft : Nat → Int32) (hto : ∀ j : Nat, j < 8 → 0 ≤ (ft (16 + j)).toInt ∧ (ft (16 + j)).toInt ≤ 60) (hp_fo : zRg fo (0) 60) (hpz : Nat) : Met l yX8_carries wsX8_carries ({ frames := 0, cells := 0, slots := 0, locals := 0 }) (va_Pc [.ref m0, .ref of_, .int 8, .ref to_, .int 16, .int 1] (zW D (zKT cI cJ cZ cP cS) po [(of_, .inl (cI, 8, .inl fo)), (to_, .inl (cI, 130, .inl ft))] hpz)) (va_Qi (fun (r : Int32) (fo2 : (Nat → Int32)) => zRg fo2 (0) 60 ∧ ((∀ j : Nat, fo2 j = zCab ft fo 16 8 j)) ∧ (r = 24)) (zB D [(of_, .inl (cI, 8, .inl fo)), (to_, .inl (cI, 130, .inl ft))] hpz (fun (fo2 : Nat → Int32) => [(of_, .inl (cI, 8, .inl fo2)), (to_, .inl (cI, 130, .inl ft))])) (va_A [(of_, .inl (cI, 8, .inl fo)), (to_, .inl (cI, 130, .inl ft))] hpz)) 0 0 (va_A [(of_, .inl (cI, 8, .inl fo)), (to_, .inl (cI, 130, .inl ft))] hpz) := by
  refine Met.ofW (cc := cX8_carries) (maxL := 7) (ret := (some .int)) (by decide) rfl ?_
  intro p e s m args below meth c s₁ B hml hv
  obtain ⟨rfl, hsz, hP, hK, hD0, hN, hZ⟩ := hv
  have hx := B.exec
  have hb := B.bytes
  have hr := B.returns
  have hts := atoms_spec (ws := wsX8_carries) B.pre
  have hown : s.vm.findClass RX8 = some m.cls := findClass_of_methodNamed B.named
  have hlocks := B.notSynchronized
  subst hsz
  have hD := hD0.self (sz := s.heap.size)
  have hA := zA_of hD
  have hl := lv_entry ([.ref m0, .ref of_, .int 8, .ref to_, .int 16, .int 1]) (n := 7) (Nat.le_of_ble_eq_true rfl)
  rw [lg_entry_eq]
  generalize (lg_sl ([.ref m0, .ref of_, .int 8, .ref to_, .int 16, .int 1]) ++ List.replicate (7 - (lg_sl ([.ref m0, .ref of_, .int 8, .ref to_, .int 16, .int 1])).length) Slot.unset).toArray = ls at hl ⊢
  replace hl : lv_has ls 7 [(0, .ref m0), (1, .ref of_), (2, .int 8), (3, .ref to_), (4, .int 16), (5, .int 1)] := hl
  refine zw_begin hP hD (fun H locs hP1 hS => ?_)
  clear hP
  have hP := hP1
  clear hP1
  refine lv_iconst (v := 0) hx hb dX8_carries_0 (by decide) ?_
  refine lv_istore (lv' := [(6, .int 0), (0, .ref m0), (1, .ref of_), (2, .int 8), (3, .ref to_), (4, .int 16), (5, .int 1)]) hx hb dX8_carries_1 hl (by decide) rfl (fun ls hl => ?_)
  obtain ⟨i_3, hi_3⟩ : ∃ i : Int32, i = 0 := ⟨_, rfl⟩
  replace hl : lv_has ls 7 [(6, .int i_3), (0, .ref m0), (1, .ref of_), (2, .int 8), (3, .ref to_), (4, .int 16), (5, .int 1)] := by rw [hi_3]; exact lv_sub hl [0, 1, 2, 3, 4, 5, 6] rfl
  have h1i_3 : i_3.toInt = 0 := by rw [hi_3]; decide
  obtain ⟨nfu, hni_3⟩ : ∃ nq9 : Nat, 8 ≤ i_3.toInt + (nq9 : Int) := ⟨((8 : Int) - 0).toNat, by omega⟩
  have hloi_3 : 0 ≤ i_3.toInt := by omega
  obtain ⟨g_1, hg_1⟩ : ∃ g : Nat → Int32, g = fo := ⟨_, rfl⟩
  have hpg_1 : zRg g_1 (0) 60 := by rw [hg_1]; exact hp_fo
  replace hP : va_P D vwCl [(of_, .inl (cI, 8, .inl g_1)), (to_, .inl (cI, 130, .inl ft))] H := by rw [hg_1]; exact hP
  replace hD : va_D (va_A [(of_, .inl (cI, 8, .inl fo)), (to_, .inl (cI, 130, .inl ft))] s.heap.size) [(of_, .inl (cI, 8, .inl g_1)), (to_, .inl (cI, 130, .inl ft))] := by rw [hg_1]; exact hD
  have hvi_3_0 : (∀ j : Nat, g_1 j = zCab ft fo 16 i_3.toInt.toNat j) := by
    (try rw [hi_3]); (try rw [hg_1]); (intro j; unfold zCab; rw [if_neg (by have h8 : (0 : Int32).toInt.toNat = 0 := (by decide); omega)])
  have hvi_3_1 : i_3.toInt ≤ 8 := by
    (try rw [hi_3]); (try rw [hg_1]); first | omega | decide
  clear h1i_3 hi_3 hg_1
  skip
  revert hni_3
  revert hloi_3
  revert hvi_3_1
  revert hvi_3_0
  revert hpg_1
  revert hl
  revert hS
  revert hD
  revert hP
  revert ls
  revert locs
  revert H
  revert g_1
  revert i_3
  induction nfu with
  | zero =>
    intro i_3 g_1 H locs ls hP hD hS hl hpg_1 hvi_3_0 hvi_3_1 hloi_3 hni_3
    have hzi_3 : 8 ≤ i_3.toInt := by omega
    refine lv_iload hx hb dX8_carries_3 (lv_at hl 0 rfl) ?_
    refine lv_iload_n hx hb dX8_carries_5 rfl (lv_at hl 3 rfl) ?_
    refine lv_icmp_ge (tgt := 45) hx hb dX8_carries_6 (by decide) (fun c_2 => ?_) (fun c_2 => ?_)
    · have fc_2 : 8 ≤ i_3.toInt := zf_le c_2 (by decide) rfl
      refine lv_iload hx hb dX8_carries_45 (lv_at hl 5 rfl) ?_
      refine lv_iload_n hx hb dX8_carries_47 rfl (lv_at hl 3 rfl) ?_
      refine lv_iadd hx hb dX8_carries_48 ?_
      refine lv_topi (fun y_3 ey_3 => ?_)
      obtain rfl : y_3 = 24 := ey_3.trans (by decide)
      exact W.iret (v := 24) hx hb hr (fun t ht hW => ⟨⟨24, g_1, rfl, ⟨hpg_1, (show (∀ j : Nat, g_1 j = zCab ft fo 16 8 j) from by (intro j; have h8 := hvi_3_0 j; rw [show i_3.toInt.toNat = 8 from by omega] at h8; exact h8)), rfl⟩, zRet ht hP hD [0, 1] (by decide) rfl⟩, hS.F ht⟩) hS.2.2 dX8_carries_49
    · exfalso; have fc_2 : i_3.toInt < 8 := zf_nle c_2 (by decide) rfl; omega
  | succ nfu ih =>
    intro i_3 g_1 H locs ls hP hD hS hl hpg_1 hvi_3_0 hvi_3_1 hloi_3 hni_3
    refine lv_iload hx hb dX8_carries_3 (lv_at hl 0 rfl) ?_
    refine lv_iload_n hx hb dX8_carries_5 rfl (lv_at hl 3 rfl) ?_
    refine lv_icmp_ge (tgt := 45) hx hb dX8_carries_6 (by decide) (fun c_4 => ?_) (fun c_4 => ?_)
    · have fc_4 : 8 ≤ i_3.toInt := zf_le c_4 (by decide) rfl
      refine lv_iload hx hb dX8_carries_45 (lv_at hl 5 rfl) ?_
      refine lv_iload_n hx hb dX8_carries_47 rfl (lv_at hl 3 rfl) ?_
      refine lv_iadd hx hb dX8_carries_48 ?_
      refine lv_topi (fun y_5 ey_5 => ?_)
      obtain rfl : y_5 = 24 := ey_5.trans (by decide)
      exact W.iret (v := 24) hx hb hr (fun t ht hW => ⟨⟨24, g_1, rfl, ⟨hpg_1, (show (∀ j : Nat, g_1 j = zCab ft fo 16 8 j) from by (intro j; have h8 := hvi_3_0 j; rw [show i_3.toInt.toNat = 8 from by omega] at h8; exact h8)), rfl⟩, zRet ht hP hD [0, 1] (by decide) rfl⟩, hS.F ht⟩) hS.2.2 dX8_carries_49
    · have fc_4 : i_3.toInt < 8 := zf_nle c_4 (by decide) rfl
      refine lv_iload hx hb dX8_carries_9 (lv_at hl 6 rfl) ?_
      refine lv_if_eq (tgt := 28) hx hb dX8_carries_11 (by decide) (fun c_6 => ?_) (fun c_6 => ?_)
      · exact absurd c_6 (by decide)
      · refine lv_aload_n hx hb dX8_carries_14 rfl (lv_at hl 2 rfl) ?_
        refine lv_iload hx hb dX8_carries_15 (lv_at hl 0 rfl) ?_
        refine lv_aload_n hx hb dX8_carries_17 rfl (lv_at hl 4 rfl) ?_
        refine lv_iload hx hb dX8_carries_18 (lv_at hl 5 rfl) ?_
        refine lv_iload hx hb dX8_carries_20 (lv_at hl 0 rfl) ?_
        refine lv_iadd hx hb dX8_carries_22 ?_
        refine lv_topi (fun x_7 ex_7 => ?_)
        have qx_7 : x_7.toInt = 16 + i_3.toInt := by rw [ex_7]; exact zf_add (by decide) rfl (by omega) (by omega)
        refine va_iald hx hb hK hP 1 0 rfl rfl (zf_in (by omega) (by omega)) dX8_carries_23 ?_
        refine lv_topi (fun x_8 ex_8 => ?_)
        have bx_8 : 0 ≤ x_8.toInt ∧ x_8.toInt ≤ 60 := by rw [ex_8, show x_7.toNatClampNeg = 16 + i_3.toInt.toNat from by (show x_7.toInt.toNat = _; omega)]; exact hto _ (by omega)
        refine va_iast hx hb hK hP hD hS 0 0 rfl rfl (zf_in (by omega) (by omega)) dX8_carries_24 (fun H locs hP hD hS => ?_)
        have hpg_9 : zRg (upd g_1 i_3.toNatClampNeg x_8) (0) 60 := zRg_upd hpg_1 (by omega) (by omega)
        obtain ⟨g_9, hg_9⟩ : ∃ g : Nat → Int32, g = upd g_1 i_3.toNatClampNeg x_8 := ⟨_, rfl⟩
        rw [← hg_9] at hP hD hpg_9
        have h9R := zRe (ws' := [(of_, .inl (cI, 8, .inl g_9)), (to_, .inl (cI, 130, .inl ft))]) hP hD rfl
        clear hP hD
        obtain ⟨hP, hD⟩ := h9R
        refine lv_goto (tgt := 39) hx hb dX8_carries_25 (by decide) ?_
        obtain ⟨x_10, ex_10⟩ : ∃ y : Int32, y = i_3 + 1 := ⟨_, rfl⟩
        have qx_10 : x_10.toInt = i_3.toInt + 1 := dw_incK ex_10 fc_4 (by decide)
        refine lv_iinc (v := x_10) (lv' := [(6, .int x_10), (0, .ref m0), (1, .ref of_), (2, .int 8), (3, .ref to_), (4, .int 16), (5, .int 1)]) hx hb dX8_carries_39 hl (k := 0) rfl ex_10.symm (by decide) rfl (fun ls hl => ?_)
        refine lv_goto (tgt := 3) hx hb dX8_carries_42 (by decide) ?_
        exact ih x_10 (g_9) _ _ _ (hP.sub [0, 1] rfl) (hD.sub [0, 1] (by decide) rfl) hS (lv_sub hl [0, 1, 2, 3, 4, 5, 6] rfl) hpg_9 (show (∀ j : Nat, g_9 j = zCab ft fo 16 x_10.toInt.toNat j) from by (intro j; rw [hg_9]; have h8 : i_3.toNatClampNeg = i_3.toInt.toNat := rfl; have h7 := hvi_3_0 j; simp only [upd]; unfold zCab at h7 ⊢; exact (Classical.em (j = i_3.toNatClampNeg)).elim (fun e9 => by (rw [if_pos e9, if_pos (by omega), ex_8]; congr 1; (show x_7.toInt.toNat = _; omega))) (fun e9 => by (rw [if_neg e9, h7]; exact (Classical.em (j < i_3.toInt.toNat)).elim (fun h6 => by rw [if_pos h6, if_pos (by omega)]) (fun h6 => by rw [if_neg h6, if_neg (by omega)]))))) (show x_10.toInt ≤ 8 from by omega) (dw_lo hloi_3 qx_10) (dw_hn hni_3 qx_10)
set_option maxHeartbeats 4000000 in
set_option maxRecDepth 100000 in
theorem c_M_carf_40_24 (l : Launch) (D : va_G) (cI cJ cZ cP cS : ClassId) (po : zPool) (m0 of_ to_ : Nat) (fo ft : Nat → Int32)  (hpz : Nat) : Met l yX8_carries wsX8_carries ({ frames := 0, cells := 0, slots := 0, locals := 0 }) (va_Pc [.ref m0, .ref of_, .int 40, .ref to_, .int 24, .int 0] (zW D (zKT cI cJ cZ cP cS) po [(of_, .inl (cI, 40, .inl fo)), (to_, .inl (cI, 130, .inl ft))] hpz)) (va_Qi (fun (r : Int32) (ft2 : (Nat → Int32)) => ((∀ j : Nat, ft2 j = zCar fo ft 24 40 j)) ∧ (r = 64)) (zB D [(of_, .inl (cI, 40, .inl fo)), (to_, .inl (cI, 130, .inl ft))] hpz (fun (ft2 : Nat → Int32) => [(of_, .inl (cI, 40, .inl fo)), (to_, .inl (cI, 130, .inl ft2))])) (va_A [(of_, .inl (cI, 40, .inl fo)), (to_, .inl (cI, 130, .inl ft))] hpz)) 0 0 (va_A [(of_, .inl (cI, 40, .inl fo)), (to_, .inl (cI, 130, .inl ft))] hpz) := by
  refine Met.ofW (cc := cX8_carries) (maxL := 7) (ret := (some .int)) (by decide) rfl ?_
  intro p e s m args below meth c s₁ B hml hv
  obtain ⟨rfl, hsz, hP, hK, hD0, hN, hZ⟩ := hv
  have hx := B.exec
  have hb := B.bytes
  have hr := B.returns
  have hts := atoms_spec (ws := wsX8_carries) B.pre
  have hown : s.vm.findClass RX8 = some m.cls := findClass_of_methodNamed B.named
  have hlocks := B.notSynchronized
  subst hsz
  have hD := hD0.self (sz := s.heap.size)
  have hA := zA_of hD
  have hl := lv_entry ([.ref m0, .ref of_, .int 40, .ref to_, .int 24, .int 0]) (n := 7) (Nat.le_of_ble_eq_true rfl)
  rw [lg_entry_eq]
  generalize (lg_sl ([.ref m0, .ref of_, .int 40, .ref to_, .int 24, .int 0]) ++ List.replicate (7 - (lg_sl ([.ref m0, .ref of_, .int 40, .ref to_, .int 24, .int 0])).length) Slot.unset).toArray = ls at hl ⊢
  replace hl : lv_has ls 7 [(0, .ref m0), (1, .ref of_), (2, .int 40), (3, .ref to_), (4, .int 24), (5, .int 0)] := hl
  refine zw_begin hP hD (fun H locs hP1 hS => ?_)
  clear hP
  have hP := hP1
  clear hP1
  refine lv_iconst (v := 0) hx hb dX8_carries_0 (by decide) ?_
  refine lv_istore (lv' := [(6, .int 0), (0, .ref m0), (1, .ref of_), (2, .int 40), (3, .ref to_), (4, .int 24), (5, .int 0)]) hx hb dX8_carries_1 hl (by decide) rfl (fun ls hl => ?_)
  obtain ⟨i_3, hi_3⟩ : ∃ i : Int32, i = 0 := ⟨_, rfl⟩
  replace hl : lv_has ls 7 [(6, .int i_3), (0, .ref m0), (1, .ref of_), (2, .int 40), (3, .ref to_), (4, .int 24), (5, .int 0)] := by rw [hi_3]; exact lv_sub hl [0, 1, 2, 3, 4, 5, 6] rfl
  have h1i_3 : i_3.toInt = 0 := by rw [hi_3]; decide
  obtain ⟨nfu, hni_3⟩ : ∃ nq9 : Nat, 40 ≤ i_3.toInt + (nq9 : Int) := ⟨((40 : Int) - 0).toNat, by omega⟩
  have hloi_3 : 0 ≤ i_3.toInt := by omega
  obtain ⟨g_1, hg_1⟩ : ∃ g : Nat → Int32, g = ft := ⟨_, rfl⟩
  replace hP : va_P D vwCl [(of_, .inl (cI, 40, .inl fo)), (to_, .inl (cI, 130, .inl g_1))] H := by rw [hg_1]; exact hP
  replace hD : va_D (va_A [(of_, .inl (cI, 40, .inl fo)), (to_, .inl (cI, 130, .inl ft))] s.heap.size) [(of_, .inl (cI, 40, .inl fo)), (to_, .inl (cI, 130, .inl g_1))] := by rw [hg_1]; exact hD
  have hvi_3_0 : (∀ j : Nat, g_1 j = zCar fo ft 24 i_3.toInt.toNat j) := by
    (try rw [hi_3]); (try rw [hg_1]); (intro j; unfold zCar; rw [if_neg (by have h8 : (0 : Int32).toInt.toNat = 0 := (by decide); omega)])
  have hvi_3_1 : i_3.toInt ≤ 40 := by
    (try rw [hi_3]); (try rw [hg_1]); first | omega | decide
  clear h1i_3 hi_3 hg_1
  skip
  revert hni_3
  revert hloi_3
  revert hvi_3_1
  revert hvi_3_0
  revert hl
  revert hS
  revert hD
  revert hP
  revert ls
  revert locs
  revert H
  revert g_1
  revert i_3
  induction nfu with
  | zero =>
    intro i_3 g_1 H locs ls hP hD hS hl hvi_3_0 hvi_3_1 hloi_3 hni_3
    have hzi_3 : 40 ≤ i_3.toInt := by omega
    refine lv_iload hx hb dX8_carries_3 (lv_at hl 0 rfl) ?_
    refine lv_iload_n hx hb dX8_carries_5 rfl (lv_at hl 3 rfl) ?_
    refine lv_icmp_ge (tgt := 45) hx hb dX8_carries_6 (by decide) (fun c_2 => ?_) (fun c_2 => ?_)
    · have fc_2 : 40 ≤ i_3.toInt := zf_le c_2 (by decide) rfl
      refine lv_iload hx hb dX8_carries_45 (lv_at hl 5 rfl) ?_
      refine lv_iload_n hx hb dX8_carries_47 rfl (lv_at hl 3 rfl) ?_
      refine lv_iadd hx hb dX8_carries_48 ?_
      refine lv_topi (fun y_3 ey_3 => ?_)
      obtain rfl : y_3 = 64 := ey_3.trans (by decide)
      exact W.iret (v := 64) hx hb hr (fun t ht hW => ⟨⟨64, g_1, rfl, ⟨(show (∀ j : Nat, g_1 j = zCar fo ft 24 40 j) from by (intro j; have h8 := hvi_3_0 j; rw [show i_3.toInt.toNat = 40 from by omega] at h8; exact h8)), rfl⟩, zRet ht hP hD [0, 1] (by decide) rfl⟩, hS.F ht⟩) hS.2.2 dX8_carries_49
    · exfalso; have fc_2 : i_3.toInt < 40 := zf_nle c_2 (by decide) rfl; omega
  | succ nfu ih =>
    intro i_3 g_1 H locs ls hP hD hS hl hvi_3_0 hvi_3_1 hloi_3 hni_3
    refine lv_iload hx hb dX8_carries_3 (lv_at hl 0 rfl) ?_
    refine lv_iload_n hx hb dX8_carries_5 rfl (lv_at hl 3 rfl) ?_
    refine lv_icmp_ge (tgt := 45) hx hb dX8_carries_6 (by decide) (fun c_4 => ?_) (fun c_4 => ?_)
    · have fc_4 : 40 ≤ i_3.toInt := zf_le c_4 (by decide) rfl
      refine lv_iload hx hb dX8_carries_45 (lv_at hl 5 rfl) ?_
      refine lv_iload_n hx hb dX8_carries_47 rfl (lv_at hl 3 rfl) ?_
      refine lv_iadd hx hb dX8_carries_48 ?_
      refine lv_topi (fun y_5 ey_5 => ?_)
      obtain rfl : y_5 = 64 := ey_5.trans (by decide)
      exact W.iret (v := 64) hx hb hr (fun t ht hW => ⟨⟨64, g_1, rfl, ⟨(show (∀ j : Nat, g_1 j = zCar fo ft 24 40 j) from by (intro j; have h8 := hvi_3_0 j; rw [show i_3.toInt.toNat = 40 from by omega] at h8; exact h8)), rfl⟩, zRet ht hP hD [0, 1] (by decide) rfl⟩, hS.F ht⟩) hS.2.2 dX8_carries_49
    · have fc_4 : i_3.toInt < 40 := zf_nle c_4 (by decide) rfl
      refine lv_iload hx hb dX8_carries_9 (lv_at hl 6 rfl) ?_
      refine lv_if_eq (tgt := 28) hx hb dX8_carries_11 (by decide) (fun c_6 => ?_) (fun c_6 => ?_)
      · refine lv_aload_n hx hb dX8_carries_28 rfl (lv_at hl 4 rfl) ?_
        refine lv_iload hx hb dX8_carries_29 (lv_at hl 5 rfl) ?_
        refine lv_iload hx hb dX8_carries_31 (lv_at hl 0 rfl) ?_
        refine lv_iadd hx hb dX8_carries_33 ?_
        refine lv_topi (fun x_7 ex_7 => ?_)
        have qx_7 : x_7.toInt = 24 + i_3.toInt := by rw [ex_7]; exact zf_add (by decide) rfl (by omega) (by omega)
        refine lv_aload_n hx hb dX8_carries_34 rfl (lv_at hl 2 rfl) ?_
        refine lv_iload hx hb dX8_carries_35 (lv_at hl 0 rfl) ?_
        refine va_iald hx hb hK hP 0 0 rfl rfl (zf_in (by omega) (by omega)) dX8_carries_37 ?_
        refine lv_topi (fun x_8 ex_8 => ?_)
        refine va_iast hx hb hK hP hD hS 1 0 rfl rfl (zf_in (by omega) (by omega)) dX8_carries_38 (fun H locs hP hD hS => ?_)
        have h9R := zRe (ws' := [(of_, .inl (cI, 40, .inl fo)), (to_, .inl (cI, 130, .inl (upd g_1 x_7.toNatClampNeg x_8)))]) hP hD rfl
        clear hP hD
        obtain ⟨hP, hD⟩ := h9R
        obtain ⟨x_9, ex_9⟩ : ∃ y : Int32, y = i_3 + 1 := ⟨_, rfl⟩
        have qx_9 : x_9.toInt = i_3.toInt + 1 := dw_incK ex_9 fc_4 (by decide)
        refine lv_iinc (v := x_9) (lv' := [(6, .int x_9), (0, .ref m0), (1, .ref of_), (2, .int 40), (3, .ref to_), (4, .int 24), (5, .int 0)]) hx hb dX8_carries_39 hl (k := 0) rfl ex_9.symm (by decide) rfl (fun ls hl => ?_)
        refine lv_goto (tgt := 3) hx hb dX8_carries_42 (by decide) ?_
        exact ih x_9 ((upd g_1 x_7.toNatClampNeg x_8)) _ _ _ (hP.sub [0, 1] rfl) (hD.sub [0, 1] (by decide) rfl) hS (lv_sub hl [0, 1, 2, 3, 4, 5, 6] rfl) (show (∀ j : Nat, (upd g_1 x_7.toNatClampNeg x_8) j = zCar fo ft 24 x_9.toInt.toNat j) from by (intro j; have h8 : x_7.toNatClampNeg = 24 + i_3.toInt.toNat := (by (show x_7.toInt.toNat = _; omega)); have h7 := hvi_3_0 j; simp only [upd]; unfold zCar at h7 ⊢; exact (Classical.em (j = x_7.toNatClampNeg)).elim (fun e9 => by (rw [if_pos e9, if_pos (by omega), ex_8]; congr 1; (show i_3.toInt.toNat = _; omega))) (fun e9 => by (rw [if_neg e9, h7]; exact (Classical.em (24 ≤ j ∧ j < 24 + i_3.toInt.toNat)).elim (fun h6 => by rw [if_pos h6, if_pos (by omega)]) (fun h6 => by rw [if_neg h6, if_neg (by omega)]))))) (show x_9.toInt ≤ 40 from by omega) (dw_lo hloi_3 qx_9) (dw_hn hni_3 qx_9)
      · exact absurd c_6 (by decide)
set_option maxHeartbeats 4000000 in
set_option maxRecDepth 100000 in
theorem c_M_carb_40_24 (l : Launch) (D : va_G) (cI cJ cZ cP cS : ClassId) (po : zPool) (m0 of_ to_ : Nat) (fo ft : Nat → Int32) (hto : ∀ j : Nat, j < 40 → 0 ≤ (ft (24 + j)).toInt ∧ (ft (24 + j)).toInt ≤ 1) (hp_fo : zRg fo (0) 1) (hpz : Nat) : Met l yX8_carries wsX8_carries ({ frames := 0, cells := 0, slots := 0, locals := 0 }) (va_Pc [.ref m0, .ref of_, .int 40, .ref to_, .int 24, .int 1] (zW D (zKT cI cJ cZ cP cS) po [(of_, .inl (cI, 40, .inl fo)), (to_, .inl (cI, 130, .inl ft))] hpz)) (va_Qi (fun (r : Int32) (fo2 : (Nat → Int32)) => zRg fo2 (0) 1 ∧ ((∀ j : Nat, fo2 j = zCab ft fo 24 40 j)) ∧ (r = 64)) (zB D [(of_, .inl (cI, 40, .inl fo)), (to_, .inl (cI, 130, .inl ft))] hpz (fun (fo2 : Nat → Int32) => [(of_, .inl (cI, 40, .inl fo2)), (to_, .inl (cI, 130, .inl ft))])) (va_A [(of_, .inl (cI, 40, .inl fo)), (to_, .inl (cI, 130, .inl ft))] hpz)) 0 0 (va_A [(of_, .inl (cI, 40, .inl fo)), (to_, .inl (cI, 130, .inl ft))] hpz) := by
  refine Met.ofW (cc := cX8_carries) (maxL := 7) (ret := (some .int)) (by decide) rfl ?_
  intro p e s m args below meth c s₁ B hml hv
  obtain ⟨rfl, hsz, hP, hK, hD0, hN, hZ⟩ := hv
  have hx := B.exec
  have hb := B.bytes
  have hr := B.returns
  have hts := atoms_spec (ws := wsX8_carries) B.pre
  have hown : s.vm.findClass RX8 = some m.cls := findClass_of_methodNamed B.named
  have hlocks := B.notSynchronized
  subst hsz
  have hD := hD0.self (sz := s.heap.size)
  have hA := zA_of hD
  have hl := lv_entry ([.ref m0, .ref of_, .int 40, .ref to_, .int 24, .int 1]) (n := 7) (Nat.le_of_ble_eq_true rfl)
  rw [lg_entry_eq]
  generalize (lg_sl ([.ref m0, .ref of_, .int 40, .ref to_, .int 24, .int 1]) ++ List.replicate (7 - (lg_sl ([.ref m0, .ref of_, .int 40, .ref to_, .int 24, .int 1])).length) Slot.unset).toArray = ls at hl ⊢
  replace hl : lv_has ls 7 [(0, .ref m0), (1, .ref of_), (2, .int 40), (3, .ref to_), (4, .int 24), (5, .int 1)] := hl
  refine zw_begin hP hD (fun H locs hP1 hS => ?_)
  clear hP
  have hP := hP1
  clear hP1
  refine lv_iconst (v := 0) hx hb dX8_carries_0 (by decide) ?_
  refine lv_istore (lv' := [(6, .int 0), (0, .ref m0), (1, .ref of_), (2, .int 40), (3, .ref to_), (4, .int 24), (5, .int 1)]) hx hb dX8_carries_1 hl (by decide) rfl (fun ls hl => ?_)
  obtain ⟨i_3, hi_3⟩ : ∃ i : Int32, i = 0 := ⟨_, rfl⟩
  replace hl : lv_has ls 7 [(6, .int i_3), (0, .ref m0), (1, .ref of_), (2, .int 40), (3, .ref to_), (4, .int 24), (5, .int 1)] := by rw [hi_3]; exact lv_sub hl [0, 1, 2, 3, 4, 5, 6] rfl
  have h1i_3 : i_3.toInt = 0 := by rw [hi_3]; decide
  obtain ⟨nfu, hni_3⟩ : ∃ nq9 : Nat, 40 ≤ i_3.toInt + (nq9 : Int) := ⟨((40 : Int) - 0).toNat, by omega⟩
  have hloi_3 : 0 ≤ i_3.toInt := by omega
  obtain ⟨g_1, hg_1⟩ : ∃ g : Nat → Int32, g = fo := ⟨_, rfl⟩
  have hpg_1 : zRg g_1 (0) 1 := by rw [hg_1]; exact hp_fo
  replace hP : va_P D vwCl [(of_, .inl (cI, 40, .inl g_1)), (to_, .inl (cI, 130, .inl ft))] H := by rw [hg_1]; exact hP
  replace hD : va_D (va_A [(of_, .inl (cI, 40, .inl fo)), (to_, .inl (cI, 130, .inl ft))] s.heap.size) [(of_, .inl (cI, 40, .inl g_1)), (to_, .inl (cI, 130, .inl ft))] := by rw [hg_1]; exact hD
  have hvi_3_0 : (∀ j : Nat, g_1 j = zCab ft fo 24 i_3.toInt.toNat j) := by
    (try rw [hi_3]); (try rw [hg_1]); (intro j; unfold zCab; rw [if_neg (by have h8 : (0 : Int32).toInt.toNat = 0 := (by decide); omega)])
  have hvi_3_1 : i_3.toInt ≤ 40 := by
    (try rw [hi_3]); (try rw [hg_1]); first | omega | decide
  clear h1i_3 hi_3 hg_1
  skip
  revert hni_3
  revert hloi_3
  revert hvi_3_1
  revert hvi_3_0
  revert hpg_1
  revert hl
  revert hS
  revert hD
  revert hP
  revert ls
  revert locs
  revert H
  revert g_1
  revert i_3
  induction nfu with
  | zero =>
    intro i_3 g_1 H locs ls hP hD hS hl hpg_1 hvi_3_0 hvi_3_1 hloi_3 hni_3
    have hzi_3 : 40 ≤ i_3.toInt := by omega
    refine lv_iload hx hb dX8_carries_3 (lv_at hl 0 rfl) ?_
    refine lv_iload_n hx hb dX8_carries_5 rfl (lv_at hl 3 rfl) ?_
    refine lv_icmp_ge (tgt := 45) hx hb dX8_carries_6 (by decide) (fun c_2 => ?_) (fun c_2 => ?_)
    · have fc_2 : 40 ≤ i_3.toInt := zf_le c_2 (by decide) rfl
      refine lv_iload hx hb dX8_carries_45 (lv_at hl 5 rfl) ?_
      refine lv_iload_n hx hb dX8_carries_47 rfl (lv_at hl 3 rfl) ?_
      refine lv_iadd hx hb dX8_carries_48 ?_
      refine lv_topi (fun y_3 ey_3 => ?_)
      obtain rfl : y_3 = 64 := ey_3.trans (by decide)
      exact W.iret (v := 64) hx hb hr (fun t ht hW => ⟨⟨64, g_1, rfl, ⟨hpg_1, (show (∀ j : Nat, g_1 j = zCab ft fo 24 40 j) from by (intro j; have h8 := hvi_3_0 j; rw [show i_3.toInt.toNat = 40 from by omega] at h8; exact h8)), rfl⟩, zRet ht hP hD [0, 1] (by decide) rfl⟩, hS.F ht⟩) hS.2.2 dX8_carries_49
    · exfalso; have fc_2 : i_3.toInt < 40 := zf_nle c_2 (by decide) rfl; omega
  | succ nfu ih =>
    intro i_3 g_1 H locs ls hP hD hS hl hpg_1 hvi_3_0 hvi_3_1 hloi_3 hni_3
    refine lv_iload hx hb dX8_carries_3 (lv_at hl 0 rfl) ?_
    refine lv_iload_n hx hb dX8_carries_5 rfl (lv_at hl 3 rfl) ?_
    refine lv_icmp_ge (tgt := 45) hx hb dX8_carries_6 (by decide) (fun c_4 => ?_) (fun c_4 => ?_)
    · have fc_4 : 40 ≤ i_3.toInt := zf_le c_4 (by decide) rfl
      refine lv_iload hx hb dX8_carries_45 (lv_at hl 5 rfl) ?_
      refine lv_iload_n hx hb dX8_carries_47 rfl (lv_at hl 3 rfl) ?_
      refine lv_iadd hx hb dX8_carries_48 ?_
      refine lv_topi (fun y_5 ey_5 => ?_)
      obtain rfl : y_5 = 64 := ey_5.trans (by decide)
      exact W.iret (v := 64) hx hb hr (fun t ht hW => ⟨⟨64, g_1, rfl, ⟨hpg_1, (show (∀ j : Nat, g_1 j = zCab ft fo 24 40 j) from by (intro j; have h8 := hvi_3_0 j; rw [show i_3.toInt.toNat = 40 from by omega] at h8; exact h8)), rfl⟩, zRet ht hP hD [0, 1] (by decide) rfl⟩, hS.F ht⟩) hS.2.2 dX8_carries_49
    · have fc_4 : i_3.toInt < 40 := zf_nle c_4 (by decide) rfl
      refine lv_iload hx hb dX8_carries_9 (lv_at hl 6 rfl) ?_
      refine lv_if_eq (tgt := 28) hx hb dX8_carries_11 (by decide) (fun c_6 => ?_) (fun c_6 => ?_)
      · exact absurd c_6 (by decide)
      · refine lv_aload_n hx hb dX8_carries_14 rfl (lv_at hl 2 rfl) ?_
        refine lv_iload hx hb dX8_carries_15 (lv_at hl 0 rfl) ?_
        refine lv_aload_n hx hb dX8_carries_17 rfl (lv_at hl 4 rfl) ?_
        refine lv_iload hx hb dX8_carries_18 (lv_at hl 5 rfl) ?_
        refine lv_iload hx hb dX8_carries_20 (lv_at hl 0 rfl) ?_
        refine lv_iadd hx hb dX8_carries_22 ?_
        refine lv_topi (fun x_7 ex_7 => ?_)
        have qx_7 : x_7.toInt = 24 + i_3.toInt := by rw [ex_7]; exact zf_add (by decide) rfl (by omega) (by omega)
        refine va_iald hx hb hK hP 1 0 rfl rfl (zf_in (by omega) (by omega)) dX8_carries_23 ?_
        refine lv_topi (fun x_8 ex_8 => ?_)
        have bx_8 : 0 ≤ x_8.toInt ∧ x_8.toInt ≤ 1 := by rw [ex_8, show x_7.toNatClampNeg = 24 + i_3.toInt.toNat from by (show x_7.toInt.toNat = _; omega)]; exact hto _ (by omega)
        refine va_iast hx hb hK hP hD hS 0 0 rfl rfl (zf_in (by omega) (by omega)) dX8_carries_24 (fun H locs hP hD hS => ?_)
        have hpg_9 : zRg (upd g_1 i_3.toNatClampNeg x_8) (0) 1 := zRg_upd hpg_1 (by omega) (by omega)
        obtain ⟨g_9, hg_9⟩ : ∃ g : Nat → Int32, g = upd g_1 i_3.toNatClampNeg x_8 := ⟨_, rfl⟩
        rw [← hg_9] at hP hD hpg_9
        have h9R := zRe (ws' := [(of_, .inl (cI, 40, .inl g_9)), (to_, .inl (cI, 130, .inl ft))]) hP hD rfl
        clear hP hD
        obtain ⟨hP, hD⟩ := h9R
        refine lv_goto (tgt := 39) hx hb dX8_carries_25 (by decide) ?_
        obtain ⟨x_10, ex_10⟩ : ∃ y : Int32, y = i_3 + 1 := ⟨_, rfl⟩
        have qx_10 : x_10.toInt = i_3.toInt + 1 := dw_incK ex_10 fc_4 (by decide)
        refine lv_iinc (v := x_10) (lv' := [(6, .int x_10), (0, .ref m0), (1, .ref of_), (2, .int 40), (3, .ref to_), (4, .int 24), (5, .int 1)]) hx hb dX8_carries_39 hl (k := 0) rfl ex_10.symm (by decide) rfl (fun ls hl => ?_)
        refine lv_goto (tgt := 3) hx hb dX8_carries_42 (by decide) ?_
        exact ih x_10 (g_9) _ _ _ (hP.sub [0, 1] rfl) (hD.sub [0, 1] (by decide) rfl) hS (lv_sub hl [0, 1, 2, 3, 4, 5, 6] rfl) hpg_9 (show (∀ j : Nat, g_9 j = zCab ft fo 24 x_10.toInt.toNat j) from by (intro j; rw [hg_9]; have h8 : i_3.toNatClampNeg = i_3.toInt.toNat := rfl; have h7 := hvi_3_0 j; simp only [upd]; unfold zCab at h7 ⊢; exact (Classical.em (j = i_3.toNatClampNeg)).elim (fun e9 => by (rw [if_pos e9, if_pos (by omega), ex_8]; congr 1; (show x_7.toInt.toNat = _; omega))) (fun e9 => by (rw [if_neg e9, h7]; exact (Classical.em (j < i_3.toInt.toNat)).elim (fun h6 => by rw [if_pos h6, if_pos (by omega)]) (fun h6 => by rw [if_neg h6, if_neg (by omega)]))))) (show x_10.toInt ≤ 40 from by omega) (dw_lo hloi_3 qx_10) (dw_hn hni_3 qx_10)
set_option maxHeartbeats 4000000 in
set_option maxRecDepth 100000 in
theorem c_M_carf_40_64 (l : Launch) (D : va_G) (cI cJ cZ cP cS : ClassId) (po : zPool) (m0 of_ to_ : Nat) (fo ft : Nat → Int32)  (hpz : Nat) : Met l yX8_carries wsX8_carries ({ frames := 0, cells := 0, slots := 0, locals := 0 }) (va_Pc [.ref m0, .ref of_, .int 40, .ref to_, .int 64, .int 0] (zW D (zKT cI cJ cZ cP cS) po [(of_, .inl (cI, 40, .inl fo)), (to_, .inl (cI, 130, .inl ft))] hpz)) (va_Qi (fun (r : Int32) (ft2 : (Nat → Int32)) => ((∀ j : Nat, ft2 j = zCar fo ft 64 40 j)) ∧ (r = 104)) (zB D [(of_, .inl (cI, 40, .inl fo)), (to_, .inl (cI, 130, .inl ft))] hpz (fun (ft2 : Nat → Int32) => [(of_, .inl (cI, 40, .inl fo)), (to_, .inl (cI, 130, .inl ft2))])) (va_A [(of_, .inl (cI, 40, .inl fo)), (to_, .inl (cI, 130, .inl ft))] hpz)) 0 0 (va_A [(of_, .inl (cI, 40, .inl fo)), (to_, .inl (cI, 130, .inl ft))] hpz) := by
  refine Met.ofW (cc := cX8_carries) (maxL := 7) (ret := (some .int)) (by decide) rfl ?_
  intro p e s m args below meth c s₁ B hml hv
  obtain ⟨rfl, hsz, hP, hK, hD0, hN, hZ⟩ := hv
  have hx := B.exec
  have hb := B.bytes
  have hr := B.returns
  have hts := atoms_spec (ws := wsX8_carries) B.pre
  have hown : s.vm.findClass RX8 = some m.cls := findClass_of_methodNamed B.named
  have hlocks := B.notSynchronized
  subst hsz
  have hD := hD0.self (sz := s.heap.size)
  have hA := zA_of hD
  have hl := lv_entry ([.ref m0, .ref of_, .int 40, .ref to_, .int 64, .int 0]) (n := 7) (Nat.le_of_ble_eq_true rfl)
  rw [lg_entry_eq]
  generalize (lg_sl ([.ref m0, .ref of_, .int 40, .ref to_, .int 64, .int 0]) ++ List.replicate (7 - (lg_sl ([.ref m0, .ref of_, .int 40, .ref to_, .int 64, .int 0])).length) Slot.unset).toArray = ls at hl ⊢
  replace hl : lv_has ls 7 [(0, .ref m0), (1, .ref of_), (2, .int 40), (3, .ref to_), (4, .int 64), (5, .int 0)] := hl
  refine zw_begin hP hD (fun H locs hP1 hS => ?_)
  clear hP
  have hP := hP1
  clear hP1
  refine lv_iconst (v := 0) hx hb dX8_carries_0 (by decide) ?_
  refine lv_istore (lv' := [(6, .int 0), (0, .ref m0), (1, .ref of_), (2, .int 40), (3, .ref to_), (4, .int 64), (5, .int 0)]) hx hb dX8_carries_1 hl (by decide) rfl (fun ls hl => ?_)
  obtain ⟨i_3, hi_3⟩ : ∃ i : Int32, i = 0 := ⟨_, rfl⟩
  replace hl : lv_has ls 7 [(6, .int i_3), (0, .ref m0), (1, .ref of_), (2, .int 40), (3, .ref to_), (4, .int 64), (5, .int 0)] := by rw [hi_3]; exact lv_sub hl [0, 1, 2, 3, 4, 5, 6] rfl
  have h1i_3 : i_3.toInt = 0 := by rw [hi_3]; decide
  obtain ⟨nfu, hni_3⟩ : ∃ nq9 : Nat, 40 ≤ i_3.toInt + (nq9 : Int) := ⟨((40 : Int) - 0).toNat, by omega⟩
  have hloi_3 : 0 ≤ i_3.toInt := by omega
  obtain ⟨g_1, hg_1⟩ : ∃ g : Nat → Int32, g = ft := ⟨_, rfl⟩
  replace hP : va_P D vwCl [(of_, .inl (cI, 40, .inl fo)), (to_, .inl (cI, 130, .inl g_1))] H := by rw [hg_1]; exact hP
  replace hD : va_D (va_A [(of_, .inl (cI, 40, .inl fo)), (to_, .inl (cI, 130, .inl ft))] s.heap.size) [(of_, .inl (cI, 40, .inl fo)), (to_, .inl (cI, 130, .inl g_1))] := by rw [hg_1]; exact hD
  have hvi_3_0 : (∀ j : Nat, g_1 j = zCar fo ft 64 i_3.toInt.toNat j) := by
    (try rw [hi_3]); (try rw [hg_1]); (intro j; unfold zCar; rw [if_neg (by have h8 : (0 : Int32).toInt.toNat = 0 := (by decide); omega)])
  have hvi_3_1 : i_3.toInt ≤ 40 := by
    (try rw [hi_3]); (try rw [hg_1]); first | omega | decide
  clear h1i_3 hi_3 hg_1
  skip
  revert hni_3
  revert hloi_3
  revert hvi_3_1
  revert hvi_3_0
  revert hl
  revert hS
  revert hD
  revert hP
  revert ls
  revert locs
  revert H
  revert g_1
  revert i_3
  induction nfu with
  | zero =>
    intro i_3 g_1 H locs ls hP hD hS hl hvi_3_0 hvi_3_1 hloi_3 hni_3
    have hzi_3 : 40 ≤ i_3.toInt := by omega
    refine lv_iload hx hb dX8_carries_3 (lv_at hl 0 rfl) ?_
    refine lv_iload_n hx hb dX8_carries_5 rfl (lv_at hl 3 rfl) ?_
    refine lv_icmp_ge (tgt := 45) hx hb dX8_carries_6 (by decide) (fun c_2 => ?_) (fun c_2 => ?_)
    · have fc_2 : 40 ≤ i_3.toInt := zf_le c_2 (by decide) rfl
      refine lv_iload hx hb dX8_carries_45 (lv_at hl 5 rfl) ?_
      refine lv_iload_n hx hb dX8_carries_47 rfl (lv_at hl 3 rfl) ?_
      refine lv_iadd hx hb dX8_carries_48 ?_
      refine lv_topi (fun y_3 ey_3 => ?_)
      obtain rfl : y_3 = 104 := ey_3.trans (by decide)
      exact W.iret (v := 104) hx hb hr (fun t ht hW => ⟨⟨104, g_1, rfl, ⟨(show (∀ j : Nat, g_1 j = zCar fo ft 64 40 j) from by (intro j; have h8 := hvi_3_0 j; rw [show i_3.toInt.toNat = 40 from by omega] at h8; exact h8)), rfl⟩, zRet ht hP hD [0, 1] (by decide) rfl⟩, hS.F ht⟩) hS.2.2 dX8_carries_49
    · exfalso; have fc_2 : i_3.toInt < 40 := zf_nle c_2 (by decide) rfl; omega
  | succ nfu ih =>
    intro i_3 g_1 H locs ls hP hD hS hl hvi_3_0 hvi_3_1 hloi_3 hni_3
    refine lv_iload hx hb dX8_carries_3 (lv_at hl 0 rfl) ?_
    refine lv_iload_n hx hb dX8_carries_5 rfl (lv_at hl 3 rfl) ?_
    refine lv_icmp_ge (tgt := 45) hx hb dX8_carries_6 (by decide) (fun c_4 => ?_) (fun c_4 => ?_)
    · have fc_4 : 40 ≤ i_3.toInt := zf_le c_4 (by decide) rfl
      refine lv_iload hx hb dX8_carries_45 (lv_at hl 5 rfl) ?_
      refine lv_iload_n hx hb dX8_carries_47 rfl (lv_at hl 3 rfl) ?_
      refine lv_iadd hx hb dX8_carries_48 ?_
      refine lv_topi (fun y_5 ey_5 => ?_)
      obtain rfl : y_5 = 104 := ey_5.trans (by decide)
      exact W.iret (v := 104) hx hb hr (fun t ht hW => ⟨⟨104, g_1, rfl, ⟨(show (∀ j : Nat, g_1 j = zCar fo ft 64 40 j) from by (intro j; have h8 := hvi_3_0 j; rw [show i_3.toInt.toNat = 40 from by omega] at h8; exact h8)), rfl⟩, zRet ht hP hD [0, 1] (by decide) rfl⟩, hS.F ht⟩) hS.2.2 dX8_carries_49
    · have fc_4 : i_3.toInt < 40 := zf_nle c_4 (by decide) rfl
      refine lv_iload hx hb dX8_carries_9 (lv_at hl 6 rfl) ?_
      refine lv_if_eq (tgt := 28) hx hb dX8_carries_11 (by decide) (fun c_6 => ?_) (fun c_6 => ?_)
      · refine lv_aload_n hx hb dX8_carries_28 rfl (lv_at hl 4 rfl) ?_
        refine lv_iload hx hb dX8_carries_29 (lv_at hl 5 rfl) ?_
        refine lv_iload hx hb dX8_carries_31 (lv_at hl 0 rfl) ?_
        refine lv_iadd hx hb dX8_carries_33 ?_
        refine lv_topi (fun x_7 ex_7 => ?_)
        have qx_7 : x_7.toInt = 64 + i_3.toInt := by rw [ex_7]; exact zf_add (by decide) rfl (by omega) (by omega)
        refine lv_aload_n hx hb dX8_carries_34 rfl (lv_at hl 2 rfl) ?_
        refine lv_iload hx hb dX8_carries_35 (lv_at hl 0 rfl) ?_
        refine va_iald hx hb hK hP 0 0 rfl rfl (zf_in (by omega) (by omega)) dX8_carries_37 ?_
        refine lv_topi (fun x_8 ex_8 => ?_)
        refine va_iast hx hb hK hP hD hS 1 0 rfl rfl (zf_in (by omega) (by omega)) dX8_carries_38 (fun H locs hP hD hS => ?_)
        have h9R := zRe (ws' := [(of_, .inl (cI, 40, .inl fo)), (to_, .inl (cI, 130, .inl (upd g_1 x_7.toNatClampNeg x_8)))]) hP hD rfl
        clear hP hD
        obtain ⟨hP, hD⟩ := h9R
        obtain ⟨x_9, ex_9⟩ : ∃ y : Int32, y = i_3 + 1 := ⟨_, rfl⟩
        have qx_9 : x_9.toInt = i_3.toInt + 1 := dw_incK ex_9 fc_4 (by decide)
        refine lv_iinc (v := x_9) (lv' := [(6, .int x_9), (0, .ref m0), (1, .ref of_), (2, .int 40), (3, .ref to_), (4, .int 64), (5, .int 0)]) hx hb dX8_carries_39 hl (k := 0) rfl ex_9.symm (by decide) rfl (fun ls hl => ?_)
        refine lv_goto (tgt := 3) hx hb dX8_carries_42 (by decide) ?_
        exact ih x_9 ((upd g_1 x_7.toNatClampNeg x_8)) _ _ _ (hP.sub [0, 1] rfl) (hD.sub [0, 1] (by decide) rfl) hS (lv_sub hl [0, 1, 2, 3, 4, 5, 6] rfl) (show (∀ j : Nat, (upd g_1 x_7.toNatClampNeg x_8) j = zCar fo ft 64 x_9.toInt.toNat j) from by (intro j; have h8 : x_7.toNatClampNeg = 64 + i_3.toInt.toNat := (by (show x_7.toInt.toNat = _; omega)); have h7 := hvi_3_0 j; simp only [upd]; unfold zCar at h7 ⊢; exact (Classical.em (j = x_7.toNatClampNeg)).elim (fun e9 => by (rw [if_pos e9, if_pos (by omega), ex_8]; congr 1; (show i_3.toInt.toNat = _; omega))) (fun e9 => by (rw [if_neg e9, h7]; exact (Classical.em (64 ≤ j ∧ j < 64 + i_3.toInt.toNat)).elim (fun h6 => by rw [if_pos h6, if_pos (by omega)]) (fun h6 => by rw [if_neg h6, if_neg (by omega)]))))) (show x_9.toInt ≤ 40 from by omega) (dw_lo hloi_3 qx_9) (dw_hn hni_3 qx_9)
      · exact absurd c_6 (by decide)
set_option maxHeartbeats 4000000 in
set_option maxRecDepth 100000 in
theorem c_M_carb_40_64 (l : Launch) (D : va_G) (cI cJ cZ cP cS : ClassId) (po : zPool) (m0 of_ to_ : Nat) (fo ft : Nat → Int32) (hto : ∀ j : Nat, j < 40 → 0 ≤ (ft (64 + j)).toInt ∧ (ft (64 + j)).toInt ≤ 9) (hp_fo : zRg fo (0) 9) (hpz : Nat) : Met l yX8_carries wsX8_carries ({ frames := 0, cells := 0, slots := 0, locals := 0 }) (va_Pc [.ref m0, .ref of_, .int 40, .ref to_, .int 64, .int 1] (zW D (zKT cI cJ cZ cP cS) po [(of_, .inl (cI, 40, .inl fo)), (to_, .inl (cI, 130, .inl ft))] hpz)) (va_Qi (fun (r : Int32) (fo2 : (Nat → Int32)) => zRg fo2 (0) 9 ∧ ((∀ j : Nat, fo2 j = zCab ft fo 64 40 j)) ∧ (r = 104)) (zB D [(of_, .inl (cI, 40, .inl fo)), (to_, .inl (cI, 130, .inl ft))] hpz (fun (fo2 : Nat → Int32) => [(of_, .inl (cI, 40, .inl fo2)), (to_, .inl (cI, 130, .inl ft))])) (va_A [(of_, .inl (cI, 40, .inl fo)), (to_, .inl (cI, 130, .inl ft))] hpz)) 0 0 (va_A [(of_, .inl (cI, 40, .inl fo)), (to_, .inl (cI, 130, .inl ft))] hpz) := by
  refine Met.ofW (cc := cX8_carries) (maxL := 7) (ret := (some .int)) (by decide) rfl ?_
  intro p e s m args below meth c s₁ B hml hv
  obtain ⟨rfl, hsz, hP, hK, hD0, hN, hZ⟩ := hv
  have hx := B.exec
  have hb := B.bytes
  have hr := B.returns
  have hts := atoms_spec (ws := wsX8_carries) B.pre
  have hown : s.vm.findClass RX8 = some m.cls := findClass_of_methodNamed B.named
  have hlocks := B.notSynchronized
  subst hsz
  have hD := hD0.self (sz := s.heap.size)
  have hA := zA_of hD
  have hl := lv_entry ([.ref m0, .ref of_, .int 40, .ref to_, .int 64, .int 1]) (n := 7) (Nat.le_of_ble_eq_true rfl)
  rw [lg_entry_eq]
  generalize (lg_sl ([.ref m0, .ref of_, .int 40, .ref to_, .int 64, .int 1]) ++ List.replicate (7 - (lg_sl ([.ref m0, .ref of_, .int 40, .ref to_, .int 64, .int 1])).length) Slot.unset).toArray = ls at hl ⊢
  replace hl : lv_has ls 7 [(0, .ref m0), (1, .ref of_), (2, .int 40), (3, .ref to_), (4, .int 64), (5, .int 1)] := hl
  refine zw_begin hP hD (fun H locs hP1 hS => ?_)
  clear hP
  have hP := hP1
  clear hP1
  refine lv_iconst (v := 0) hx hb dX8_carries_0 (by decide) ?_
  refine lv_istore (lv' := [(6, .int 0), (0, .ref m0), (1, .ref of_), (2, .int 40), (3, .ref to_), (4, .int 64), (5, .int 1)]) hx hb dX8_carries_1 hl (by decide) rfl (fun ls hl => ?_)
  obtain ⟨i_3, hi_3⟩ : ∃ i : Int32, i = 0 := ⟨_, rfl⟩
  replace hl : lv_has ls 7 [(6, .int i_3), (0, .ref m0), (1, .ref of_), (2, .int 40), (3, .ref to_), (4, .int 64), (5, .int 1)] := by rw [hi_3]; exact lv_sub hl [0, 1, 2, 3, 4, 5, 6] rfl
  have h1i_3 : i_3.toInt = 0 := by rw [hi_3]; decide
  obtain ⟨nfu, hni_3⟩ : ∃ nq9 : Nat, 40 ≤ i_3.toInt + (nq9 : Int) := ⟨((40 : Int) - 0).toNat, by omega⟩
  have hloi_3 : 0 ≤ i_3.toInt := by omega
  obtain ⟨g_1, hg_1⟩ : ∃ g : Nat → Int32, g = fo := ⟨_, rfl⟩
  have hpg_1 : zRg g_1 (0) 9 := by rw [hg_1]; exact hp_fo
  replace hP : va_P D vwCl [(of_, .inl (cI, 40, .inl g_1)), (to_, .inl (cI, 130, .inl ft))] H := by rw [hg_1]; exact hP
  replace hD : va_D (va_A [(of_, .inl (cI, 40, .inl fo)), (to_, .inl (cI, 130, .inl ft))] s.heap.size) [(of_, .inl (cI, 40, .inl g_1)), (to_, .inl (cI, 130, .inl ft))] := by rw [hg_1]; exact hD
  have hvi_3_0 : (∀ j : Nat, g_1 j = zCab ft fo 64 i_3.toInt.toNat j) := by
    (try rw [hi_3]); (try rw [hg_1]); (intro j; unfold zCab; rw [if_neg (by have h8 : (0 : Int32).toInt.toNat = 0 := (by decide); omega)])
  have hvi_3_1 : i_3.toInt ≤ 40 := by
    (try rw [hi_3]); (try rw [hg_1]); first | omega | decide
  clear h1i_3 hi_3 hg_1
  skip
  revert hni_3
  revert hloi_3
  revert hvi_3_1
  revert hvi_3_0
  revert hpg_1
  revert hl
  revert hS
  revert hD
  revert hP
  revert ls
  revert locs
  revert H
  revert g_1
  revert i_3
  induction nfu with
  | zero =>
    intro i_3 g_1 H locs ls hP hD hS hl hpg_1 hvi_3_0 hvi_3_1 hloi_3 hni_3
    have hzi_3 : 40 ≤ i_3.toInt := by omega
    refine lv_iload hx hb dX8_carries_3 (lv_at hl 0 rfl) ?_
    refine lv_iload_n hx hb dX8_carries_5 rfl (lv_at hl 3 rfl) ?_
    refine lv_icmp_ge (tgt := 45) hx hb dX8_carries_6 (by decide) (fun c_2 => ?_) (fun c_2 => ?_)
    · have fc_2 : 40 ≤ i_3.toInt := zf_le c_2 (by decide) rfl
      refine lv_iload hx hb dX8_carries_45 (lv_at hl 5 rfl) ?_
      refine lv_iload_n hx hb dX8_carries_47 rfl (lv_at hl 3 rfl) ?_
      refine lv_iadd hx hb dX8_carries_48 ?_
      refine lv_topi (fun y_3 ey_3 => ?_)
      obtain rfl : y_3 = 104 := ey_3.trans (by decide)
      exact W.iret (v := 104) hx hb hr (fun t ht hW => ⟨⟨104, g_1, rfl, ⟨hpg_1, (show (∀ j : Nat, g_1 j = zCab ft fo 64 40 j) from by (intro j; have h8 := hvi_3_0 j; rw [show i_3.toInt.toNat = 40 from by omega] at h8; exact h8)), rfl⟩, zRet ht hP hD [0, 1] (by decide) rfl⟩, hS.F ht⟩) hS.2.2 dX8_carries_49
    · exfalso; have fc_2 : i_3.toInt < 40 := zf_nle c_2 (by decide) rfl; omega
  | succ nfu ih =>
    intro i_3 g_1 H locs ls hP hD hS hl hpg_1 hvi_3_0 hvi_3_1 hloi_3 hni_3
    refine lv_iload hx hb dX8_carries_3 (lv_at hl 0 rfl) ?_
    refine lv_iload_n hx hb dX8_carries_5 rfl (lv_at hl 3 rfl) ?_
    refine lv_icmp_ge (tgt := 45) hx hb dX8_carries_6 (by decide) (fun c_4 => ?_) (fun c_4 => ?_)
    · have fc_4 : 40 ≤ i_3.toInt := zf_le c_4 (by decide) rfl
      refine lv_iload hx hb dX8_carries_45 (lv_at hl 5 rfl) ?_
      refine lv_iload_n hx hb dX8_carries_47 rfl (lv_at hl 3 rfl) ?_
      refine lv_iadd hx hb dX8_carries_48 ?_
      refine lv_topi (fun y_5 ey_5 => ?_)
      obtain rfl : y_5 = 104 := ey_5.trans (by decide)
      exact W.iret (v := 104) hx hb hr (fun t ht hW => ⟨⟨104, g_1, rfl, ⟨hpg_1, (show (∀ j : Nat, g_1 j = zCab ft fo 64 40 j) from by (intro j; have h8 := hvi_3_0 j; rw [show i_3.toInt.toNat = 40 from by omega] at h8; exact h8)), rfl⟩, zRet ht hP hD [0, 1] (by decide) rfl⟩, hS.F ht⟩) hS.2.2 dX8_carries_49
    · have fc_4 : i_3.toInt < 40 := zf_nle c_4 (by decide) rfl
      refine lv_iload hx hb dX8_carries_9 (lv_at hl 6 rfl) ?_
      refine lv_if_eq (tgt := 28) hx hb dX8_carries_11 (by decide) (fun c_6 => ?_) (fun c_6 => ?_)
      · exact absurd c_6 (by decide)
      · refine lv_aload_n hx hb dX8_carries_14 rfl (lv_at hl 2 rfl) ?_
        refine lv_iload hx hb dX8_carries_15 (lv_at hl 0 rfl) ?_
        refine lv_aload_n hx hb dX8_carries_17 rfl (lv_at hl 4 rfl) ?_
        refine lv_iload hx hb dX8_carries_18 (lv_at hl 5 rfl) ?_
        refine lv_iload hx hb dX8_carries_20 (lv_at hl 0 rfl) ?_
        refine lv_iadd hx hb dX8_carries_22 ?_
        refine lv_topi (fun x_7 ex_7 => ?_)
        have qx_7 : x_7.toInt = 64 + i_3.toInt := by rw [ex_7]; exact zf_add (by decide) rfl (by omega) (by omega)
        refine va_iald hx hb hK hP 1 0 rfl rfl (zf_in (by omega) (by omega)) dX8_carries_23 ?_
        refine lv_topi (fun x_8 ex_8 => ?_)
        have bx_8 : 0 ≤ x_8.toInt ∧ x_8.toInt ≤ 9 := by rw [ex_8, show x_7.toNatClampNeg = 64 + i_3.toInt.toNat from by (show x_7.toInt.toNat = _; omega)]; exact hto _ (by omega)
        refine va_iast hx hb hK hP hD hS 0 0 rfl rfl (zf_in (by omega) (by omega)) dX8_carries_24 (fun H locs hP hD hS => ?_)
        have hpg_9 : zRg (upd g_1 i_3.toNatClampNeg x_8) (0) 9 := zRg_upd hpg_1 (by omega) (by omega)
        obtain ⟨g_9, hg_9⟩ : ∃ g : Nat → Int32, g = upd g_1 i_3.toNatClampNeg x_8 := ⟨_, rfl⟩
        rw [← hg_9] at hP hD hpg_9
        have h9R := zRe (ws' := [(of_, .inl (cI, 40, .inl g_9)), (to_, .inl (cI, 130, .inl ft))]) hP hD rfl
        clear hP hD
        obtain ⟨hP, hD⟩ := h9R
        refine lv_goto (tgt := 39) hx hb dX8_carries_25 (by decide) ?_
        obtain ⟨x_10, ex_10⟩ : ∃ y : Int32, y = i_3 + 1 := ⟨_, rfl⟩
        have qx_10 : x_10.toInt = i_3.toInt + 1 := dw_incK ex_10 fc_4 (by decide)
        refine lv_iinc (v := x_10) (lv' := [(6, .int x_10), (0, .ref m0), (1, .ref of_), (2, .int 40), (3, .ref to_), (4, .int 64), (5, .int 1)]) hx hb dX8_carries_39 hl (k := 0) rfl ex_10.symm (by decide) rfl (fun ls hl => ?_)
        refine lv_goto (tgt := 3) hx hb dX8_carries_42 (by decide) ?_
        exact ih x_10 (g_9) _ _ _ (hP.sub [0, 1] rfl) (hD.sub [0, 1] (by decide) rfl) hS (lv_sub hl [0, 1, 2, 3, 4, 5, 6] rfl) hpg_9 (show (∀ j : Nat, g_9 j = zCab ft fo 64 x_10.toInt.toNat j) from by (intro j; rw [hg_9]; have h8 : i_3.toNatClampNeg = i_3.toInt.toNat := rfl; have h7 := hvi_3_0 j; simp only [upd]; unfold zCab at h7 ⊢; exact (Classical.em (j = i_3.toNatClampNeg)).elim (fun e9 => by (rw [if_pos e9, if_pos (by omega), ex_8]; congr 1; (show x_7.toInt.toNat = _; omega))) (fun e9 => by (rw [if_neg e9, h7]; exact (Classical.em (j < i_3.toInt.toNat)).elim (fun h6 => by rw [if_pos h6, if_pos (by omega)]) (fun h6 => by rw [if_neg h6, if_neg (by omega)]))))) (show x_10.toInt ≤ 40 from by omega) (dw_lo hloi_3 qx_10) (dw_hn hni_3 qx_10)
set_option maxHeartbeats 4000000 in
set_option maxRecDepth 100000 in
theorem c_M_carf_3_104 (l : Launch) (D : va_G) (cI cJ cZ cP cS : ClassId) (po : zPool) (m0 of_ to_ : Nat) (fo ft : Nat → Int32)  (hpz : Nat) : Met l yX8_carries wsX8_carries ({ frames := 0, cells := 0, slots := 0, locals := 0 }) (va_Pc [.ref m0, .ref of_, .int 3, .ref to_, .int 104, .int 0] (zW D (zKT cI cJ cZ cP cS) po [(of_, .inl (cI, 3, .inl fo)), (to_, .inl (cI, 130, .inl ft))] hpz)) (va_Qi (fun (r : Int32) (ft2 : (Nat → Int32)) => ((∀ j : Nat, ft2 j = zCar fo ft 104 3 j)) ∧ (r = 107)) (zB D [(of_, .inl (cI, 3, .inl fo)), (to_, .inl (cI, 130, .inl ft))] hpz (fun (ft2 : Nat → Int32) => [(of_, .inl (cI, 3, .inl fo)), (to_, .inl (cI, 130, .inl ft2))])) (va_A [(of_, .inl (cI, 3, .inl fo)), (to_, .inl (cI, 130, .inl ft))] hpz)) 0 0 (va_A [(of_, .inl (cI, 3, .inl fo)), (to_, .inl (cI, 130, .inl ft))] hpz) := by
  refine Met.ofW (cc := cX8_carries) (maxL := 7) (ret := (some .int)) (by decide) rfl ?_
  intro p e s m args below meth c s₁ B hml hv
  obtain ⟨rfl, hsz, hP, hK, hD0, hN, hZ⟩ := hv
  have hx := B.exec
  have hb := B.bytes
  have hr := B.returns
  have hts := atoms_spec (ws := wsX8_carries) B.pre
  have hown : s.vm.findClass RX8 = some m.cls := findClass_of_methodNamed B.named
  have hlocks := B.notSynchronized
  subst hsz
  have hD := hD0.self (sz := s.heap.size)
  have hA := zA_of hD
  have hl := lv_entry ([.ref m0, .ref of_, .int 3, .ref to_, .int 104, .int 0]) (n := 7) (Nat.le_of_ble_eq_true rfl)
  rw [lg_entry_eq]
  generalize (lg_sl ([.ref m0, .ref of_, .int 3, .ref to_, .int 104, .int 0]) ++ List.replicate (7 - (lg_sl ([.ref m0, .ref of_, .int 3, .ref to_, .int 104, .int 0])).length) Slot.unset).toArray = ls at hl ⊢
  replace hl : lv_has ls 7 [(0, .ref m0), (1, .ref of_), (2, .int 3), (3, .ref to_), (4, .int 104), (5, .int 0)] := hl
  refine zw_begin hP hD (fun H locs hP1 hS => ?_)
  clear hP
  have hP := hP1
  clear hP1
  refine lv_iconst (v := 0) hx hb dX8_carries_0 (by decide) ?_
  refine lv_istore (lv' := [(6, .int 0), (0, .ref m0), (1, .ref of_), (2, .int 3), (3, .ref to_), (4, .int 104), (5, .int 0)]) hx hb dX8_carries_1 hl (by decide) rfl (fun ls hl => ?_)
  obtain ⟨i_3, hi_3⟩ : ∃ i : Int32, i = 0 := ⟨_, rfl⟩
  replace hl : lv_has ls 7 [(6, .int i_3), (0, .ref m0), (1, .ref of_), (2, .int 3), (3, .ref to_), (4, .int 104), (5, .int 0)] := by rw [hi_3]; exact lv_sub hl [0, 1, 2, 3, 4, 5, 6] rfl
  have h1i_3 : i_3.toInt = 0 := by rw [hi_3]; decide
  obtain ⟨nfu, hni_3⟩ : ∃ nq9 : Nat, 3 ≤ i_3.toInt + (nq9 : Int) := ⟨((3 : Int) - 0).toNat, by omega⟩
  have hloi_3 : 0 ≤ i_3.toInt := by omega
  obtain ⟨g_1, hg_1⟩ : ∃ g : Nat → Int32, g = ft := ⟨_, rfl⟩
  replace hP : va_P D vwCl [(of_, .inl (cI, 3, .inl fo)), (to_, .inl (cI, 130, .inl g_1))] H := by rw [hg_1]; exact hP
  replace hD : va_D (va_A [(of_, .inl (cI, 3, .inl fo)), (to_, .inl (cI, 130, .inl ft))] s.heap.size) [(of_, .inl (cI, 3, .inl fo)), (to_, .inl (cI, 130, .inl g_1))] := by rw [hg_1]; exact hD
  have hvi_3_0 : (∀ j : Nat, g_1 j = zCar fo ft 104 i_3.toInt.toNat j) := by
    (try rw [hi_3]); (try rw [hg_1]); (intro j; unfold zCar; rw [if_neg (by have h8 : (0 : Int32).toInt.toNat = 0 := (by decide); omega)])
  have hvi_3_1 : i_3.toInt ≤ 3 := by
    (try rw [hi_3]); (try rw [hg_1]); first | omega | decide
  clear h1i_3 hi_3 hg_1
  skip
  revert hni_3
  revert hloi_3
  revert hvi_3_1
  revert hvi_3_0
  revert hl
  revert hS
  revert hD
  revert hP
  revert ls
  revert locs
  revert H
  revert g_1
  revert i_3
  induction nfu with
  | zero =>
    intro i_3 g_1 H locs ls hP hD hS hl hvi_3_0 hvi_3_1 hloi_3 hni_3
    have hzi_3 : 3 ≤ i_3.toInt := by omega
    refine lv_iload hx hb dX8_carries_3 (lv_at hl 0 rfl) ?_
    refine lv_iload_n hx hb dX8_carries_5 rfl (lv_at hl 3 rfl) ?_
    refine lv_icmp_ge (tgt := 45) hx hb dX8_carries_6 (by decide) (fun c_2 => ?_) (fun c_2 => ?_)
    · have fc_2 : 3 ≤ i_3.toInt := zf_le c_2 (by decide) rfl
      refine lv_iload hx hb dX8_carries_45 (lv_at hl 5 rfl) ?_
      refine lv_iload_n hx hb dX8_carries_47 rfl (lv_at hl 3 rfl) ?_
      refine lv_iadd hx hb dX8_carries_48 ?_
      refine lv_topi (fun y_3 ey_3 => ?_)
      obtain rfl : y_3 = 107 := ey_3.trans (by decide)
      exact W.iret (v := 107) hx hb hr (fun t ht hW => ⟨⟨107, g_1, rfl, ⟨(show (∀ j : Nat, g_1 j = zCar fo ft 104 3 j) from by (intro j; have h8 := hvi_3_0 j; rw [show i_3.toInt.toNat = 3 from by omega] at h8; exact h8)), rfl⟩, zRet ht hP hD [0, 1] (by decide) rfl⟩, hS.F ht⟩) hS.2.2 dX8_carries_49
    · exfalso; have fc_2 : i_3.toInt < 3 := zf_nle c_2 (by decide) rfl; omega
  | succ nfu ih =>
    intro i_3 g_1 H locs ls hP hD hS hl hvi_3_0 hvi_3_1 hloi_3 hni_3
    refine lv_iload hx hb dX8_carries_3 (lv_at hl 0 rfl) ?_
    refine lv_iload_n hx hb dX8_carries_5 rfl (lv_at hl 3 rfl) ?_
    refine lv_icmp_ge (tgt := 45) hx hb dX8_carries_6 (by decide) (fun c_4 => ?_) (fun c_4 => ?_)
    · have fc_4 : 3 ≤ i_3.toInt := zf_le c_4 (by decide) rfl
      refine lv_iload hx hb dX8_carries_45 (lv_at hl 5 rfl) ?_
      refine lv_iload_n hx hb dX8_carries_47 rfl (lv_at hl 3 rfl) ?_
      refine lv_iadd hx hb dX8_carries_48 ?_
      refine lv_topi (fun y_5 ey_5 => ?_)
      obtain rfl : y_5 = 107 := ey_5.trans (by decide)
      exact W.iret (v := 107) hx hb hr (fun t ht hW => ⟨⟨107, g_1, rfl, ⟨(show (∀ j : Nat, g_1 j = zCar fo ft 104 3 j) from by (intro j; have h8 := hvi_3_0 j; rw [show i_3.toInt.toNat = 3 from by omega] at h8; exact h8)), rfl⟩, zRet ht hP hD [0, 1] (by decide) rfl⟩, hS.F ht⟩) hS.2.2 dX8_carries_49
    · have fc_4 : i_3.toInt < 3 := zf_nle c_4 (by decide) rfl
      refine lv_iload hx hb dX8_carries_9 (lv_at hl 6 rfl) ?_
      refine lv_if_eq (tgt := 28) hx hb dX8_carries_11 (by decide) (fun c_6 => ?_) (fun c_6 => ?_)
      · refine lv_aload_n hx hb dX8_carries_28 rfl (lv_at hl 4 rfl) ?_
        refine lv_iload hx hb dX8_carries_29 (lv_at hl 5 rfl) ?_
        refine lv_iload hx hb dX8_carries_31 (lv_at hl 0 rfl) ?_
        refine lv_iadd hx hb dX8_carries_33 ?_
        refine lv_topi (fun x_7 ex_7 => ?_)
        have qx_7 : x_7.toInt = 104 + i_3.toInt := by rw [ex_7]; exact zf_add (by decide) rfl (by omega) (by omega)
        refine lv_aload_n hx hb dX8_carries_34 rfl (lv_at hl 2 rfl) ?_
        refine lv_iload hx hb dX8_carries_35 (lv_at hl 0 rfl) ?_
        refine va_iald hx hb hK hP 0 0 rfl rfl (zf_in (by omega) (by omega)) dX8_carries_37 ?_
        refine lv_topi (fun x_8 ex_8 => ?_)
        refine va_iast hx hb hK hP hD hS 1 0 rfl rfl (zf_in (by omega) (by omega)) dX8_carries_38 (fun H locs hP hD hS => ?_)
        have h9R := zRe (ws' := [(of_, .inl (cI, 3, .inl fo)), (to_, .inl (cI, 130, .inl (upd g_1 x_7.toNatClampNeg x_8)))]) hP hD rfl
        clear hP hD
        obtain ⟨hP, hD⟩ := h9R
        obtain ⟨x_9, ex_9⟩ : ∃ y : Int32, y = i_3 + 1 := ⟨_, rfl⟩
        have qx_9 : x_9.toInt = i_3.toInt + 1 := dw_incK ex_9 fc_4 (by decide)
        refine lv_iinc (v := x_9) (lv' := [(6, .int x_9), (0, .ref m0), (1, .ref of_), (2, .int 3), (3, .ref to_), (4, .int 104), (5, .int 0)]) hx hb dX8_carries_39 hl (k := 0) rfl ex_9.symm (by decide) rfl (fun ls hl => ?_)
        refine lv_goto (tgt := 3) hx hb dX8_carries_42 (by decide) ?_
        exact ih x_9 ((upd g_1 x_7.toNatClampNeg x_8)) _ _ _ (hP.sub [0, 1] rfl) (hD.sub [0, 1] (by decide) rfl) hS (lv_sub hl [0, 1, 2, 3, 4, 5, 6] rfl) (show (∀ j : Nat, (upd g_1 x_7.toNatClampNeg x_8) j = zCar fo ft 104 x_9.toInt.toNat j) from by (intro j; have h8 : x_7.toNatClampNeg = 104 + i_3.toInt.toNat := (by (show x_7.toInt.toNat = _; omega)); have h7 := hvi_3_0 j; simp only [upd]; unfold zCar at h7 ⊢; exact (Classical.em (j = x_7.toNatClampNeg)).elim (fun e9 => by (rw [if_pos e9, if_pos (by omega), ex_8]; congr 1; (show i_3.toInt.toNat = _; omega))) (fun e9 => by (rw [if_neg e9, h7]; exact (Classical.em (104 ≤ j ∧ j < 104 + i_3.toInt.toNat)).elim (fun h6 => by rw [if_pos h6, if_pos (by omega)]) (fun h6 => by rw [if_neg h6, if_neg (by omega)]))))) (show x_9.toInt ≤ 3 from by omega) (dw_lo hloi_3 qx_9) (dw_hn hni_3 qx_9)
      · exact absurd c_6 (by decide)
set_option maxHeartbeats 4000000 in
set_option maxRecDepth 100000 in
theorem c_M_carb_3_104 (l : Launch) (D : va_G) (cI cJ cZ cP cS : ClassId) (po : zPool) (m0 of_ to_ : Nat) (fo ft : Nat → Int32) (hto : ∀ j : Nat, j < 3 → 0 ≤ (ft (104 + j)).toInt ∧ (ft (104 + j)).toInt ≤ 99) (hp_fo : zRg fo (0) 99) (hpz : Nat) : Met l yX8_carries wsX8_carries ({ frames := 0, cells := 0, slots := 0, locals := 0 }) (va_Pc [.ref m0, .ref of_, .int 3, .ref to_, .int 104, .int 1] (zW D (zKT cI cJ cZ cP cS) po [(of_, .inl (cI, 3, .inl fo)), (to_, .inl (cI, 130, .inl ft))] hpz)) (va_Qi (fun (r : Int32) (fo2 : (Nat → Int32)) => zRg fo2 (0) 99 ∧ ((∀ j : Nat, fo2 j = zCab ft fo 104 3 j)) ∧ (r = 107)) (zB D [(of_, .inl (cI, 3, .inl fo)), (to_, .inl (cI, 130, .inl ft))] hpz (fun (fo2 : Nat → Int32) => [(of_, .inl (cI, 3, .inl fo2)), (to_, .inl (cI, 130, .inl ft))])) (va_A [(of_, .inl (cI, 3, .inl fo)), (to_, .inl (cI, 130, .inl ft))] hpz)) 0 0 (va_A [(of_, .inl (cI, 3, .inl fo)), (to_, .inl (cI, 130, .inl ft))] hpz) := by
  refine Met.ofW (cc := cX8_carries) (maxL := 7) (ret := (some .int)) (by decide) rfl ?_
  intro p e s m args below meth c s₁ B hml hv
  obtain ⟨rfl, hsz, hP, hK, hD0, hN, hZ⟩ := hv
  have hx := B.exec
  have hb := B.bytes
  have hr := B.returns
  have hts := atoms_spec (ws := wsX8_carries) B.pre
  have hown : s.vm.findClass RX8 = some m.cls := findClass_of_methodNamed B.named
  have hlocks := B.notSynchronized
  subst hsz
  have hD := hD0.self (sz := s.heap.size)
  have hA := zA_of hD
  have hl := lv_entry ([.ref m0, .ref of_, .int 3, .ref to_, .int 104, .int 1]) (n := 7) (Nat.le_of_ble_eq_true rfl)
  rw [lg_entry_eq]
  generalize (lg_sl ([.ref m0, .ref of_, .int 3, .ref to_, .int 104, .int 1]) ++ List.replicate (7 - (lg_sl ([.ref m0, .ref of_, .int 3, .ref to_, .int 104, .int 1])).length) Slot.unset).toArray = ls at hl ⊢
  replace hl : lv_has ls 7 [(0, .ref m0), (1, .ref of_), (2, .int 3), (3, .ref to_), (4, .int 104), (5, .int 1)] := hl
  refine zw_begin hP hD (fun H locs hP1 hS => ?_)
  clear hP
  have hP := hP1
  clear hP1
  refine lv_iconst (v := 0) hx hb dX8_carries_0 (by decide) ?_
  refine lv_istore (lv' := [(6, .int 0), (0, .ref m0), (1, .ref of_), (2, .int 3), (3, .ref to_), (4, .int 104), (5, .int 1)]) hx hb dX8_carries_1 hl (by decide) rfl (fun ls hl => ?_)
  obtain ⟨i_3, hi_3⟩ : ∃ i : Int32, i = 0 := ⟨_, rfl⟩
  replace hl : lv_has ls 7 [(6, .int i_3), (0, .ref m0), (1, .ref of_), (2, .int 3), (3, .ref to_), (4, .int 104), (5, .int 1)] := by rw [hi_3]; exact lv_sub hl [0, 1, 2, 3, 4, 5, 6] rfl
  have h1i_3 : i_3.toInt = 0 := by rw [hi_3]; decide
  obtain ⟨nfu, hni_3⟩ : ∃ nq9 : Nat, 3 ≤ i_3.toInt + (nq9 : Int) := ⟨((3 : Int) - 0).toNat, by omega⟩
  have hloi_3 : 0 ≤ i_3.toInt := by omega
  obtain ⟨g_1, hg_1⟩ : ∃ g : Nat → Int32, g = fo := ⟨_, rfl⟩
  have hpg_1 : zRg g_1 (0) 99 := by rw [hg_1]; exact hp_fo
  replace hP : va_P D vwCl [(of_, .inl (cI, 3, .inl g_1)), (to_, .inl (cI, 130, .inl ft))] H := by rw [hg_1]; exact hP
  replace hD : va_D (va_A [(of_, .inl (cI, 3, .inl fo)), (to_, .inl (cI, 130, .inl ft))] s.heap.size) [(of_, .inl (cI, 3, .inl g_1)), (to_, .inl (cI, 130, .inl ft))] := by rw [hg_1]; exact hD
  have hvi_3_0 : (∀ j : Nat, g_1 j = zCab ft fo 104 i_3.toInt.toNat j) := by
    (try rw [hi_3]); (try rw [hg_1]); (intro j; unfold zCab; rw [if_neg (by have h8 : (0 : Int32).toInt.toNat = 0 := (by decide); omega)])
  have hvi_3_1 : i_3.toInt ≤ 3 := by
    (try rw [hi_3]); (try rw [hg_1]); first | omega | decide
  clear h1i_3 hi_3 hg_1
  skip
  revert hni_3
  revert hloi_3
  revert hvi_3_1
  revert hvi_3_0
  revert hpg_1
  revert hl
  revert hS
  revert hD
  revert hP
  revert ls
  revert locs
  revert H
  revert g_1
  revert i_3
  induction nfu with
  | zero =>
    intro i_3 g_1 H locs ls hP hD hS hl hpg_1 hvi_3_0 hvi_3_1 hloi_3 hni_3
    have hzi_3 : 3 ≤ i_3.toInt := by omega
    refine lv_iload hx hb dX8_carries_3 (lv_at hl 0 rfl) ?_
    refine lv_iload_n hx hb dX8_carries_5 rfl (lv_at hl 3 rfl) ?_
    refine lv_icmp_ge (tgt := 45) hx hb dX8_carries_6 (by decide) (fun c_2 => ?_) (fun c_2 => ?_)
    · have fc_2 : 3 ≤ i_3.toInt := zf_le c_2 (by decide) rfl
      refine lv_iload hx hb dX8_carries_45 (lv_at hl 5 rfl) ?_
      refine lv_iload_n hx hb dX8_carries_47 rfl (lv_at hl 3 rfl) ?_
      refine lv_iadd hx hb dX8_carries_48 ?_
      refine lv_topi (fun y_3 ey_3 => ?_)
      obtain rfl : y_3 = 107 := ey_3.trans (by decide)
      exact W.iret (v := 107) hx hb hr (fun t ht hW => ⟨⟨107, g_1, rfl, ⟨hpg_1, (show (∀ j : Nat, g_1 j = zCab ft fo 104 3 j) from by (intro j; have h8 := hvi_3_0 j; rw [show i_3.toInt.toNat = 3 from by omega] at h8; exact h8)), rfl⟩, zRet ht hP hD [0, 1] (by decide) rfl⟩, hS.F ht⟩) hS.2.2 dX8_carries_49
    · exfalso; have fc_2 : i_3.toInt < 3 := zf_nle c_2 (by decide) rfl; omega
  | succ nfu ih =>
    intro i_3 g_1 H locs ls hP hD hS hl hpg_1 hvi_3_0 hvi_3_1 hloi_3 hni_3
    refine lv_iload hx hb dX8_carries_3 (lv_at hl 0 rfl) ?_
    refine lv_iload_n hx hb dX8_carries_5 rfl (lv_at hl 3 rfl) ?_
    refine lv_icmp_ge (tgt := 45) hx hb dX8_carries_6 (by decide) (fun c_4 => ?_) (fun c_4 => ?_)
    · have fc_4 : 3 ≤ i_3.toInt := zf_le c_4 (by decide) rfl
      refine lv_iload hx hb dX8_carries_45 (lv_at hl 5 rfl) ?_
      refine lv_iload_n hx hb dX8_carries_47 rfl (lv_at hl 3 rfl) ?_
      refine lv_iadd hx hb dX8_carries_48 ?_
      refine lv_topi (fun y_5 ey_5 => ?_)
      obtain rfl : y_5 = 107 := ey_5.trans (by decide)
      exact W.iret (v := 107) hx hb hr (fun t ht hW => ⟨⟨107, g_1, rfl, ⟨hpg_1, (show (∀ j : Nat, g_1 j = zCab ft fo 104 3 j) from by (intro j; have h8 := hvi_3_0 j; rw [show i_3.toInt.toNat = 3 from by omega] at h8; exact h8)), rfl⟩, zRet ht hP hD [0, 1] (by decide) rfl⟩, hS.F ht⟩) hS.2.2 dX8_carries_49
    · have fc_4 : i_3.toInt < 3 := zf_nle c_4 (by decide) rfl
      refine lv_iload hx hb dX8_carries_9 (lv_at hl 6 rfl) ?_
      refine lv_if_eq (tgt := 28) hx hb dX8_carries_11 (by decide) (fun c_6 => ?_) (fun c_6 => ?_)
      · exact absurd c_6 (by decide)
      · refine lv_aload_n hx hb dX8_carries_14 rfl (lv_at hl 2 rfl) ?_
        refine lv_iload hx hb dX8_carries_15 (lv_at hl 0 rfl) ?_
        refine lv_aload_n hx hb dX8_carries_17 rfl (lv_at hl 4 rfl) ?_
        refine lv_iload hx hb dX8_carries_18 (lv_at hl 5 rfl) ?_
        refine lv_iload hx hb dX8_carries_20 (lv_at hl 0 rfl) ?_
        refine lv_iadd hx hb dX8_carries_22 ?_
        refine lv_topi (fun x_7 ex_7 => ?_)
        have qx_7 : x_7.toInt = 104 + i_3.toInt := by rw [ex_7]; exact zf_add (by decide) rfl (by omega) (by omega)
        refine va_iald hx hb hK hP 1 0 rfl rfl (zf_in (by omega) (by omega)) dX8_carries_23 ?_
        refine lv_topi (fun x_8 ex_8 => ?_)
        have bx_8 : 0 ≤ x_8.toInt ∧ x_8.toInt ≤ 99 := by rw [ex_8, show x_7.toNatClampNeg = 104 + i_3.toInt.toNat from by (show x_7.toInt.toNat = _; omega)]; exact hto _ (by omega)
        refine va_iast hx hb hK hP hD hS 0 0 rfl rfl (zf_in (by omega) (by omega)) dX8_carries_24 (fun H locs hP hD hS => ?_)
        have hpg_9 : zRg (upd g_1 i_3.toNatClampNeg x_8) (0) 99 := zRg_upd hpg_1 (by omega) (by omega)
        obtain ⟨g_9, hg_9⟩ : ∃ g : Nat → Int32, g = upd g_1 i_3.toNatClampNeg x_8 := ⟨_, rfl⟩
        rw [← hg_9] at hP hD hpg_9
        have h9R := zRe (ws' := [(of_, .inl (cI, 3, .inl g_9)), (to_, .inl (cI, 130, .inl ft))]) hP hD rfl
        clear hP hD
        obtain ⟨hP, hD⟩ := h9R
        refine lv_goto (tgt := 39) hx hb dX8_carries_25 (by decide) ?_
        obtain ⟨x_10, ex_10⟩ : ∃ y : Int32, y = i_3 + 1 := ⟨_, rfl⟩
        have qx_10 : x_10.toInt = i_3.toInt + 1 := dw_incK ex_10 fc_4 (by decide)
        refine lv_iinc (v := x_10) (lv' := [(6, .int x_10), (0, .ref m0), (1, .ref of_), (2, .int 3), (3, .ref to_), (4, .int 104), (5, .int 1)]) hx hb dX8_carries_39 hl (k := 0) rfl ex_10.symm (by decide) rfl (fun ls hl => ?_)
        refine lv_goto (tgt := 3) hx hb dX8_carries_42 (by decide) ?_
        exact ih x_10 (g_9) _ _ _ (hP.sub [0, 1] rfl) (hD.sub [0, 1] (by decide) rfl) hS (lv_sub hl [0, 1, 2, 3, 4, 5, 6] rfl) hpg_9 (show (∀ j : Nat, g_9 j = zCab ft fo 104 x_10.toInt.toNat j) from by (intro j; rw [hg_9]; have h8 : i_3.toNatClampNeg = i_3.toInt.toNat := rfl; have h7 := hvi_3_0 j; simp only [upd]; unfold zCab at h7 ⊢; exact (Classical.em (j = i_3.toNatClampNeg)).elim (fun e9 => by (rw [if_pos e9, if_pos (by omega), ex_8]; congr 1; (show x_7.toInt.toNat = _; omega))) (fun e9 => by (rw [if_neg e9, h7]; exact (Classical.em (j < i_3.toInt.toNat)).elim (fun h6 => by rw [if_pos h6, if_pos (by omega)]) (fun h6 => by rw [if_neg h6, if_neg (by omega)]))))) (show x_10.toInt ≤ 3 from by omega) (dw_lo hloi_3 qx_10) (dw_hn hni_3 qx_10)
end
section
theorem gl_X8_all_X80 : GoodIn wsX8_all wsX80 := (dg_t (dg_t (dg_t (dg_t (dg_t (dg_t (dg_t (dg_t (dg_t (dg_t (dg_t (dg_t (dg_t (dg_t (dg_t (dg_t (dg_t (dg_t (dg_t (dg_t (dg_t gw_wsX80)))))))))))))))))))))
theorem hi_X8_all_8 : ∀ w ∈ u_ws RX8 TX8 38, w ∈ wsX8_all := fun w h => (gl_X8_all_X80 w h).1
set_option maxHeartbeats 4000000 in
set_option maxRecDepth 100000 in
theorem c_M_all_f (l : Launch) (D : va_G) (cI cJ cZ cP cS : ClassId) (po : zPool) (m0 mrf mki mpa mta mla msl mco mhe mso msi msh mce mca mwo mnu mte mwa mke mma mth mtr : Nat) (npu nte nat_ nde nto nse nhu nga nsd nfa nba npl nen nnu nwr nra nik : Int32) (gki gpa gta gla gsl gco : Nat → Int32) (to_ : Nat) (ft : Nat → Int32) (hy0 : 0 ≤ npu.toInt) (hy1 : npu.toInt ≤ 8) (hy2 : 4 ≤ nte.toInt) (hy3 : nte.toInt ≤ 40) (hy4 : 0 ≤ nat_.toInt) (hy5 : nat_.toInt ≤ 40) (hy6 : 0 ≤ nde.toInt) (hy7 : nde.toInt ≤ 24) (hy8 : 0 ≤ nhu.toInt) (hy9 : nhu.toInt ≤ 9) (hy10 : 0 ≤ nra.toInt) (hy11 : nra.toInt ≤ 2000) (hy12 : 0 ≤ nik.toInt) (hy13 : nik.toInt ≤ 1) (hp_gki : zRg gki (0) 6) (hp_gpa : zRg gpa (0) 9) (hp_gta : zRg gta (0) 60) (hp_gla : zRg gla (0) 1) (hp_gsl : zRg gsl (0) 9) (hp_gco : zRg gco (0) 99) (hpz : Nat) : Met l yX8_all wsX8_all ({ frames := 1, cells := 0, slots := 0, locals := 26 }) (va_Pc [.ref m0, .ref to_, .int 0] (zW D (zKT cI cJ cZ cP cS) po [(zMO m0 npu nte nat_ nde nto nse nhu nga nsd nfa mrf mki mpa mta mla msl mco mhe mso msi msh mce mca mwo mnu mte nba npl nen nnu nwr mwa mke mma mth mtr nra nik), (mki, .inl (cI, 8, .inl gki)), (mpa, .inl (cI, 8, .inl gpa)), (mta, .inl (cI, 8, .inl gta)), (mla, .inl (cI, 40, .inl gla)), (msl, .inl (cI, 40, .inl gsl)), (mco, .inl (cI, 3, .inl gco)), (to_, .inl (cI, 130, .inl ft))] hpz)) (va_Qv (fun (ft2 : (Nat → Int32)) => ((∀ j : Nat, j < 116 → ft2 j = zAll gki gpa gta gla gsl gco npu nte nat_ nde nto nse nhu nga nsd j)) ∧ (True)) (zB D [(zMO m0 npu nte nat_ nde nto nse nhu nga nsd nfa mrf mki mpa mta mla msl mco mhe mso msi msh mce mca mwo mnu mte nba npl nen nnu nwr mwa mke mma mth mtr nra nik), (mki, .inl (cI, 8, .inl gki)), (mpa, .inl (cI, 8, .inl gpa)), (mta, .inl (cI, 8, .inl gta)), (mla, .inl (cI, 40, .inl gla)), (msl, .inl (cI, 40, .inl gsl)), (mco, .inl (cI, 3, .inl gco)), (to_, .inl (cI, 130, .inl ft))] hpz (fun (ft2 : Nat → Int32) => [(zMO m0 npu nte nat_ nde nto nse nhu nga nsd nfa mrf mki mpa mta mla msl mco mhe mso msi msh mce mca mwo mnu mte nba npl nen nnu nwr mwa mke mma mth mtr nra nik), (mki, .inl (cI, 8, .inl gki)), (mpa, .inl (cI, 8, .inl gpa)), (mta, .inl (cI, 8, .inl gta)), (mla, .inl (cI, 40, .inl gla)), (msl, .inl (cI, 40, .inl gsl)), (mco, .inl (cI, 3, .inl gco)), (to_, .inl (cI, 130, .inl ft2))])) (va_A [(zMO m0 npu nte nat_ nde nto nse nhu nga nsd nfa mrf mki mpa mta mla msl mco mhe mso msi msh mce mca mwo mnu mte nba npl nen nnu nwr mwa mke mma mth mtr nra nik), (mki, .inl (cI, 8, .inl gki)), (mpa, .inl (cI, 8, .inl gpa)), (mta, .inl (cI, 8, .inl gta)), (mla, .inl (cI, 40, .inl gla)), (msl, .inl (cI, 40, .inl gsl)), (mco, .inl (cI, 3, .inl gco)), (to_, .inl (cI, 130, .inl ft))] hpz)) 0 0 (va_A [(zMO m0 npu nte nat_ nde nto nse nhu nga nsd nfa mrf mki mpa mta mla msl mco mhe mso msi msh mce mca mwo mnu mte nba npl nen nnu nwr mwa mke mma mth mtr nra nik), (mki, .inl (cI, 8, .inl gki)), (mpa, .inl (cI, 8, .inl gpa)), (mta, .inl (cI, 8, .inl gta)), (mla, .inl (cI, 40, .inl gla)), (msl, .inl (cI, 40, .inl gsl)), (mco, .inl (cI, 3, .inl gco)), (to_, .inl (cI, 130, .inl ft))] hpz) := by
  refine Met.ofW (cc := cX8_all) (maxL := 4) (ret := none) (by decide) rfl ?_
  intro p e s m args below meth c s₁ B hml hv
  obtain ⟨rfl, hsz, hP, hK, hD0, hN, hZ⟩ := hv
  have hx := B.exec
  have hb := B.bytes
  have hr := B.returns
  have hts := atoms_spec (ws := wsX8_all) B.pre
  have hown : s.vm.findClass RX8 = some m.cls := findClass_of_methodNamed B.named
  have hlocks := B.notSynchronized
  subst hsz
  have hD := hD0.self (sz := s.heap.size)
  have hA := zA_of hD
  have hl := lv_entry ([.ref m0, .ref to_, .int 0]) (n := 4) (Nat.le_of_ble_eq_true rfl)
  rw [lg_entry_eq]
  generalize (lg_sl ([.ref m0, .ref to_, .int 0]) ++ List.replicate (4 - (lg_sl ([.ref m0, .ref to_, .int 0])).length) Slot.unset).toArray = ls at hl ⊢
  replace hl : lv_has ls 4 [(0, .ref m0), (1, .ref to_), (2, .int 0)] := hl
  refine zw_begin hP hD (fun H locs hP1 hS => ?_)
  clear hP
  have hP := hP1
  clear hP1
  refine lv_aload_n hx hb dX8_all_0 rfl (lv_at hl 0 rfl) ?_
  refine lv_aload_n hx hb dX8_all_1 rfl (lv_at hl 0 rfl) ?_
  refine va_get (D := D) (ci := 8) (v := .ref mki) (C := RX8) (T := TX8) (N := 38) hx hb hts hi_X8_all_8 hown hK hP 0 rfl rfl 11 (by decide) (hts (.fieldLink RX8 29 "TheLiningsInItModel" "kind" "[I") (List.mem_of_getElem? (i := 1) rfl)) (fun _ h9 => h9) rfl dX8_all_2 ?_
  refine lv_bipush (v := 8) hx hb dX8_all_5 (by decide) ?_
  refine lv_aload_n hx hb dX8_all_7 rfl (lv_at hl 1 rfl) ?_
  refine lv_iconst (v := 0) hx hb dX8_all_8 (by decide) ?_
  refine lv_iload_n hx hb dX8_all_9 rfl (lv_at hl 2 rfl) ?_
  skip
  refine zw_V (As := [.ref mki, .int 8, .ref to_, .int 0, .int 0]) (rest := []) (wr := [(zMO m0 npu nte nat_ nde nto nse nhu nga nsd nfa mrf mki mpa mta mla msl mco mhe mso msi msh mce mca mwo mnu mte nba npl nen nnu nwr mwa mke mma mth mtr nra nik), (mpa, .inl (cI, 8, .inl gpa)), (mta, .inl (cI, 8, .inl gta)), (mla, .inl (cI, 40, .inl gla)), (msl, .inl (cI, 40, .inl gsl)), (mco, .inl (cI, 3, .inl gco))]) ⟨hx, hb, hml, hown, hts⟩ (c_M_carf_8_0 l D cI cJ cZ cP cS po m0 mki to_ gki ft  H.size) (cwV 5 hts gX8_all_X8_carries rfl rfl rfl ⟨rfl, dh_X8_carries⟩ ⟨Nat.le_of_ble_eq_true rfl, Nat.le_of_ble_eq_true rfl⟩) hK hN (hZ.kept hS) hP hD hS hA [1, 7] [0, 2, 3, 4, 5, 6] rfl rfl (by decide) (by decide) (by decide) (va_recv (q := (RX8, TX8, 38)) hK hP (ci := 8) (q0 := 0) rfl rfl) rfl hl.1 rfl (Nat.le_of_ble_eq_true rfl) dX8_all_10 ⟨Nat.le_of_ble_eq_true rfl, Nat.le_of_ble_eq_true rfl⟩ (fun r_1 u_2 H locs hr_1 hP hD hS => ?_)
  obtain ⟨q_3, rfl⟩ : ∃ z, z = u_2 := ⟨_, rfl⟩
  obtain ⟨hsr_1_0, hr_1⟩ := hr_1
  have h9R := zRe (ws' := [(zMO m0 npu nte nat_ nde nto nse nhu nga nsd nfa mrf mki mpa mta mla msl mco mhe mso msi msh mce mca mwo mnu mte nba npl nen nnu nwr mwa mke mma mth mtr nra nik), (mpa, .inl (cI, 8, .inl gpa)), (mta, .inl (cI, 8, .inl gta)), (mla, .inl (cI, 40, .inl gla)), (msl, .inl (cI, 40, .inl gsl)), (mco, .inl (cI, 3, .inl gco)), (mki, .inl (cI, 8, .inl gki)), (to_, .inl (cI, 130, .inl q_3))]) hP hD rfl
  clear hP hD
  obtain ⟨hP, hD⟩ := h9R
  obtain rfl := hr_1
  refine lv_istore_n (lv' := [(3, .int 8), (0, .ref m0), (1, .ref to_), (2, .int 0)]) hx hb dX8_all_13 rfl hl (by decide) rfl (fun ls hl => ?_)
  refine lv_aload_n hx hb dX8_all_14 rfl (lv_at hl 1 rfl) ?_
  refine lv_aload_n hx hb dX8_all_15 rfl (lv_at hl 1 rfl) ?_
  refine va_get (D := D) (ci := 8) (v := .ref mpa) (C := RX8) (T := TX8) (N := 38) hx hb hts hi_X8_all_8 hown hK hP 0 rfl rfl 12 (by decide) (hts (.fieldLink RX8 32 "TheLiningsInItModel" "part" "[I") (List.mem_of_getElem? (i := 2) rfl)) (fun _ h9 => h9) rfl dX8_all_16 ?_
  refine lv_bipush (v := 8) hx hb dX8_all_19 (by decide) ?_
  refine lv_aload_n hx hb dX8_all_21 rfl (lv_at hl 2 rfl) ?_
  refine lv_iload_n hx hb dX8_all_22 rfl (lv_at hl 0 rfl) ?_
  refine lv_iload_n hx hb dX8_all_23 rfl (lv_at hl 3 rfl) ?_
  skip
  refine zw_V (As := [.ref mpa, .int 8, .ref to_, .int 8, .int 0]) (rest := []) (wr := [(zMO m0 npu nte nat_ nde nto nse nhu nga nsd nfa mrf mki mpa mta mla msl mco mhe mso msi msh mce mca mwo mnu mte nba npl nen nnu nwr mwa mke mma mth mtr nra nik), (mta, .inl (cI, 8, .inl gta)), (mla, .inl (cI, 40, .inl gla)), (msl, .inl (cI, 40, .inl gsl)), (mco, .inl (cI, 3, .inl gco)), (mki, .inl (cI, 8, .inl gki))]) ⟨hx, hb, hml, hown, hts⟩ (c_M_carf_8_8 l D cI cJ cZ cP cS po m0 mpa to_ gpa q_3  H.size) (cwV 5 hts gX8_all_X8_carries rfl rfl rfl ⟨rfl, dh_X8_carries⟩ ⟨Nat.le_of_ble_eq_true rfl, Nat.le_of_ble_eq_true rfl⟩) hK hN (hZ.kept hS) hP hD hS hA [1, 7] [0, 2, 3, 4, 5, 6] rfl rfl (by decide) (by decide) (by decide) (va_recv (q := (RX8, TX8, 38)) hK hP (ci := 8) (q0 := 0) rfl rfl) rfl hl.1 rfl (Nat.le_of_ble_eq_true rfl) dX8_all_24 ⟨Nat.le_of_ble_eq_true rfl, Nat.le_of_ble_eq_true rfl⟩ (fun r_4 u_5 H locs hr_4 hP hD hS => ?_)
  obtain ⟨q_6, rfl⟩ : ∃ z, z = u_5 := ⟨_, rfl⟩
  obtain ⟨hsr_4_0, hr_4⟩ := hr_4
  have h9R := zRe (ws' := [(zMO m0 npu nte nat_ nde nto nse nhu nga nsd nfa mrf mki mpa mta mla msl mco mhe mso msi msh mce mca mwo mnu mte nba npl nen nnu nwr mwa mke mma mth mtr nra nik), (mta, .inl (cI, 8, .inl gta)), (mla, .inl (cI, 40, .inl gla)), (msl, .inl (cI, 40, .inl gsl)), (mco, .inl (cI, 3, .inl gco)), (mki, .inl (cI, 8, .inl gki)), (mpa, .inl (cI, 8, .inl gpa)), (to_, .inl (cI, 130, .inl q_6))]) hP hD rfl
  clear hP hD
  obtain ⟨hP, hD⟩ := h9R
  obtain rfl := hr_4
  refine lv_istore_n (lv' := [(3, .int 16), (0, .ref m0), (1, .ref to_), (2, .int 0)]) hx hb dX8_all_27 rfl hl (by decide) rfl (fun ls hl => ?_)
  refine lv_aload_n hx hb dX8_all_28 rfl (lv_at hl 1 rfl) ?_
  refine lv_aload_n hx hb dX8_all_29 rfl (lv_at hl 1 rfl) ?_
  refine va_get (D := D) (ci := 8) (v := .ref mta) (C := RX8) (T := TX8) (N := 38) hx hb hts hi_X8_all_8 hown hK hP 0 rfl rfl 13 (by decide) (hts (.fieldLink RX8 35 "TheLiningsInItModel" "takes" "[I") (List.mem_of_getElem? (i := 3) rfl)) (fun _ h9 => h9) rfl dX8_all_30 ?_
  refine lv_bipush (v := 8) hx hb dX8_all_33 (by decide) ?_
  refine lv_aload_n hx hb dX8_all_35 rfl (lv_at hl 2 rfl) ?_
  refine lv_iload_n hx hb dX8_all_36 rfl (lv_at hl 0 rfl) ?_
  refine lv_iload_n hx hb dX8_all_37 rfl (lv_at hl 3 rfl) ?_
  skip
  refine zw_V (As := [.ref mta, .int 8, .ref to_, .int 16, .int 0]) (rest := []) (wr := [(zMO m0 npu nte nat_ nde nto nse nhu nga nsd nfa mrf mki mpa mta mla msl mco mhe mso msi msh mce mca mwo mnu mte nba npl nen nnu nwr mwa mke mma mth mtr nra nik), (mla, .inl (cI, 40, .inl gla)), (msl, .inl (cI, 40, .inl gsl)), (mco, .inl (cI, 3, .inl gco)), (mki, .inl (cI, 8, .inl gki)), (mpa, .inl (cI, 8, .inl gpa))]) ⟨hx, hb, hml, hown, hts⟩ (c_M_carf_8_16 l D cI cJ cZ cP cS po m0 mta to_ gta q_6  H.size) (cwV 5 hts gX8_all_X8_carries rfl rfl rfl ⟨rfl, dh_X8_carries⟩ ⟨Nat.le_of_ble_eq_true rfl, Nat.le_of_ble_eq_true rfl⟩) hK hN (hZ.kept hS) hP hD hS hA [1, 7] [0, 2, 3, 4, 5, 6] rfl rfl (by decide) (by decide) (by decide) (va_recv (q := (RX8, TX8, 38)) hK hP (ci := 8) (q0 := 0) rfl rfl) rfl hl.1 rfl (Nat.le_of_ble_eq_true rfl) dX8_all_38 ⟨Nat.le_of_ble_eq_true rfl, Nat.le_of_ble_eq_true rfl⟩ (fun r_7 u_8 H locs hr_7 hP hD hS => ?_)
  obtain ⟨q_9, rfl⟩ : ∃ z, z = u_8 := ⟨_, rfl⟩
  obtain ⟨hsr_7_0, hr_7⟩ := hr_7
  have h9R := zRe (ws' := [(zMO m0 npu nte nat_ nde nto nse nhu nga nsd nfa mrf mki mpa mta mla msl mco mhe mso msi msh mce mca mwo mnu mte nba npl nen nnu nwr mwa mke mma mth mtr nra nik), (mla, .inl (cI, 40, .inl gla)), (msl, .inl (cI, 40, .inl gsl)), (mco, .inl (cI, 3, .inl gco)), (mki, .inl (cI, 8, .inl gki)), (mpa, .inl (cI, 8, .inl gpa)), (mta, .inl (cI, 8, .inl gta)), (to_, .inl (cI, 130, .inl q_9))]) hP hD rfl
  clear hP hD
  obtain ⟨hP, hD⟩ := h9R
  obtain rfl := hr_7
  refine lv_istore_n (lv' := [(3, .int 24), (0, .ref m0), (1, .ref to_), (2, .int 0)]) hx hb dX8_all_41 rfl hl (by decide) rfl (fun ls hl => ?_)
  refine lv_aload_n hx hb dX8_all_42 rfl (lv_at hl 1 rfl) ?_
  refine lv_aload_n hx hb dX8_all_43 rfl (lv_at hl 1 rfl) ?_
  refine va_get (D := D) (ci := 8) (v := .ref mla) (C := RX8) (T := TX8) (N := 38) hx hb hts hi_X8_all_8 hown hK hP 0 rfl rfl 14 (by decide) (hts (.fieldLink RX8 38 "TheLiningsInItModel" "lacks" "[I") (List.mem_of_getElem? (i := 4) rfl)) (fun _ h9 => h9) rfl dX8_all_44 ?_
  refine lv_bipush (v := 40) hx hb dX8_all_47 (by decide) ?_
  refine lv_aload_n hx hb dX8_all_49 rfl (lv_at hl 2 rfl) ?_
  refine lv_iload_n hx hb dX8_all_50 rfl (lv_at hl 0 rfl) ?_
  refine lv_iload_n hx hb dX8_all_51 rfl (lv_at hl 3 rfl) ?_
  skip
  refine zw_V (As := [.ref mla, .int 40, .ref to_, .int 24, .int 0]) (rest := []) (wr := [(zMO m0 npu nte nat_ nde nto nse nhu nga nsd nfa mrf mki mpa mta mla msl mco mhe mso msi msh mce mca mwo mnu mte nba npl nen nnu nwr mwa mke mma mth mtr nra nik), (msl, .inl (cI, 40, .inl gsl)), (mco, .inl (cI, 3, .inl gco)), (mki, .inl (cI, 8, .inl gki)), (mpa, .inl (cI, 8, .inl gpa)), (mta, .inl (cI, 8, .inl gta))]) ⟨hx, hb, hml, hown, hts⟩ (c_M_carf_40_24 l D cI cJ cZ cP cS po m0 mla to_ gla q_9  H.size) (cwV 5 hts gX8_all_X8_carries rfl rfl rfl ⟨rfl, dh_X8_carries⟩ ⟨Nat.le_of_ble_eq_true rfl, Nat.le_of_ble_eq_true rfl⟩) hK hN (hZ.kept hS) hP hD hS hA [1, 7] [0, 2, 3, 4, 5, 6] rfl rfl (by decide) (by decide) (by decide) (va_recv (q := (RX8, TX8, 38)) hK hP (ci := 8) (q0 := 0) rfl rfl) rfl hl.1 rfl (Nat.le_of_ble_eq_true rfl) dX8_all_52 ⟨Nat.le_of_ble_eq_true rfl, Nat.le_of_ble_eq_true rfl⟩ (fun r_10 u_11 H locs hr_10 hP hD hS => ?_)
  obtain ⟨q_12, rfl⟩ : ∃ z, z = u_11 := ⟨_, rfl⟩
  obtain ⟨hsr_10_0, hr_10⟩ := hr_10
  have h9R := zRe (ws' := [(zMO m0 npu nte nat_ nde nto nse nhu nga nsd nfa mrf mki mpa mta mla msl mco mhe mso msi msh mce mca mwo mnu mte nba npl nen nnu nwr mwa mke mma mth mtr nra nik), (msl, .inl (cI, 40, .inl gsl)), (mco, .inl (cI, 3, .inl gco)), (mki, .inl (cI, 8, .inl gki)), (mpa, .inl (cI, 8, .inl gpa)), (mta, .inl (cI, 8, .inl gta)), (mla, .inl (cI, 40, .inl gla)), (to_, .inl (cI, 130, .inl q_12))]) hP hD rfl
  clear hP hD
  obtain ⟨hP, hD⟩ := h9R
  obtain rfl := hr_10
  refine lv_istore_n (lv' := [(3, .int 64), (0, .ref m0), (1, .ref to_), (2, .int 0)]) hx hb dX8_all_55 rfl hl (by decide) rfl (fun ls hl => ?_)
  refine lv_aload_n hx hb dX8_all_56 rfl (lv_at hl 1 rfl) ?_
  refine lv_aload_n hx hb dX8_all_57 rfl (lv_at hl 1 rfl) ?_
  refine va_get (D := D) (ci := 8) (v := .ref msl) (C := RX8) (T := TX8) (N := 38) hx hb hts hi_X8_all_8 hown hK hP 0 rfl rfl 15 (by decide) (hts (.fieldLink RX8 41 "TheLiningsInItModel" "slack" "[I") (List.mem_of_getElem? (i := 5) rfl)) (fun _ h9 => h9) rfl dX8_all_58 ?_
  refine lv_bipush (v := 40) hx hb dX8_all_61 (by decide) ?_
  refine lv_aload_n hx hb dX8_all_63 rfl (lv_at hl 2 rfl) ?_
  refine lv_iload_n hx hb dX8_all_64 rfl (lv_at hl 0 rfl) ?_
  refine lv_iload_n hx hb dX8_all_65 rfl (lv_at hl 3 rfl) ?_
  skip
  refine zw_V (As := [.ref msl, .int 40, .ref to_, .int 64, .int 0]) (rest := []) (wr := [(zMO m0 npu nte nat_ nde nto nse nhu nga nsd nfa mrf mki mpa mta mla msl mco mhe mso msi msh mce mca mwo mnu mte nba npl nen nnu nwr mwa mke mma mth mtr nra nik), (mco, .inl (cI, 3, .inl gco)), (mki, .inl (cI, 8, .inl gki)), (mpa, .inl (cI, 8, .inl gpa)), (mta, .inl (cI, 8, .inl gta)), (mla, .inl (cI, 40, .inl gla))]) ⟨hx, hb, hml, hown, hts⟩ (c_M_carf_40_64 l D cI cJ cZ cP cS po m0 msl to_ gsl q_12  H.size) (cwV 5 hts gX8_all_X8_carries rfl rfl rfl ⟨rfl, dh_X8_carries⟩ ⟨Nat.le_of_ble_eq_true rfl, Nat.le_of_ble_eq_true rfl⟩) hK hN (hZ.kept hS) hP hD hS hA [1, 7] [0, 2, 3, 4, 5, 6] rfl rfl (by decide) (by decide) (by decide) (va_recv (q := (RX8, TX8, 38)) hK hP (ci := 8) (q0 := 0) rfl rfl) rfl hl.1 rfl (Nat.le_of_ble_eq_true rfl) dX8_all_66 ⟨Nat.le_of_ble_eq_true rfl, Nat.le_of_ble_eq_true rfl⟩ (fun r_13 u_14 H locs hr_13 hP hD hS => ?_)
  obtain ⟨q_15, rfl⟩ : ∃ z, z = u_14 := ⟨_, rfl⟩
  obtain ⟨hsr_13_0, hr_13⟩ := hr_13
  have h9R := zRe (ws' := [(zMO m0 npu nte nat_ nde nto nse nhu nga nsd nfa mrf mki mpa mta mla msl mco mhe mso msi msh mce mca mwo mnu mte nba npl nen nnu nwr mwa mke mma mth mtr nra nik), (mco, .inl (cI, 3, .inl gco)), (mki, .inl (cI, 8, .inl gki)), (mpa, .inl (cI, 8, .inl gpa)), (mta, .inl (cI, 8, .inl gta)), (mla, .inl (cI, 40, .inl gla)), (msl, .inl (cI, 40, .inl gsl)), (to_, .inl (cI, 130, .inl q_15))]) hP hD rfl
  clear hP hD
  obtain ⟨hP, hD⟩ := h9R
  obtain rfl := hr_13
  refine lv_istore_n (lv' := [(3, .int 104), (0, .ref m0), (1, .ref to_), (2, .int 0)]) hx hb dX8_all_69 rfl hl (by decide) rfl (fun ls hl => ?_)
  refine lv_aload_n hx hb dX8_all_70 rfl (lv_at hl 1 rfl) ?_
  refine lv_aload_n hx hb dX8_all_71 rfl (lv_at hl 1 rfl) ?_
  refine va_get (D := D) (ci := 8) (v := .ref mco) (C := RX8) (T := TX8) (N := 38) hx hb hts hi_X8_all_8 hown hK hP 0 rfl rfl 16 (by decide) (hts (.fieldLink RX8 44 "TheLiningsInItModel" "cost" "[I") (List.mem_of_getElem? (i := 6) rfl)) (fun _ h9 => h9) rfl dX8_all_72 ?_
  refine lv_iconst (v := 3) hx hb dX8_all_75 (by decide) ?_
  refine lv_aload_n hx hb dX8_all_76 rfl (lv_at hl 2 rfl) ?_
  refine lv_iload_n hx hb dX8_all_77 rfl (lv_at hl 0 rfl) ?_
  refine lv_iload_n hx hb dX8_all_78 rfl (lv_at hl 3 rfl) ?_
  skip
  refine zw_V (As := [.ref mco, .int 3, .ref to_, .int 104, .int 0]) (rest := []) (wr := [(zMO m0 npu nte nat_ nde nto nse nhu nga nsd nfa mrf mki mpa mta mla msl mco mhe mso msi msh mce mca mwo mnu mte nba npl nen nnu nwr mwa mke mma mth mtr nra nik), (mki, .inl (cI, 8, .inl gki)), (mpa, .inl (cI, 8, .inl gpa)), (mta, .inl (cI, 8, .inl gta)), (mla, .inl (cI, 40, .inl gla)), (msl, .inl (cI, 40, .inl gsl))]) ⟨hx, hb, hml, hown, hts⟩ (c_M_carf_3_104 l D cI cJ cZ cP cS po m0 mco to_ gco q_15  H.size) (cwV 5 hts gX8_all_X8_carries rfl rfl rfl ⟨rfl, dh_X8_carries⟩ ⟨Nat.le_of_ble_eq_true rfl, Nat.le_of_ble_eq_true rfl⟩) hK hN (hZ.kept hS) hP hD hS hA [1, 7] [0, 2, 3, 4, 5, 6] rfl rfl (by decide) (by decide) (by decide) (va_recv (q := (RX8, TX8, 38)) hK hP (ci := 8) (q0 := 0) rfl rfl) rfl hl.1 rfl (Nat.le_of_ble_eq_true rfl) dX8_all_79 ⟨Nat.le_of_ble_eq_true rfl, Nat.le_of_ble_eq_true rfl⟩ (fun r_16 u_17 H locs hr_16 hP hD hS => ?_)
  obtain ⟨q_18, rfl⟩ : ∃ z, z = u_17 := ⟨_, rfl⟩
  obtain ⟨hsr_16_0, hr_16⟩ := hr_16
  have h9R := zRe (ws' := [(zMO m0 npu nte nat_ nde nto nse nhu nga nsd nfa mrf mki mpa mta mla msl mco mhe mso msi msh mce mca mwo mnu mte nba npl nen nnu nwr mwa mke mma mth mtr nra nik), (mki, .inl (cI, 8, .inl gki)), (mpa, .inl (cI, 8, .inl gpa)), (mta, .inl (cI, 8, .inl gta)), (mla, .inl (cI, 40, .inl gla)), (msl, .inl (cI, 40, .inl gsl)), (mco, .inl (cI, 3, .inl gco)), (to_, .inl (cI, 130, .inl q_18))]) hP hD rfl
  clear hP hD
  obtain ⟨hP, hD⟩ := h9R
  obtain rfl := hr_16
  refine lv_istore_n (lv' := [(3, .int 107), (0, .ref m0), (1, .ref to_), (2, .int 0)]) hx hb dX8_all_82 rfl hl (by decide) rfl (fun ls hl => ?_)
  refine lv_iload_n hx hb dX8_all_83 rfl (lv_at hl 3 rfl) ?_
  refine lv_if_eq (tgt := 172) hx hb dX8_all_84 (by decide) (fun c_19 => ?_) (fun c_19 => ?_)
  · refine lv_aload_n hx hb dX8_all_172 rfl (lv_at hl 2 rfl) ?_
    refine lv_iload_n hx hb dX8_all_173 rfl (lv_at hl 0 rfl) ?_
    refine lv_aload_n hx hb dX8_all_174 rfl (lv_at hl 1 rfl) ?_
    refine va_get (D := D) (ci := 8) (v := .int npu) (C := RX8) (T := TX8) (N := 38) hx hb hts hi_X8_all_8 hown hK hP 0 rfl rfl 0 (by decide) (hts (.fieldLink RX8 90 "TheLiningsInItModel" "pulls" "I") (List.mem_of_getElem? (i := 7) rfl)) (fun _ h9 => h9) rfl dX8_all_175 ?_
    refine va_iast hx hb hK hP hD hS 7 0 rfl rfl (zf_in (by decide) (by decide)) dX8_all_178 (fun H locs hP hD hS => ?_)
    have h9R := zRe (ws' := [(zMO m0 npu nte nat_ nde nto nse nhu nga nsd nfa mrf mki mpa mta mla msl mco mhe mso msi msh mce mca mwo mnu mte nba npl nen nnu nwr mwa mke mma mth mtr nra nik), (mki, .inl (cI, 8, .inl gki)), (mpa, .inl (cI, 8, .inl gpa)), (mta, .inl (cI, 8, .inl gta)), (mla, .inl (cI, 40, .inl gla)), (msl, .inl (cI, 40, .inl gsl)), (mco, .inl (cI, 3, .inl gco)), (to_, .inl (cI, 130, .inl (upd q_18 (107 : Int32).toNatClampNeg npu)))]) hP hD rfl
    clear hP hD
    obtain ⟨hP, hD⟩ := h9R
    refine lv_aload_n hx hb dX8_all_179 rfl (lv_at hl 2 rfl) ?_
    refine lv_iload_n hx hb dX8_all_180 rfl (lv_at hl 0 rfl) ?_
    refine lv_iconst (v := 1) hx hb dX8_all_181 (by decide) ?_
    refine lv_iadd hx hb dX8_all_182 ?_
    refine lv_topi (fun y_20 ey_20 => ?_)
    obtain rfl : y_20 = 108 := ey_20.trans (by decide)
    refine lv_aload_n hx hb dX8_all_183 rfl (lv_at hl 1 rfl) ?_
    refine va_get (D := D) (ci := 8) (v := .int nte) (C := RX8) (T := TX8) (N := 38) hx hb hts hi_X8_all_8 hown hK hP 0 rfl rfl 1 (by decide) (hts (.fieldLink RX8 7 "TheLiningsInItModel" "teeth" "I") (List.mem_of_getElem? (i := 8) rfl)) (fun _ h9 => h9) rfl dX8_all_184 ?_
    refine va_iast hx hb hK hP hD hS 7 0 rfl rfl (zf_in (by decide) (by decide)) dX8_all_187 (fun H locs hP hD hS => ?_)
    have h9R := zRe (ws' := [(zMO m0 npu nte nat_ nde nto nse nhu nga nsd nfa mrf mki mpa mta mla msl mco mhe mso msi msh mce mca mwo mnu mte nba npl nen nnu nwr mwa mke mma mth mtr nra nik), (mki, .inl (cI, 8, .inl gki)), (mpa, .inl (cI, 8, .inl gpa)), (mta, .inl (cI, 8, .inl gta)), (mla, .inl (cI, 40, .inl gla)), (msl, .inl (cI, 40, .inl gsl)), (mco, .inl (cI, 3, .inl gco)), (to_, .inl (cI, 130, .inl (upd (upd q_18 (107 : Int32).toNatClampNeg npu) (108 : Int32).toNatClampNeg nte)))]) hP hD rfl
    clear hP hD
    obtain ⟨hP, hD⟩ := h9R
    refine lv_aload_n hx hb dX8_all_188 rfl (lv_at hl 2 rfl) ?_
    refine lv_iload_n hx hb dX8_all_189 rfl (lv_at hl 0 rfl) ?_
    refine lv_iconst (v := 2) hx hb dX8_all_190 (by decide) ?_
    refine lv_iadd hx hb dX8_all_191 ?_
    refine lv_topi (fun y_21 ey_21 => ?_)
    obtain rfl : y_21 = 109 := ey_21.trans (by decide)
    refine lv_aload_n hx hb dX8_all_192 rfl (lv_at hl 1 rfl) ?_
    refine va_get (D := D) (ci := 8) (v := .int nat_) (C := RX8) (T := TX8) (N := 38) hx hb hts hi_X8_all_8 hown hK hP 0 rfl rfl 2 (by decide) (hts (.fieldLink RX8 122 "TheLiningsInItModel" "at" "I") (List.mem_of_getElem? (i := 9) rfl)) (fun _ h9 => h9) rfl dX8_all_193 ?_
    refine va_iast hx hb hK hP hD hS 7 0 rfl rfl (zf_in (by decide) (by decide)) dX8_all_196 (fun H locs hP hD hS => ?_)
    have h9R := zRe (ws' := [(zMO m0 npu nte nat_ nde nto nse nhu nga nsd nfa mrf mki mpa mta mla msl mco mhe mso msi msh mce mca mwo mnu mte nba npl nen nnu nwr mwa mke mma mth mtr nra nik), (mki, .inl (cI, 8, .inl gki)), (mpa, .inl (cI, 8, .inl gpa)), (mta, .inl (cI, 8, .inl gta)), (mla, .inl (cI, 40, .inl gla)), (msl, .inl (cI, 40, .inl gsl)), (mco, .inl (cI, 3, .inl gco)), (to_, .inl (cI, 130, .inl (upd (upd (upd q_18 (107 : Int32).toNatClampNeg npu) (108 : Int32).toNatClampNeg nte) (109 : Int32).toNatClampNeg nat_)))]) hP hD rfl
    clear hP hD
    obtain ⟨hP, hD⟩ := h9R
    refine lv_aload_n hx hb dX8_all_197 rfl (lv_at hl 2 rfl) ?_
    refine lv_iload_n hx hb dX8_all_198 rfl (lv_at hl 0 rfl) ?_
    refine lv_iconst (v := 3) hx hb dX8_all_199 (by decide) ?_
    refine lv_iadd hx hb dX8_all_200 ?_
    refine lv_topi (fun y_22 ey_22 => ?_)
    obtain rfl : y_22 = 110 := ey_22.trans (by decide)
    refine lv_aload_n hx hb dX8_all_201 rfl (lv_at hl 1 rfl) ?_
    refine va_get (D := D) (ci := 8) (v := .int nde) (C := RX8) (T := TX8) (N := 38) hx hb hts hi_X8_all_8 hown hK hP 0 rfl rfl 3 (by decide) (hts (.fieldLink RX8 115 "TheLiningsInItModel" "depth" "I") (List.mem_of_getElem? (i := 10) rfl)) (fun _ h9 => h9) rfl dX8_all_202 ?_
    refine va_iast hx hb hK hP hD hS 7 0 rfl rfl (zf_in (by decide) (by decide)) dX8_all_205 (fun H locs hP hD hS => ?_)
    have h9R := zRe (ws' := [(zMO m0 npu nte nat_ nde nto nse nhu nga nsd nfa mrf mki mpa mta mla msl mco mhe mso msi msh mce mca mwo mnu mte nba npl nen nnu nwr mwa mke mma mth mtr nra nik), (mki, .inl (cI, 8, .inl gki)), (mpa, .inl (cI, 8, .inl gpa)), (mta, .inl (cI, 8, .inl gta)), (mla, .inl (cI, 40, .inl gla)), (msl, .inl (cI, 40, .inl gsl)), (mco, .inl (cI, 3, .inl gco)), (to_, .inl (cI, 130, .inl (upd (upd (upd (upd q_18 (107 : Int32).toNatClampNeg npu) (108 : Int32).toNatClampNeg nte) (109 : Int32).toNatClampNeg nat_) (110 : Int32).toNatClampNeg nde)))]) hP hD rfl
    clear hP hD
    obtain ⟨hP, hD⟩ := h9R
    refine lv_aload_n hx hb dX8_all_206 rfl (lv_at hl 2 rfl) ?_
    refine lv_iload_n hx hb dX8_all_207 rfl (lv_at hl 0 rfl) ?_
    refine lv_iconst (v := 4) hx hb dX8_all_208 (by decide) ?_
    refine lv_iadd hx hb dX8_all_209 ?_
    refine lv_topi (fun y_23 ey_23 => ?_)
    obtain rfl : y_23 = 111 := ey_23.trans (by decide)
    refine lv_aload_n hx hb dX8_all_210 rfl (lv_at hl 1 rfl) ?_
    refine va_get (D := D) (ci := 8) (v := .int nto) (C := RX8) (T := TX8) (N := 38) hx hb hts hi_X8_all_8 hown hK hP 0 rfl rfl 4 (by decide) (hts (.fieldLink RX8 188 "TheLiningsInItModel" "torn" "I") (List.mem_of_getElem? (i := 11) rfl)) (fun _ h9 => h9) rfl dX8_all_211 ?_
    refine va_iast hx hb hK hP hD hS 7 0 rfl rfl (zf_in (by decide) (by decide)) dX8_all_214 (fun H locs hP hD hS => ?_)
    have h9R := zRe (ws' := [(zMO m0 npu nte nat_ nde nto nse nhu nga nsd nfa mrf mki mpa mta mla msl mco mhe mso msi msh mce mca mwo mnu mte nba npl nen nnu nwr mwa mke mma mth mtr nra nik), (mki, .inl (cI, 8, .inl gki)), (mpa, .inl (cI, 8, .inl gpa)), (mta, .inl (cI, 8, .inl gta)), (mla, .inl (cI, 40, .inl gla)), (msl, .inl (cI, 40, .inl gsl)), (mco, .inl (cI, 3, .inl gco)), (to_, .inl (cI, 130, .inl (upd (upd (upd (upd (upd q_18 (107 : Int32).toNatClampNeg npu) (108 : Int32).toNatClampNeg nte) (109 : Int32).toNatClampNeg nat_) (110 : Int32).toNatClampNeg nde) (111 : Int32).toNatClampNeg nto)))]) hP hD rfl
    clear hP hD
    obtain ⟨hP, hD⟩ := h9R
    refine lv_aload_n hx hb dX8_all_215 rfl (lv_at hl 2 rfl) ?_
    refine lv_iload_n hx hb dX8_all_216 rfl (lv_at hl 0 rfl) ?_
    refine lv_iconst (v := 5) hx hb dX8_all_217 (by decide) ?_
    refine lv_iadd hx hb dX8_all_218 ?_
    refine lv_topi (fun y_24 ey_24 => ?_)
    obtain rfl : y_24 = 112 := ey_24.trans (by decide)
    refine lv_aload_n hx hb dX8_all_219 rfl (lv_at hl 1 rfl) ?_
    refine va_get (D := D) (ci := 8) (v := .int nse) (C := RX8) (T := TX8) (N := 38) hx hb hts hi_X8_all_8 hown hK hP 0 rfl rfl 5 (by decide) (hts (.fieldLink RX8 13 "TheLiningsInItModel" "seconds" "I") (List.mem_of_getElem? (i := 12) rfl)) (fun _ h9 => h9) rfl dX8_all_220 ?_
    refine va_iast hx hb hK hP hD hS 7 0 rfl rfl (zf_in (by decide) (by decide)) dX8_all_223 (fun H locs hP hD hS => ?_)
    have h9R := zRe (ws' := [(zMO m0 npu nte nat_ nde nto nse nhu nga nsd nfa mrf mki mpa mta mla msl mco mhe mso msi msh mce mca mwo mnu mte nba npl nen nnu nwr mwa mke mma mth mtr nra nik), (mki, .inl (cI, 8, .inl gki)), (mpa, .inl (cI, 8, .inl gpa)), (mta, .inl (cI, 8, .inl gta)), (mla, .inl (cI, 40, .inl gla)), (msl, .inl (cI, 40, .inl gsl)), (mco, .inl (cI, 3, .inl gco)), (to_, .inl (cI, 130, .inl (upd (upd (upd (upd (upd (upd q_18 (107 : Int32).toNatClampNeg npu) (108 : Int32).toNatClampNeg nte) (109 : Int32).toNatClampNeg nat_) (110 : Int32).toNatClampNeg nde) (111 : Int32).toNatClampNeg nto) (112 : Int32).toNatClampNeg nse)))]) hP hD rfl
    clear hP hD
    obtain ⟨hP, hD⟩ := h9R
    refine lv_aload_n hx hb dX8_all_224 rfl (lv_at hl 2 rfl) ?_
    refine lv_iload_n hx hb dX8_all_225 rfl (lv_at hl 0 rfl) ?_
    refine lv_bipush (v := 6) hx hb dX8_all_226 (by decide) ?_
    refine lv_iadd hx hb dX8_all_228 ?_
    refine lv_topi (fun y_25 ey_25 => ?_)
    obtain rfl : y_25 = 113 := ey_25.trans (by decide)
    refine lv_aload_n hx hb dX8_all_229 rfl (lv_at hl 1 rfl) ?_
    refine va_get (D := D) (ci := 8) (v := .int nhu) (C := RX8) (T := TX8) (N := 38) hx hb hts hi_X8_all_8 hown hK hP 0 rfl rfl 6 (by decide) (hts (.fieldLink RX8 135 "TheLiningsInItModel" "hurry" "I") (List.mem_of_getElem? (i := 13) rfl)) (fun _ h9 => h9) rfl dX8_all_230 ?_
    refine va_iast hx hb hK hP hD hS 7 0 rfl rfl (zf_in (by decide) (by decide)) dX8_all_233 (fun H locs hP hD hS => ?_)
    have h9R := zRe (ws' := [(zMO m0 npu nte nat_ nde nto nse nhu nga nsd nfa mrf mki mpa mta mla msl mco mhe mso msi msh mce mca mwo mnu mte nba npl nen nnu nwr mwa mke mma mth mtr nra nik), (mki, .inl (cI, 8, .inl gki)), (mpa, .inl (cI, 8, .inl gpa)), (mta, .inl (cI, 8, .inl gta)), (mla, .inl (cI, 40, .inl gla)), (msl, .inl (cI, 40, .inl gsl)), (mco, .inl (cI, 3, .inl gco)), (to_, .inl (cI, 130, .inl (upd (upd (upd (upd (upd (upd (upd q_18 (107 : Int32).toNatClampNeg npu) (108 : Int32).toNatClampNeg nte) (109 : Int32).toNatClampNeg nat_) (110 : Int32).toNatClampNeg nde) (111 : Int32).toNatClampNeg nto) (112 : Int32).toNatClampNeg nse) (113 : Int32).toNatClampNeg nhu)))]) hP hD rfl
    clear hP hD
    obtain ⟨hP, hD⟩ := h9R
    refine lv_aload_n hx hb dX8_all_234 rfl (lv_at hl 2 rfl) ?_
    refine lv_iload_n hx hb dX8_all_235 rfl (lv_at hl 0 rfl) ?_
    refine lv_bipush (v := 7) hx hb dX8_all_236 (by decide) ?_
    refine lv_iadd hx hb dX8_all_238 ?_
    refine lv_topi (fun y_26 ey_26 => ?_)
    obtain rfl : y_26 = 114 := ey_26.trans (by decide)
    refine lv_aload_n hx hb dX8_all_239 rfl (lv_at hl 1 rfl) ?_
    refine va_get (D := D) (ci := 8) (v := .int nga) (C := RX8) (T := TX8) (N := 38) hx hb hts hi_X8_all_8 hown hK hP 0 rfl rfl 7 (by decide) (hts (.fieldLink RX8 16 "TheLiningsInItModel" "gap" "I") (List.mem_of_getElem? (i := 14) rfl)) (fun _ h9 => h9) rfl dX8_all_240 ?_
    refine va_iast hx hb hK hP hD hS 7 0 rfl rfl (zf_in (by decide) (by decide)) dX8_all_243 (fun H locs hP hD hS => ?_)
    have h9R := zRe (ws' := [(zMO m0 npu nte nat_ nde nto nse nhu nga nsd nfa mrf mki mpa mta mla msl mco mhe mso msi msh mce mca mwo mnu mte nba npl nen nnu nwr mwa mke mma mth mtr nra nik), (mki, .inl (cI, 8, .inl gki)), (mpa, .inl (cI, 8, .inl gpa)), (mta, .inl (cI, 8, .inl gta)), (mla, .inl (cI, 40, .inl gla)), (msl, .inl (cI, 40, .inl gsl)), (mco, .inl (cI, 3, .inl gco)), (to_, .inl (cI, 130, .inl (upd (upd (upd (upd (upd (upd (upd (upd q_18 (107 : Int32).toNatClampNeg npu) (108 : Int32).toNatClampNeg nte) (109 : Int32).toNatClampNeg nat_) (110 : Int32).toNatClampNeg nde) (111 : Int32).toNatClampNeg nto) (112 : Int32).toNatClampNeg nse) (113 : Int32).toNatClampNeg nhu) (114 : Int32).toNatClampNeg nga)))]) hP hD rfl
    clear hP hD
    obtain ⟨hP, hD⟩ := h9R
    refine lv_aload_n hx hb dX8_all_244 rfl (lv_at hl 2 rfl) ?_
    refine lv_iload_n hx hb dX8_all_245 rfl (lv_at hl 0 rfl) ?_
    refine lv_bipush (v := 8) hx hb dX8_all_246 (by decide) ?_
    refine lv_iadd hx hb dX8_all_248 ?_
    refine lv_topi (fun y_27 ey_27 => ?_)
    obtain rfl : y_27 = 115 := ey_27.trans (by decide)
    refine lv_aload_n hx hb dX8_all_249 rfl (lv_at hl 1 rfl) ?_
    refine va_get (D := D) (ci := 8) (v := .int nsd) (C := RX8) (T := TX8) (N := 38) hx hb hts hi_X8_all_8 hown hK hP 0 rfl rfl 8 (by decide) (hts (.fieldLink RX8 19 "TheLiningsInItModel" "seed" "I") (List.mem_of_getElem? (i := 15) rfl)) (fun _ h9 => h9) rfl dX8_all_250 ?_
    refine va_iast hx hb hK hP hD hS 7 0 rfl rfl (zf_in (by decide) (by decide)) dX8_all_253 (fun H locs hP hD hS => ?_)
    have h9R := zRe (ws' := [(zMO m0 npu nte nat_ nde nto nse nhu nga nsd nfa mrf mki mpa mta mla msl mco mhe mso msi msh mce mca mwo mnu mte nba npl nen nnu nwr mwa mke mma mth mtr nra nik), (mki, .inl (cI, 8, .inl gki)), (mpa, .inl (cI, 8, .inl gpa)), (mta, .inl (cI, 8, .inl gta)), (mla, .inl (cI, 40, .inl gla)), (msl, .inl (cI, 40, .inl gsl)), (mco, .inl (cI, 3, .inl gco)), (to_, .inl (cI, 130, .inl (upd (upd (upd (upd (upd (upd (upd (upd (upd q_18 (107 : Int32).toNatClampNeg npu) (108 : Int32).toNatClampNeg nte) (109 : Int32).toNatClampNeg nat_) (110 : Int32).toNatClampNeg nde) (111 : Int32).toNatClampNeg nto) (112 : Int32).toNatClampNeg nse) (113 : Int32).toNatClampNeg nhu) (114 : Int32).toNatClampNeg nga) (115 : Int32).toNatClampNeg nsd)))]) hP hD rfl
    clear hP hD
    obtain ⟨hP, hD⟩ := h9R
    exact W.vret hx hb hr (fun t ht hW => ⟨⟨(upd (upd (upd (upd (upd (upd (upd (upd (upd q_18 (107 : Int32).toNatClampNeg npu) (108 : Int32).toNatClampNeg nte) (109 : Int32).toNatClampNeg nat_) (110 : Int32).toNatClampNeg nde) (111 : Int32).toNatClampNeg nto) (112 : Int32).toNatClampNeg nse) (113 : Int32).toNatClampNeg nhu) (114 : Int32).toNatClampNeg nga) (115 : Int32).toNatClampNeg nsd), rfl, ⟨(show (∀ j : Nat, j < 116 → (upd (upd (upd (upd (upd (upd (upd (upd (upd q_18 (107 : Int32).toNatClampNeg npu) (108 : Int32).toNatClampNeg nte) (109 : Int32).toNatClampNeg nat_) (110 : Int32).toNatClampNeg nde) (111 : Int32).toNatClampNeg nto) (112 : Int32).toNatClampNeg nse) (113 : Int32).toNatClampNeg nhu) (114 : Int32).toNatClampNeg nga) (115 : Int32).toNatClampNeg nsd) j = zAll gki gpa gta gla gsl gco npu nte nat_ nde nto nse nhu nga nsd j) from by (intro j hj; have e107 : (107 : Int32).toNatClampNeg = 107 := (by decide); have e108 : (108 : Int32).toNatClampNeg = 108 := (by decide); have e109 : (109 : Int32).toNatClampNeg = 109 := (by decide); have e110 : (110 : Int32).toNatClampNeg = 110 := (by decide); have e111 : (111 : Int32).toNatClampNeg = 111 := (by decide); have e112 : (112 : Int32).toNatClampNeg = 112 := (by decide); have e113 : (113 : Int32).toNatClampNeg = 113 := (by decide); have e114 : (114 : Int32).toNatClampNeg = 114 := (by decide); have e115 : (115 : Int32).toNatClampNeg = 115 := (by decide); simp only [upd, e107, e108, e109, e110, e111, e112, e113, e114, e115, hsr_16_0, hsr_13_0, hsr_10_0, hsr_7_0, hsr_4_0, hsr_1_0, zCar]; unfold zAll; exact zseg hj (fun h1 => by ((repeat (first | rw [if_pos (by omega)] | rw [if_neg (by omega)])) <;> first | rfl | (congr 1; omega))) (fun g1 h2 => by ((repeat (first | rw [if_pos (by omega)] | rw [if_neg (by omega)])) <;> first | rfl | (congr 1; omega))) (fun g2 h3 => by ((repeat (first | rw [if_pos (by omega)] | rw [if_neg (by omega)])) <;> first | rfl | (congr 1; omega))) (fun g3 h4 => by ((repeat (first | rw [if_pos (by omega)] | rw [if_neg (by omega)])) <;> first | rfl | (congr 1; omega))) (fun g4 h5 => by ((repeat (first | rw [if_pos (by omega)] | rw [if_neg (by omega)])) <;> first | rfl | (congr 1; omega))) (fun g5 h6 => by ((repeat (first | rw [if_pos (by omega)] | rw [if_neg (by omega)])) <;> first | rfl | (congr 1; omega))) (fun h7 => by (rcases h7 with rfl | rfl | rfl | rfl | rfl | rfl | rfl | rfl | rfl <;> (simp))))), trivial⟩, zRet ht hP hD [0, 1, 2, 3, 4, 5, 6, 7] (by decide) rfl⟩, hS.F ht⟩) hS.2.2 dX8_all_254
  · exact absurd c_19 (by decide)
set_option maxHeartbeats 4000000 in
set_option maxRecDepth 100000 in
theorem c_M_all_b (l : Launch) (D : va_G) (cI cJ cZ cP cS : ClassId) (po : zPool) (m0 mrf mki mpa mta mla msl mco mhe mso msi msh mce mca mwo mnu mte mwa mke mma mth mtr : Nat) (npu nte nat_ nde nto nse nhu nga nsd nfa nba npl nen nnu nwr nra nik : Int32) (gki gpa gta gla gsl gco : Nat → Int32) (to_ : Nat) (ft : Nat → Int32) (hy0 : 0 ≤ npu.toInt) (hy1 : npu.toInt ≤ 8) (hy2 : 4 ≤ nte.toInt) (hy3 : nte.toInt ≤ 40) (hy4 : 0 ≤ nat_.toInt) (hy5 : nat_.toInt ≤ 40) (hy6 : 0 ≤ nde.toInt) (hy7 : nde.toInt ≤ 24) (hy8 : 0 ≤ nhu.toInt) (hy9 : nhu.toInt ≤ 9) (hy10 : 0 ≤ nra.toInt) (hy11 : nra.toInt ≤ 2000) (hy12 : 0 ≤ nik.toInt) (hy13 : nik.toInt ≤ 1) (hkp : zKp ft) (hp_gki : zRg gki (0) 6) (hp_gpa : zRg gpa (0) 9) (hp_gta : zRg gta (0) 60) (hp_gla : zRg gla (0) 1) (hp_gsl : zRg gsl (0) 9) (hp_gco : zRg gco (0) 99) (hpz : Nat) : Met l yX8_all wsX8_all ({ frames := 1, cells := 0, slots := 0, locals := 26 }) (va_Pc [.ref m0, .ref to_, .int 1] (zW D (zKT cI cJ cZ cP cS) po [(zMO m0 npu nte nat_ nde nto nse nhu nga nsd nfa mrf mki mpa mta mla msl mco mhe mso msi msh mce mca mwo mnu mte nba npl nen nnu nwr mwa mke mma mth mtr nra nik), (mki, .inl (cI, 8, .inl gki)), (mpa, .inl (cI, 8, .inl gpa)), (mta, .inl (cI, 8, .inl gta)), (mla, .inl (cI, 40, .inl gla)), (msl, .inl (cI, 40, .inl gsl)), (mco, .inl (cI, 3, .inl gco)), (to_, .inl (cI, 130, .inl ft))] hpz)) (va_Qv (fun (u : (Int32) × (Int32) × (Int32) × (Int32) × (Int32) × (Int32) × (Int32) × (Int32) × (Int32) × (Nat → Int32) × (Nat → Int32) × (Nat → Int32) × (Nat → Int32) × (Nat → Int32) × (Nat → Int32)) => (0 ≤ u.1.toInt ∧ u.1.toInt ≤ 8) ∧ (4 ≤ u.2.1.toInt ∧ u.2.1.toInt ≤ 40) ∧ (0 ≤ u.2.2.1.toInt ∧ u.2.2.1.toInt ≤ 40) ∧ (0 ≤ u.2.2.2.1.toInt ∧ u.2.2.2.1.toInt ≤ 24) ∧ (0 ≤ u.2.2.2.2.2.2.1.toInt ∧ u.2.2.2.2.2.2.1.toInt ≤ 9) ∧ zRg u.2.2.2.2.2.2.2.2.2.1 (0) 6 ∧ zRg u.2.2.2.2.2.2.2.2.2.2.1 (0) 9 ∧ zRg u.2.2.2.2.2.2.2.2.2.2.2.1 (0) 60 ∧ zRg u.2.2.2.2.2.2.2.2.2.2.2.2.1 (0) 1 ∧ zRg u.2.2.2.2.2.2.2.2.2.2.2.2.2.1 (0) 9 ∧ zRg u.2.2.2.2.2.2.2.2.2.2.2.2.2.2 (0) 99 ∧ ((∀ j : Nat, j < 8 → u.2.2.2.2.2.2.2.2.2.1 j = ft (0 + j))) ∧ ((∀ j : Nat, j < 8 → u.2.2.2.2.2.2.2.2.2.2.1 j = ft (8 + j))) ∧ ((∀ j : Nat, j < 8 → u.2.2.2.2.2.2.2.2.2.2.2.1 j = ft (16 + j))) ∧ ((∀ j : Nat, j < 40 → u.2.2.2.2.2.2.2.2.2.2.2.2.1 j = ft (24 + j))) ∧ ((∀ j : Nat, j < 40 → u.2.2.2.2.2.2.2.2.2.2.2.2.2.1 j = ft (64 + j))) ∧ ((∀ j : Nat, j < 3 → u.2.2.2.2.2.2.2.2.2.2.2.2.2.2 j = ft (104 + j))) ∧ ((u.1 = ft 107 ∧ u.2.1 = ft 108 ∧ u.2.2.1 = ft 109 ∧ u.2.2.2.1 = ft 110 ∧ u.2.2.2.2.1 = ft 111 ∧ u.2.2.2.2.2.1 = ft 112 ∧ u.2.2.2.2.2.2.1 = ft 113 ∧ u.2.2.2.2.2.2.2.1 = ft 114 ∧ u.2.2.2.2.2.2.2.2.1 = ft 115)) ∧ (True)) (zB D [(zMO m0 npu nte nat_ nde nto nse nhu nga nsd nfa mrf mki mpa mta mla msl mco mhe mso msi msh mce mca mwo mnu mte nba npl nen nnu nwr mwa mke mma mth mtr nra nik), (mki, .inl (cI, 8, .inl gki)), (mpa, .inl (cI, 8, .inl gpa)), (mta, .inl (cI, 8, .inl gta)), (mla, .inl (cI, 40, .inl gla)), (msl, .inl (cI, 40, .inl gsl)), (mco, .inl (cI, 3, .inl gco)), (to_, .inl (cI, 130, .inl ft))] hpz (fun (u : (Int32) × (Int32) × (Int32) × (Int32) × (Int32) × (Int32) × (Int32) × (Int32) × (Int32) × (Nat → Int32) × (Nat → Int32) × (Nat → Int32) × (Nat → Int32) × (Nat → Int32) × (Nat → Int32)) => [(zMO m0 u.1 u.2.1 u.2.2.1 u.2.2.2.1 u.2.2.2.2.1 u.2.2.2.2.2.1 u.2.2.2.2.2.2.1 u.2.2.2.2.2.2.2.1 u.2.2.2.2.2.2.2.2.1 nfa mrf mki mpa mta mla msl mco mhe mso msi msh mce mca mwo mnu mte nba npl nen nnu nwr mwa mke mma mth mtr nra nik), (mki, .inl (cI, 8, .inl u.2.2.2.2.2.2.2.2.2.1)), (mpa, .inl (cI, 8, .inl u.2.2.2.2.2.2.2.2.2.2.1)), (mta, .inl (cI, 8, .inl u.2.2.2.2.2.2.2.2.2.2.2.1)), (mla, .inl (cI, 40, .inl u.2.2.2.2.2.2.2.2.2.2.2.2.1)), (msl, .inl (cI, 40, .inl u.2.2.2.2.2.2.2.2.2.2.2.2.2.1)), (mco, .inl (cI, 3, .inl u.2.2.2.2.2.2.2.2.2.2.2.2.2.2)), (to_, .inl (cI, 130, .inl ft))])) (va_A [(zMO m0 npu nte nat_ nde nto nse nhu nga nsd nfa mrf mki mpa mta mla msl mco mhe mso msi msh mce mca mwo mnu mte nba npl nen nnu nwr mwa mke mma mth mtr nra nik), (mki, .inl (cI, 8, .inl gki)), (mpa, .inl (cI, 8, .inl gpa)), (mta, .inl (cI, 8, .inl gta)), (mla, .inl (cI, 40, .inl gla)), (msl, .inl (cI, 40, .inl gsl)), (mco, .inl (cI, 3, .inl gco)), (to_, .inl (cI, 130, .inl ft))] hpz)) 0 0 (va_A [(zMO m0 npu nte nat_ nde nto nse nhu nga nsd nfa mrf mki mpa mta mla msl mco mhe mso msi msh mce mca mwo mnu mte nba npl nen nnu nwr mwa mke mma mth mtr nra nik), (mki, .inl (cI, 8, .inl gki)), (mpa, .inl (cI, 8, .inl gpa)), (mta, .inl (cI, 8, .inl gta)), (mla, .inl (cI, 40, .inl gla)), (msl, .inl (cI, 40, .inl gsl)), (mco, .inl (cI, 3, .inl gco)), (to_, .inl (cI, 130, .inl ft))] hpz) := by
  refine Met.ofW (cc := cX8_all) (maxL := 4) (ret := none) (by decide) rfl ?_
  intro p e s m args below meth c s₁ B hml hv
  obtain ⟨rfl, hsz, hP, hK, hD0, hN, hZ⟩ := hv
  have hx := B.exec
  have hb := B.bytes
  have hr := B.returns
  have hts := atoms_spec (ws := wsX8_all) B.pre
  have hown : s.vm.findClass RX8 = some m.cls := findClass_of_methodNamed B.named
  have hlocks := B.notSynchronized
  subst hsz
  have hD := hD0.self (sz := s.heap.size)
  have hA := zA_of hD
  have hl := lv_entry ([.ref m0, .ref to_, .int 1]) (n := 4) (Nat.le_of_ble_eq_true rfl)
  rw [lg_entry_eq]
  generalize (lg_sl ([.ref m0, .ref to_, .int 1]) ++ List.replicate (4 - (lg_sl ([.ref m0, .ref to_, .int 1])).length) Slot.unset).toArray = ls at hl ⊢
  replace hl : lv_has ls 4 [(0, .ref m0), (1, .ref to_), (2, .int 1)] := hl
  refine zw_begin hP hD (fun H locs hP1 hS => ?_)
  clear hP
  have hP := hP1
  clear hP1
  refine lv_aload_n hx hb dX8_all_0 rfl (lv_at hl 0 rfl) ?_
  refine lv_aload_n hx hb dX8_all_1 rfl (lv_at hl 0 rfl) ?_
  refine va_get (D := D) (ci := 8) (v := .ref mki) (C := RX8) (T := TX8) (N := 38) hx hb hts hi_X8_all_8 hown hK hP 0 rfl rfl 11 (by decide) (hts (.fieldLink RX8 29 "TheLiningsInItModel" "kind" "[I") (List.mem_of_getElem? (i := 1) rfl)) (fun _ h9 => h9) rfl dX8_all_2 ?_
  refine lv_bipush (v := 8) hx hb dX8_all_5 (by decide) ?_
  refine lv_aload_n hx hb dX8_all_7 rfl (lv_at hl 1 rfl) ?_
  refine lv_iconst (v := 0) hx hb dX8_all_8 (by decide) ?_
  refine lv_iload_n hx hb dX8_all_9 rfl (lv_at hl 2 rfl) ?_
  skip
  refine zw_V (As := [.ref mki, .int 8, .ref to_, .int 0, .int 1]) (rest := []) (wr := [(zMO m0 npu nte nat_ nde nto nse nhu nga nsd nfa mrf mki mpa mta mla msl mco mhe mso msi msh mce mca mwo mnu mte nba npl nen nnu nwr mwa mke mma mth mtr nra nik), (mpa, .inl (cI, 8, .inl gpa)), (mta, .inl (cI, 8, .inl gta)), (mla, .inl (cI, 40, .inl gla)), (msl, .inl (cI, 40, .inl gsl)), (mco, .inl (cI, 3, .inl gco))]) ⟨hx, hb, hml, hown, hts⟩ (c_M_carb_8_0 l D cI cJ cZ cP cS po m0 mki to_ gki ft (fun j hj => by (have z := hkp (0 + j) (by omega); unfold zKl zKh at z; (repeat (first | rw [if_pos (show _ from by omega)] at z | rw [if_neg (show ¬ _ from by omega)] at z)); exact z)) hp_gki H.size) (cwV 5 hts gX8_all_X8_carries rfl rfl rfl ⟨rfl, dh_X8_carries⟩ ⟨Nat.le_of_ble_eq_true rfl, Nat.le_of_ble_eq_true rfl⟩) hK hN (hZ.kept hS) hP hD hS hA [1, 7] [0, 2, 3, 4, 5, 6] rfl rfl (by decide) (by decide) (by decide) (va_recv (q := (RX8, TX8, 38)) hK hP (ci := 8) (q0 := 0) rfl rfl) rfl hl.1 rfl (Nat.le_of_ble_eq_true rfl) dX8_all_10 ⟨Nat.le_of_ble_eq_true rfl, Nat.le_of_ble_eq_true rfl⟩ (fun r_1 u_2 H locs hr_1 hP hD hS => ?_)
  obtain ⟨q_3, rfl⟩ : ∃ z, z = u_2 := ⟨_, rfl⟩
  obtain ⟨hpq_3, hsr_1_0, hr_1⟩ := hr_1
  have h9R := zRe (ws' := [(zMO m0 npu nte nat_ nde nto nse nhu nga nsd nfa mrf mki mpa mta mla msl mco mhe mso msi msh mce mca mwo mnu mte nba npl nen nnu nwr mwa mke mma mth mtr nra nik), (mpa, .inl (cI, 8, .inl gpa)), (mta, .inl (cI, 8, .inl gta)), (mla, .inl (cI, 40, .inl gla)), (msl, .inl (cI, 40, .inl gsl)), (mco, .inl (cI, 3, .inl gco)), (mki, .inl (cI, 8, .inl q_3)), (to_, .inl (cI, 130, .inl ft))]) hP hD rfl
  clear hP hD
  obtain ⟨hP, hD⟩ := h9R
  obtain rfl := hr_1
  refine lv_istore_n (lv' := [(3, .int 8), (0, .ref m0), (1, .ref to_), (2, .int 1)]) hx hb dX8_all_13 rfl hl (by decide) rfl (fun ls hl => ?_)
  refine lv_aload_n hx hb dX8_all_14 rfl (lv_at hl 1 rfl) ?_
  refine lv_aload_n hx hb dX8_all_15 rfl (lv_at hl 1 rfl) ?_
  refine va_get (D := D) (ci := 8) (v := .ref mpa) (C := RX8) (T := TX8) (N := 38) hx hb hts hi_X8_all_8 hown hK hP 0 rfl rfl 12 (by decide) (hts (.fieldLink RX8 32 "TheLiningsInItModel" "part" "[I") (List.mem_of_getElem? (i := 2) rfl)) (fun _ h9 => h9) rfl dX8_all_16 ?_
  refine lv_bipush (v := 8) hx hb dX8_all_19 (by decide) ?_
  refine lv_aload_n hx hb dX8_all_21 rfl (lv_at hl 2 rfl) ?_
  refine lv_iload_n hx hb dX8_all_22 rfl (lv_at hl 0 rfl) ?_
  refine lv_iload_n hx hb dX8_all_23 rfl (lv_at hl 3 rfl) ?_
  skip
  refine zw_V (As := [.ref mpa, .int 8, .ref to_, .int 8, .int 1]) (rest := []) (wr := [(zMO m0 npu nte nat_ nde nto nse nhu nga nsd nfa mrf mki mpa mta mla msl mco mhe mso msi msh mce mca mwo mnu mte nba npl nen nnu nwr mwa mke mma mth mtr nra nik), (mta, .inl (cI, 8, .inl gta)), (mla, .inl (cI, 40, .inl gla)), (msl, .inl (cI, 40, .inl gsl)), (mco, .inl (cI, 3, .inl gco)), (mki, .inl (cI, 8, .inl q_3))]) ⟨hx, hb, hml, hown, hts⟩ (c_M_carb_8_8 l D cI cJ cZ cP cS po m0 mpa to_ gpa ft (fun j hj => by (have z := hkp (8 + j) (by omega); unfold zKl zKh at z; (repeat (first | rw [if_pos (show _ from by omega)] at z | rw [if_neg (show ¬ _ from by omega)] at z)); exact z)) hp_gpa H.size) (cwV 5 hts gX8_all_X8_carries rfl rfl rfl ⟨rfl, dh_X8_carries⟩ ⟨Nat.le_of_ble_eq_true rfl, Nat.le_of_ble_eq_true rfl⟩) hK hN (hZ.kept hS) hP hD hS hA [1, 7] [0, 2, 3, 4, 5, 6] rfl rfl (by decide) (by decide) (by decide) (va_recv (q := (RX8, TX8, 38)) hK hP (ci := 8) (q0 := 0) rfl rfl) rfl hl.1 rfl (Nat.le_of_ble_eq_true rfl) dX8_all_24 ⟨Nat.le_of_ble_eq_true rfl, Nat.le_of_ble_eq_true rfl⟩ (fun r_4 u_5 H locs hr_4 hP hD hS => ?_)
  obtain ⟨q_6, rfl⟩ : ∃ z, z = u_5 := ⟨_, rfl⟩
  obtain ⟨hpq_6, hsr_4_0, hr_4⟩ := hr_4
  have h9R := zRe (ws' := [(zMO m0 npu nte nat_ nde nto nse nhu nga nsd nfa mrf mki mpa mta mla msl mco mhe mso msi msh mce mca mwo mnu mte nba npl nen nnu nwr mwa mke mma mth mtr nra nik), (mta, .inl (cI, 8, .inl gta)), (mla, .inl (cI, 40, .inl gla)), (msl, .inl (cI, 40, .inl gsl)), (mco, .inl (cI, 3, .inl gco)), (mki, .inl (cI, 8, .inl q_3)), (mpa, .inl (cI, 8, .inl q_6)), (to_, .inl (cI, 130, .inl ft))]) hP hD rfl
  clear hP hD
  obtain ⟨hP, hD⟩ := h9R
  obtain rfl := hr_4
  refine lv_istore_n (lv' := [(3, .int 16), (0, .ref m0), (1, .ref to_), (2, .int 1)]) hx hb dX8_all_27 rfl hl (by decide) rfl (fun ls hl => ?_)
  refine lv_aload_n hx hb dX8_all_28 rfl (lv_at hl 1 rfl) ?_
  refine lv_aload_n hx hb dX8_all_29 rfl (lv_at hl 1 rfl) ?_
  refine va_get (D := D) (ci := 8) (v := .ref mta) (C := RX8) (T := TX8) (N := 38) hx hb hts hi_X8_all_8 hown hK hP 0 rfl rfl 13 (by decide) (hts (.fieldLink RX8 35 "TheLiningsInItModel" "takes" "[I") (List.mem_of_getElem? (i := 3) rfl)) (fun _ h9 => h9) rfl dX8_all_30 ?_
  refine lv_bipush (v := 8) hx hb dX8_all_33 (by decide) ?_
  refine lv_aload_n hx hb dX8_all_35 rfl (lv_at hl 2 rfl) ?_
  refine lv_iload_n hx hb dX8_all_36 rfl (lv_at hl 0 rfl) ?_
  refine lv_iload_n hx hb dX8_all_37 rfl (lv_at hl 3 rfl) ?_
  skip
  refine zw_V (As := [.ref mta, .int 8, .ref to_, .int 16, .int 1]) (rest := []) (wr := [(zMO m0 npu nte nat_ nde nto nse nhu nga nsd nfa mrf mki mpa mta mla msl mco mhe mso msi msh mce mca mwo mnu mte nba npl nen nnu nwr mwa mke mma mth mtr nra nik), (mla, .inl (cI, 40, .inl gla)), (msl, .inl (cI, 40, .inl gsl)), (mco, .inl (cI, 3, .inl gco)), (mki, .inl (cI, 8, .inl q_3)), (mpa, .inl (cI, 8, .inl q_6))]) ⟨hx, hb, hml, hown, hts⟩ (c_M_carb_8_16 l D cI cJ cZ cP cS po m0 mta to_ gta ft (fun j hj => by (have z := hkp (16 + j) (by omega); unfold zKl zKh at z; (repeat (first | rw [if_pos (show _ from by omega)] at z | rw [if_neg (show ¬ _ from by omega)] at z)); exact z)) hp_gta H.size) (cwV 5 hts gX8_all_X8_carries rfl rfl rfl ⟨rfl, dh_X8_carries⟩ ⟨Nat.le_of_ble_eq_true rfl, Nat.le_of_ble_eq_true rfl⟩) hK hN (hZ.kept hS) hP hD hS hA [1, 7] [0, 2, 3, 4, 5, 6] rfl rfl (by decide) (by decide) (by decide) (va_recv (q := (RX8, TX8, 38)) hK hP (ci := 8) (q0 := 0) rfl rfl) rfl hl.1 rfl (Nat.le_of_ble_eq_true rfl) dX8_all_38 ⟨Nat.le_of_ble_eq_true rfl, Nat.le_of_ble_eq_true rfl⟩ (fun r_7 u_8 H locs hr_7 hP hD hS => ?_)
  obtain ⟨q_9, rfl⟩ : ∃ z, z = u_8 := ⟨_, rfl⟩
  obtain ⟨hpq_9, hsr_7_0, hr_7⟩ := hr_7
  have h9R := zRe (ws' := [(zMO m0 npu nte nat_ nde nto nse nhu nga nsd nfa mrf mki mpa mta mla msl mco mhe mso msi msh mce mca mwo mnu mte nba npl nen nnu nwr mwa mke mma mth mtr nra nik), (mla, .inl (cI, 40, .inl gla)), (msl, .inl (cI, 40, .inl gsl)), (mco, .inl (cI, 3, .inl gco)), (mki, .inl (cI, 8, .inl q_3)), (mpa, .inl (cI, 8, .inl q_6)), (mta, .inl (cI, 8, .inl q_9)), (to_, .inl (cI, 130, .inl ft))]) hP hD rfl
  clear hP hD
  obtain ⟨hP, hD⟩ := h9R
  obtain rfl := hr_7
  refine lv_istore_n (lv' := [(3, .int 24), (0, .ref m0), (1, .ref to_), (2, .int 1)]) hx hb dX8_all_41 rfl hl (by decide) rfl (fun ls hl => ?_)
  refine lv_aload_n hx hb dX8_all_42 rfl (lv_at hl 1 rfl) ?_
  refine lv_aload_n hx hb dX8_all_43 rfl (lv_at hl 1 rfl) ?_
  refine va_get (D := D) (ci := 8) (v := .ref mla) (C := RX8) (T := TX8) (N := 38) hx hb hts hi_X8_all_8 hown hK hP 0 rfl rfl 14 (by decide) (hts (.fieldLink RX8 38 "TheLiningsInItModel" "lacks" "[I") (List.mem_of_getElem? (i := 4) rfl)) (fun _ h9 => h9) rfl dX8_all_44 ?_
  refine lv_bipush (v := 40) hx hb dX8_all_47 (by decide) ?_
  refine lv_aload_n hx hb dX8_all_49 rfl (lv_at hl 2 rfl) ?_
  refine lv_iload_n hx hb dX8_all_50 rfl (lv_at hl 0 rfl) ?_
  refine lv_iload_n hx hb dX8_all_51 rfl (lv_at hl 3 rfl) ?_
  skip
  refine zw_V (As := [.ref mla, .int 40, .ref to_, .int 24, .int 1]) (rest := []) (wr := [(zMO m0 npu nte nat_ nde nto nse nhu nga nsd nfa mrf mki mpa mta mla msl mco mhe mso msi msh mce mca mwo mnu mte nba npl nen nnu nwr mwa mke mma mth mtr nra nik), (msl, .inl (cI, 40, .inl gsl)), (mco, .inl (cI, 3, .inl gco)), (mki, .inl (cI, 8, .inl q_3)), (mpa, .inl (cI, 8, .inl q_6)), (mta, .inl (cI, 8, .inl q_9))]) ⟨hx, hb, hml, hown, hts⟩ (c_M_carb_40_24 l D cI cJ cZ cP cS po m0 mla to_ gla ft (fun j hj => by (have z := hkp (24 + j) (by omega); unfold zKl zKh at z; (repeat (first | rw [if_pos (show _ from by omega)] at z | rw [if_neg (show ¬ _ from by omega)] at z)); exact z)) hp_gla H.size) (cwV 5 hts gX8_all_X8_carries rfl rfl rfl ⟨rfl, dh_X8_carries⟩ ⟨Nat.le_of_ble_eq_true rfl, Nat.le_of_ble_eq_true rfl⟩) hK hN (hZ.kept hS) hP hD hS hA [1, 7] [0, 2, 3, 4, 5, 6] rfl rfl (by decide) (by decide) (by decide) (va_recv (q := (RX8, TX8, 38)) hK hP (ci := 8) (q0 := 0) rfl rfl) rfl hl.1 rfl (Nat.le_of_ble_eq_true rfl) dX8_all_52 ⟨Nat.le_of_ble_eq_true rfl, Nat.le_of_ble_eq_true rfl⟩ (fun r_10 u_11 H locs hr_10 hP hD hS => ?_)
  obtain ⟨q_12, rfl⟩ : ∃ z, z = u_11 := ⟨_, rfl⟩
  obtain ⟨hpq_12, hsr_10_0, hr_10⟩ := hr_10
  have h9R := zRe (ws' := [(zMO m0 npu nte nat_ nde nto nse nhu nga nsd nfa mrf mki mpa mta mla msl mco mhe mso msi msh mce mca mwo mnu mte nba npl nen nnu nwr mwa mke mma mth mtr nra nik), (msl, .inl (cI, 40, .inl gsl)), (mco, .inl (cI, 3, .inl gco)), (mki, .inl (cI, 8, .inl q_3)), (mpa, .inl (cI, 8, .inl q_6)), (mta, .inl (cI, 8, .inl q_9)), (mla, .inl (cI, 40, .inl q_12)), (to_, .inl (cI, 130, .inl ft))]) hP hD rfl
  clear hP hD
  obtain ⟨hP, hD⟩ := h9R
  obtain rfl := hr_10
  refine lv_istore_n (lv' := [(3, .int 64), (0, .ref m0), (1, .ref to_), (2, .int 1)]) hx hb dX8_all_55 rfl hl (by decide) rfl (fun ls hl => ?_)
  refine lv_aload_n hx hb dX8_all_56 rfl (lv_at hl 1 rfl) ?_
  refine lv_aload_n hx hb dX8_all_57 rfl (lv_at hl 1 rfl) ?_
  refine va_get (D := D) (ci := 8) (v := .ref msl) (C := RX8) (T := TX8) (N := 38) hx hb hts hi_X8_all_8 hown hK hP 0 rfl rfl 15 (by decide) (hts (.fieldLink RX8 41 "TheLiningsInItModel" "slack" "[I") (List.mem_of_getElem? (i := 5) rfl)) (fun _ h9 => h9) rfl dX8_all_58 ?_
  refine lv_bipush (v := 40) hx hb dX8_all_61 (by decide) ?_
  refine lv_aload_n hx hb dX8_all_63 rfl (lv_at hl 2 rfl) ?_
  refine lv_iload_n hx hb dX8_all_64 rfl (lv_at hl 0 rfl) ?_
  refine lv_iload_n hx hb dX8_all_65 rfl (lv_at hl 3 rfl) ?_
  skip
  refine zw_V (As := [.ref msl, .int 40, .ref to_, .int 64, .int 1]) (rest := []) (wr := [(zMO m0 npu nte nat_ nde nto nse nhu nga nsd nfa mrf mki mpa mta mla msl mco mhe mso msi msh mce mca mwo mnu mte nba npl nen nnu nwr mwa mke mma mth mtr nra nik), (mco, .inl (cI, 3, .inl gco)), (mki, .inl (cI, 8, .inl q_3)), (mpa, .inl (cI, 8, .inl q_6)), (mta, .inl (cI, 8, .inl q_9)), (mla, .inl (cI, 40, .inl q_12))]) ⟨hx, hb, hml, hown, hts⟩ (c_M_carb_40_64 l D cI cJ cZ cP cS po m0 msl to_ gsl ft (fun j hj => by (have z := hkp (64 + j) (by omega); unfold zKl zKh at z; (repeat (first | rw [if_pos (show _ from by omega)] at z | rw [if_neg (show ¬ _ from by omega)] at z)); exact z)) hp_gsl H.size) (cwV 5 hts gX8_all_X8_carries rfl rfl rfl ⟨rfl, dh_X8_carries⟩ ⟨Nat.le_of_ble_eq_true rfl, Nat.le_of_ble_eq_true rfl⟩) hK hN (hZ.kept hS) hP hD hS hA [1, 7] [0, 2, 3, 4, 5, 6] rfl rfl (by decide) (by decide) (by decide) (va_recv (q := (RX8, TX8, 38)) hK hP (ci := 8) (q0 := 0) rfl rfl) rfl hl.1 rfl (Nat.le_of_ble_eq_true rfl) dX8_all_66 ⟨Nat.le_of_ble_eq_true rfl, Nat.le_of_ble_eq_true rfl⟩ (fun r_13 u_14 H locs hr_13 hP hD hS => ?_)
  obtain ⟨q_15, rfl⟩ : ∃ z, z = u_14 := ⟨_, rfl⟩
  obtain ⟨hpq_15, hsr_13_0, hr_13⟩ := hr_13
  have h9R := zRe (ws' := [(zMO m0 npu nte nat_ nde nto nse nhu nga nsd nfa mrf mki mpa mta mla msl mco mhe mso msi msh mce mca mwo mnu mte nba npl nen nnu nwr mwa mke mma mth mtr nra nik), (mco, .inl (cI, 3, .inl gco)), (mki, .inl (cI, 8, .inl q_3)), (mpa, .inl (cI, 8, .inl q_6)), (mta, .inl (cI, 8, .inl q_9)), (mla, .inl (cI, 40, .inl q_12)), (msl, .inl (cI, 40, .inl q_15)), (to_, .inl (cI, 130, .inl ft))]) hP hD rfl
  clear hP hD
  obtain ⟨hP, hD⟩ := h9R
  obtain rfl := hr_13
  refine lv_istore_n (lv' := [(3, .int 104), (0, .ref m0), (1, .ref to_), (2, .int 1)]) hx hb dX8_all_69 rfl hl (by decide) rfl (fun ls hl => ?_)
  refine lv_aload_n hx hb dX8_all_70 rfl (lv_at hl 1 rfl) ?_
  refine lv_aload_n hx hb dX8_all_71 rfl (lv_at hl 1 rfl) ?_
  refine va_get (D := D) (ci := 8) (v := .ref mco) (C := RX8) (T := TX8) (N := 38) hx hb hts hi_X8_all_8 hown hK hP 0 rfl rfl 16 (by decide) (hts (.fieldLink RX8 44 "TheLiningsInItModel" "cost" "[I") (List.mem_of_getElem? (i := 6) rfl)) (fun _ h9 => h9) rfl dX8_all_72 ?_
  refine lv_iconst (v := 3) hx hb dX8_all_75 (by decide) ?_
  refine lv_aload_n hx hb dX8_all_76 rfl (lv_at hl 2 rfl) ?_
  refine lv_iload_n hx hb dX8_all_77 rfl (lv_at hl 0 rfl) ?_
  refine lv_iload_n hx hb dX8_all_78 rfl (lv_at hl 3 rfl) ?_
  skip
  refine zw_V (As := [.ref mco, .int 3, .ref to_, .int 104, .int 1]) (rest := []) (wr := [(zMO m0 npu nte nat_ nde nto nse nhu nga nsd nfa mrf mki mpa mta mla msl mco mhe mso msi msh mce mca mwo mnu mte nba npl nen nnu nwr mwa mke mma mth mtr nra nik), (mki, .inl (cI, 8, .inl q_3)), (mpa, .inl (cI, 8, .inl q_6)), (mta, .inl (cI, 8, .inl q_9)), (mla, .inl (cI, 40, .inl q_12)), (msl, .inl (cI, 40, .inl q_15))]) ⟨hx, hb, hml, hown, hts⟩ (c_M_carb_3_104 l D cI cJ cZ cP cS po m0 mco to_ gco ft (fun j hj => by (have z := hkp (104 + j) (by omega); unfold zKl zKh at z; (repeat (first | rw [if_pos (show _ from by omega)] at z | rw [if_neg (show ¬ _ from by omega)] at z)); exact z)) hp_gco H.size) (cwV 5 hts gX8_all_X8_carries rfl rfl rfl ⟨rfl, dh_X8_carries⟩ ⟨Nat.le_of_ble_eq_true rfl, Nat.le_of_ble_eq_true rfl⟩) hK hN (hZ.kept hS) hP hD hS hA [1, 7] [0, 2, 3, 4, 5, 6] rfl rfl (by decide) (by decide) (by decide) (va_recv (q := (RX8, TX8, 38)) hK hP (ci := 8) (q0 := 0) rfl rfl) rfl hl.1 rfl (Nat.le_of_ble_eq_true rfl) dX8_all_79 ⟨Nat.le_of_ble_eq_true rfl, Nat.le_of_ble_eq_true rfl⟩ (fun r_16 u_17 H locs hr_16 hP hD hS => ?_)
  obtain ⟨q_18, rfl⟩ : ∃ z, z = u_17 := ⟨_, rfl⟩
  obtain ⟨hpq_18, hsr_16_0, hr_16⟩ := hr_16
  have h9R := zRe (ws' := [(zMO m0 npu nte nat_ nde nto nse nhu nga nsd nfa mrf mki mpa mta mla msl mco mhe mso msi msh mce mca mwo mnu mte nba npl nen nnu nwr mwa mke mma mth mtr nra nik), (mki, .inl (cI, 8, .inl q_3)), (mpa, .inl (cI, 8, .inl q_6)), (mta, .inl (cI, 8, .inl q_9)), (mla, .inl (cI, 40, .inl q_12)), (msl, .inl (cI, 40, .inl q_15)), (mco, .inl (cI, 3, .inl q_18)), (to_, .inl (cI, 130, .inl ft))]) hP hD rfl
  clear hP hD
  obtain ⟨hP, hD⟩ := h9R
  obtain rfl := hr_16
  refine lv_istore_n (lv' := [(3, .int 107), (0, .ref m0), (1, .ref to_), (2, .int 1)]) hx hb dX8_all_82 rfl hl (by decide) rfl (fun ls hl => ?_)
  refine lv_iload_n hx hb dX8_all_83 rfl (lv_at hl 3 rfl) ?_
  refine lv_if_eq (tgt := 172) hx hb dX8_all_84 (by decide) (fun c_19 => ?_) (fun c_19 => ?_)
  · exact absurd c_19 (by decide)
  · refine lv_aload_n hx hb dX8_all_87 rfl (lv_at hl 1 rfl) ?_
    refine lv_aload_n hx hb dX8_all_88 rfl (lv_at hl 2 rfl) ?_
    refine lv_iload_n hx hb dX8_all_89 rfl (lv_at hl 0 rfl) ?_
    refine va_iald hx hb hK hP 7 0 rfl rfl (zf_in (by decide) (by decide)) dX8_all_90 ?_
    refine lv_topi (fun x_20 ex_20 => ?_)
    have bx_20 : 0 ≤ x_20.toInt ∧ x_20.toInt ≤ 8 := by rw [ex_20, show (107 : Int32).toNatClampNeg = 107 from by decide]; exact hkp 107 (by decide)
    refine va_put (D := D) (ci := 8) (v := .int x_20) (ty := .int) (C := RX8) (T := TX8) (N := 38) hx hb hts hi_X8_all_8 tyX8 tyX8_ok nmX8 hown hK hP hD hS 0 rfl rfl 0 (by decide) (hts (.fieldLink RX8 90 "TheLiningsInItModel" "pulls" "I") (List.mem_of_getElem? (i := 7) rfl)) (fun _ h9 => h9) rfl (tyX8_ok 0 (Nat.le_of_ble_eq_true rfl)) rfl rfl (Nat.le_of_ble_eq_true rfl) dX8_all_91 (fun H locs hP hD hS => ?_)
    have h9R := zRe (ws' := [(zMO m0 x_20 nte nat_ nde nto nse nhu nga nsd nfa mrf mki mpa mta mla msl mco mhe mso msi msh mce mca mwo mnu mte nba npl nen nnu nwr mwa mke mma mth mtr nra nik), (mki, .inl (cI, 8, .inl q_3)), (mpa, .inl (cI, 8, .inl q_6)), (mta, .inl (cI, 8, .inl q_9)), (mla, .inl (cI, 40, .inl q_12)), (msl, .inl (cI, 40, .inl q_15)), (mco, .inl (cI, 3, .inl q_18)), (to_, .inl (cI, 130, .inl ft))]) hP hD rfl
    clear hP hD
    obtain ⟨hP, hD⟩ := h9R
    refine lv_aload_n hx hb dX8_all_94 rfl (lv_at hl 1 rfl) ?_
    refine lv_aload_n hx hb dX8_all_95 rfl (lv_at hl 2 rfl) ?_
    refine lv_iload_n hx hb dX8_all_96 rfl (lv_at hl 0 rfl) ?_
    refine lv_iconst (v := 1) hx hb dX8_all_97 (by decide) ?_
    refine lv_iadd hx hb dX8_all_98 ?_
    refine lv_topi (fun y_21 ey_21 => ?_)
    obtain rfl : y_21 = 108 := ey_21.trans (by decide)
    refine va_iald hx hb hK hP 7 0 rfl rfl (zf_in (by decide) (by decide)) dX8_all_99 ?_
    refine lv_topi (fun x_22 ex_22 => ?_)
    have bx_22 : 4 ≤ x_22.toInt ∧ x_22.toInt ≤ 40 := by rw [ex_22, show (108 : Int32).toNatClampNeg = 108 from by decide]; exact hkp 108 (by decide)
    refine va_put (D := D) (ci := 8) (v := .int x_22) (ty := .int) (C := RX8) (T := TX8) (N := 38) hx hb hts hi_X8_all_8 tyX8 tyX8_ok nmX8 hown hK hP hD hS 0 rfl rfl 1 (by decide) (hts (.fieldLink RX8 7 "TheLiningsInItModel" "teeth" "I") (List.mem_of_getElem? (i := 8) rfl)) (fun _ h9 => h9) rfl (tyX8_ok 1 (Nat.le_of_ble_eq_true rfl)) rfl rfl (Nat.le_of_ble_eq_true rfl) dX8_all_100 (fun H locs hP hD hS => ?_)
    have h9R := zRe (ws' := [(zMO m0 x_20 x_22 nat_ nde nto nse nhu nga nsd nfa mrf mki mpa mta mla msl mco mhe mso msi msh mce mca mwo mnu mte nba npl nen nnu nwr mwa mke mma mth mtr nra nik), (mki, .inl (cI, 8, .inl q_3)), (mpa, .inl (cI, 8, .inl q_6)), (mta, .inl (cI, 8, .inl q_9)), (mla, .inl (cI, 40, .inl q_12)), (msl, .inl (cI, 40, .inl q_15)), (mco, .inl (cI, 3, .inl q_18)), (to_, .inl (cI, 130, .inl ft))]) hP hD rfl
    clear hP hD
    obtain ⟨hP, hD⟩ := h9R
    refine lv_aload_n hx hb dX8_all_103 rfl (lv_at hl 1 rfl) ?_
    refine lv_aload_n hx hb dX8_all_104 rfl (lv_at hl 2 rfl) ?_
    refine lv_iload_n hx hb dX8_all_105 rfl (lv_at hl 0 rfl) ?_
    refine lv_iconst (v := 2) hx hb dX8_all_106 (by decide) ?_
    refine lv_iadd hx hb dX8_all_107 ?_
    refine lv_topi (fun y_23 ey_23 => ?_)
    obtain rfl : y_23 = 109 := ey_23.trans (by decide)
    refine va_iald hx hb hK hP 7 0 rfl rfl (zf_in (by decide) (by decide)) dX8_all_108 ?_
    refine lv_topi (fun x_24 ex_24 => ?_)
    have bx_24 : 0 ≤ x_24.toInt ∧ x_24.toInt ≤ 40 := by rw [ex_24, show (109 : Int32).toNatClampNeg = 109 from by decide]; exact hkp 109 (by decide)
    refine va_put (D := D) (ci := 8) (v := .int x_24) (ty := .int) (C := RX8) (T := TX8) (N := 38) hx hb hts hi_X8_all_8 tyX8 tyX8_ok nmX8 hown hK hP hD hS 0 rfl rfl 2 (by decide) (hts (.fieldLink RX8 122 "TheLiningsInItModel" "at" "I") (List.mem_of_getElem? (i := 9) rfl)) (fun _ h9 => h9) rfl (tyX8_ok 2 (Nat.le_of_ble_eq_true rfl)) rfl rfl (Nat.le_of_ble_eq_true rfl) dX8_all_109 (fun H locs hP hD hS => ?_)
    have h9R := zRe (ws' := [(zMO m0 x_20 x_22 x_24 nde nto nse nhu nga nsd nfa mrf mki mpa mta mla msl mco mhe mso msi msh mce mca mwo mnu mte nba npl nen nnu nwr mwa mke mma mth mtr nra nik), (mki, .inl (cI, 8, .inl q_3)), (mpa, .inl (cI, 8, .inl q_6)), (mta, .inl (cI, 8, .inl q_9)), (mla, .inl (cI, 40, .inl q_12)), (msl, .inl (cI, 40, .inl q_15)), (mco, .inl (cI, 3, .inl q_18)), (to_, .inl (cI, 130, .inl ft))]) hP hD rfl
    clear hP hD
    obtain ⟨hP, hD⟩ := h9R
    refine lv_aload_n hx hb dX8_all_112 rfl (lv_at hl 1 rfl) ?_
    refine lv_aload_n hx hb dX8_all_113 rfl (lv_at hl 2 rfl) ?_
    refine lv_iload_n hx hb dX8_all_114 rfl (lv_at hl 0 rfl) ?_
    refine lv_iconst (v := 3) hx hb dX8_all_115 (by decide) ?_
    refine lv_iadd hx hb dX8_all_116 ?_
    refine lv_topi (fun y_25 ey_25 => ?_)
    obtain rfl : y_25 = 110 := ey_25.trans (by decide)
    refine va_iald hx hb hK hP 7 0 rfl rfl (zf_in (by decide) (by decide)) dX8_all_117 ?_
    refine lv_topi (fun x_26 ex_26 => ?_)
    have bx_26 : 0 ≤ x_26.toInt ∧ x_26.toInt ≤ 24 := by rw [ex_26, show (110 : Int32).toNatClampNeg = 110 from by decide]; exact hkp 110 (by decide)
    refine va_put (D := D) (ci := 8) (v := .int x_26) (ty := .int) (C := RX8) (T := TX8) (N := 38) hx hb hts hi_X8_all_8 tyX8 tyX8_ok nmX8 hown hK hP hD hS 0 rfl rfl 3 (by decide) (hts (.fieldLink RX8 115 "TheLiningsInItModel" "depth" "I") (List.mem_of_getElem? (i := 10) rfl)) (fun _ h9 => h9) rfl (tyX8_ok 3 (Nat.le_of_ble_eq_true rfl)) rfl rfl (Nat.le_of_ble_eq_true rfl) dX8_all_118 (fun H locs hP hD hS => ?_)
    have h9R := zRe (ws' := [(zMO m0 x_20 x_22 x_24 x_26 nto nse nhu nga nsd nfa mrf mki mpa mta mla msl mco mhe mso msi msh mce mca mwo mnu mte nba npl nen nnu nwr mwa mke mma mth mtr nra nik), (mki, .inl (cI, 8, .inl q_3)), (mpa, .inl (cI, 8, .inl q_6)), (mta, .inl (cI, 8, .inl q_9)), (mla, .inl (cI, 40, .inl q_12)), (msl, .inl (cI, 40, .inl q_15)), (mco, .inl (cI, 3, .inl q_18)), (to_, .inl (cI, 130, .inl ft))]) hP hD rfl
    clear hP hD
    obtain ⟨hP, hD⟩ := h9R
    refine lv_aload_n hx hb dX8_all_121 rfl (lv_at hl 1 rfl) ?_
    refine lv_aload_n hx hb dX8_all_122 rfl (lv_at hl 2 rfl) ?_
    refine lv_iload_n hx hb dX8_all_123 rfl (lv_at hl 0 rfl) ?_
    refine lv_iconst (v := 4) hx hb dX8_all_124 (by decide) ?_
    refine lv_iadd hx hb dX8_all_125 ?_
    refine lv_topi (fun y_27 ey_27 => ?_)
    obtain rfl : y_27 = 111 := ey_27.trans (by decide)
    refine va_iald hx hb hK hP 7 0 rfl rfl (zf_in (by decide) (by decide)) dX8_all_126 ?_
    refine lv_topi (fun x_28 ex_28 => ?_)
    have bx_28 : -2147483648 ≤ x_28.toInt ∧ x_28.toInt ≤ 2147483647 := by rw [ex_28, show (111 : Int32).toNatClampNeg = 111 from by decide]; exact hkp 111 (by decide)
    refine va_put (D := D) (ci := 8) (v := .int x_28) (ty := .int) (C := RX8) (T := TX8) (N := 38) hx hb hts hi_X8_all_8 tyX8 tyX8_ok nmX8 hown hK hP hD hS 0 rfl rfl 4 (by decide) (hts (.fieldLink RX8 188 "TheLiningsInItModel" "torn" "I") (List.mem_of_getElem? (i := 11) rfl)) (fun _ h9 => h9) rfl (tyX8_ok 4 (Nat.le_of_ble_eq_true rfl)) rfl rfl (Nat.le_of_ble_eq_true rfl) dX8_all_127 (fun H locs hP hD hS => ?_)
    have h9R := zRe (ws' := [(zMO m0 x_20 x_22 x_24 x_26 x_28 nse nhu nga nsd nfa mrf mki mpa mta mla msl mco mhe mso msi msh mce mca mwo mnu mte nba npl nen nnu nwr mwa mke mma mth mtr nra nik), (mki, .inl (cI, 8, .inl q_3)), (mpa, .inl (cI, 8, .inl q_6)), (mta, .inl (cI, 8, .inl q_9)), (mla, .inl (cI, 40, .inl q_12)), (msl, .inl (cI, 40, .inl q_15)), (mco, .inl (cI, 3, .inl q_18)), (to_, .inl (cI, 130, .inl ft))]) hP hD rfl
    clear hP hD
    obtain ⟨hP, hD⟩ := h9R
    refine lv_aload_n hx hb dX8_all_130 rfl (lv_at hl 1 rfl) ?_
    refine lv_aload_n hx hb dX8_all_131 rfl (lv_at hl 2 rfl) ?_
    refine lv_iload_n hx hb dX8_all_132 rfl (lv_at hl 0 rfl) ?_
    refine lv_iconst (v := 5) hx hb dX8_all_133 (by decide) ?_
    refine lv_iadd hx hb dX8_all_134 ?_
    refine lv_topi (fun y_29 ey_29 => ?_)
    obtain rfl : y_29 = 112 := ey_29.trans (by decide)
    refine va_iald hx hb hK hP 7 0 rfl rfl (zf_in (by decide) (by decide)) dX8_all_135 ?_
    refine lv_topi (fun x_30 ex_30 => ?_)
    have bx_30 : -2147483648 ≤ x_30.toInt ∧ x_30.toInt ≤ 2147483647 := by rw [ex_30, show (112 : Int32).toNatClampNeg = 112 from by decide]; exact hkp 112 (by decide)
    refine va_put (D := D) (ci := 8) (v := .int x_30) (ty := .int) (C := RX8) (T := TX8) (N := 38) hx hb hts hi_X8_all_8 tyX8 tyX8_ok nmX8 hown hK hP hD hS 0 rfl rfl 5 (by decide) (hts (.fieldLink RX8 13 "TheLiningsInItModel" "seconds" "I") (List.mem_of_getElem? (i := 12) rfl)) (fun _ h9 => h9) rfl (tyX8_ok 5 (Nat.le_of_ble_eq_true rfl)) rfl rfl (Nat.le_of_ble_eq_true rfl) dX8_all_136 (fun H locs hP hD hS => ?_)
    have h9R := zRe (ws' := [(zMO m0 x_20 x_22 x_24 x_26 x_28 x_30 nhu nga nsd nfa mrf mki mpa mta mla msl mco mhe mso msi msh mce mca mwo mnu mte nba npl nen nnu nwr mwa mke mma mth mtr nra nik), (mki, .inl (cI, 8, .inl q_3)), (mpa, .inl (cI, 8, .inl q_6)), (mta, .inl (cI, 8, .inl q_9)), (mla, .inl (cI, 40, .inl q_12)), (msl, .inl (cI, 40, .inl q_15)), (mco, .inl (cI, 3, .inl q_18)), (to_, .inl (cI, 130, .inl ft))]) hP hD rfl
    clear hP hD
    obtain ⟨hP, hD⟩ := h9R
    refine lv_aload_n hx hb dX8_all_139 rfl (lv_at hl 1 rfl) ?_
    refine lv_aload_n hx hb dX8_all_140 rfl (lv_at hl 2 rfl) ?_
    refine lv_iload_n hx hb dX8_all_141 rfl (lv_at hl 0 rfl) ?_
    refine lv_bipush (v := 6) hx hb dX8_all_142 (by decide) ?_
    refine lv_iadd hx hb dX8_all_144 ?_
    refine lv_topi (fun y_31 ey_31 => ?_)
    obtain rfl : y_31 = 113 := ey_31.trans (by decide)
    refine va_iald hx hb hK hP 7 0 rfl rfl (zf_in (by decide) (by decide)) dX8_all_145 ?_
    refine lv_topi (fun x_32 ex_32 => ?_)
    have bx_32 : 0 ≤ x_32.toInt ∧ x_32.toInt ≤ 9 := by rw [ex_32, show (113 : Int32).toNatClampNeg = 113 from by decide]; exact hkp 113 (by decide)
    refine va_put (D := D) (ci := 8) (v := .int x_32) (ty := .int) (C := RX8) (T := TX8) (N := 38) hx hb hts hi_X8_all_8 tyX8 tyX8_ok nmX8 hown hK hP hD hS 0 rfl rfl 6 (by decide) (hts (.fieldLink RX8 135 "TheLiningsInItModel" "hurry" "I") (List.mem_of_getElem? (i := 13) rfl)) (fun _ h9 => h9) rfl (tyX8_ok 6 (Nat.le_of_ble_eq_true rfl)) rfl rfl (Nat.le_of_ble_eq_true rfl) dX8_all_146 (fun H locs hP hD hS => ?_)
    have h9R := zRe (ws' := [(zMO m0 x_20 x_22 x_24 x_26 x_28 x_30 x_32 nga nsd nfa mrf mki mpa mta mla msl mco mhe mso msi msh mce mca mwo mnu mte nba npl nen nnu nwr mwa mke mma mth mtr nra nik), (mki, .inl (cI, 8, .inl q_3)), (mpa, .inl (cI, 8, .inl q_6)), (mta, .inl (cI, 8, .inl q_9)), (mla, .inl (cI, 40, .inl q_12)), (msl, .inl (cI, 40, .inl q_15)), (mco, .inl (cI, 3, .inl q_18)), (to_, .inl (cI, 130, .inl ft))]) hP hD rfl
    clear hP hD
    obtain ⟨hP, hD⟩ := h9R
    refine lv_aload_n hx hb dX8_all_149 rfl (lv_at hl 1 rfl) ?_
    refine lv_aload_n hx hb dX8_all_150 rfl (lv_at hl 2 rfl) ?_
    refine lv_iload_n hx hb dX8_all_151 rfl (lv_at hl 0 rfl) ?_
    refine lv_bipush (v := 7) hx hb dX8_all_152 (by decide) ?_
    refine lv_iadd hx hb dX8_all_154 ?_
    refine lv_topi (fun y_33 ey_33 => ?_)
    obtain rfl : y_33 = 114 := ey_33.trans (by decide)
    refine va_iald hx hb hK hP 7 0 rfl rfl (zf_in (by decide) (by decide)) dX8_all_155 ?_
    refine lv_topi (fun x_34 ex_34 => ?_)
    have bx_34 : -2147483648 ≤ x_34.toInt ∧ x_34.toInt ≤ 2147483647 := by rw [ex_34, show (114 : Int32).toNatClampNeg = 114 from by decide]; exact hkp 114 (by decide)
    refine va_put (D := D) (ci := 8) (v := .int x_34) (ty := .int) (C := RX8) (T := TX8) (N := 38) hx hb hts hi_X8_all_8 tyX8 tyX8_ok nmX8 hown hK hP hD hS 0 rfl rfl 7 (by decide) (hts (.fieldLink RX8 16 "TheLiningsInItModel" "gap" "I") (List.mem_of_getElem? (i := 14) rfl)) (fun _ h9 => h9) rfl (tyX8_ok 7 (Nat.le_of_ble_eq_true rfl)) rfl rfl (Nat.le_of_ble_eq_true rfl) dX8_all_156 (fun H locs hP hD hS => ?_)
    have h9R := zRe (ws' := [(zMO m0 x_20 x_22 x_24 x_26 x_28 x_30 x_32 x_34 nsd nfa mrf mki mpa mta mla msl mco mhe mso msi msh mce mca mwo mnu mte nba npl nen nnu nwr mwa mke mma mth mtr nra nik), (mki, .inl (cI, 8, .inl q_3)), (mpa, .inl (cI, 8, .inl q_6)), (mta, .inl (cI, 8, .inl q_9)), (mla, .inl (cI, 40, .inl q_12)), (msl, .inl (cI, 40, .inl q_15)), (mco, .inl (cI, 3, .inl q_18)), (to_, .inl (cI, 130, .inl ft))]) hP hD rfl
    clear hP hD
    obtain ⟨hP, hD⟩ := h9R
    refine lv_aload_n hx hb dX8_all_159 rfl (lv_at hl 1 rfl) ?_
    refine lv_aload_n hx hb dX8_all_160 rfl (lv_at hl 2 rfl) ?_
    refine lv_iload_n hx hb dX8_all_161 rfl (lv_at hl 0 rfl) ?_
    refine lv_bipush (v := 8) hx hb dX8_all_162 (by decide) ?_
    refine lv_iadd hx hb dX8_all_164 ?_
    refine lv_topi (fun y_35 ey_35 => ?_)
    obtain rfl : y_35 = 115 := ey_35.trans (by decide)
    refine va_iald hx hb hK hP 7 0 rfl rfl (zf_in (by decide) (by decide)) dX8_all_165 ?_
    refine lv_topi (fun x_36 ex_36 => ?_)
    have bx_36 : -2147483648 ≤ x_36.toInt ∧ x_36.toInt ≤ 2147483647 := by rw [ex_36, show (115 : Int32).toNatClampNeg = 115 from by decide]; exact hkp 115 (by decide)
    refine va_put (D := D) (ci := 8) (v := .int x_36) (ty := .int) (C := RX8) (T := TX8) (N := 38) hx hb hts hi_X8_all_8 tyX8 tyX8_ok nmX8 hown hK hP hD hS 0 rfl rfl 8 (by decide) (hts (.fieldLink RX8 19 "TheLiningsInItModel" "seed" "I") (List.mem_of_getElem? (i := 15) rfl)) (fun _ h9 => h9) rfl (tyX8_ok 8 (Nat.le_of_ble_eq_true rfl)) rfl rfl (Nat.le_of_ble_eq_true rfl) dX8_all_166 (fun H locs hP hD hS => ?_)
    have h9R := zRe (ws' := [(zMO m0 x_20 x_22 x_24 x_26 x_28 x_30 x_32 x_34 x_36 nfa mrf mki mpa mta mla msl mco mhe mso msi msh mce mca mwo mnu mte nba npl nen nnu nwr mwa mke mma mth mtr nra nik), (mki, .inl (cI, 8, .inl q_3)), (mpa, .inl (cI, 8, .inl q_6)), (mta, .inl (cI, 8, .inl q_9)), (mla, .inl (cI, 40, .inl q_12)), (msl, .inl (cI, 40, .inl q_15)), (mco, .inl (cI, 3, .inl q_18)), (to_, .inl (cI, 130, .inl ft))]) hP hD rfl
    clear hP hD
    obtain ⟨hP, hD⟩ := h9R
    refine lv_goto (tgt := 254) hx hb dX8_all_169 (by decide) ?_
    exact W.vret hx hb hr (fun t ht hW => ⟨⟨(x_20, x_22, x_24, x_26, x_28, x_30, x_32, x_34, x_36, q_3, q_6, q_9, q_12, q_15, q_18), rfl, ⟨(show 0 ≤ x_20.toInt ∧ x_20.toInt ≤ 8 from ⟨by omega, by omega⟩), (show 4 ≤ x_22.toInt ∧ x_22.toInt ≤ 40 from ⟨by omega, by omega⟩), (show 0 ≤ x_24.toInt ∧ x_24.toInt ≤ 40 from ⟨by omega, by omega⟩), (show 0 ≤ x_26.toInt ∧ x_26.toInt ≤ 24 from ⟨by omega, by omega⟩), (show 0 ≤ x_32.toInt ∧ x_32.toInt ≤ 9 from ⟨by omega, by omega⟩), hpq_3, hpq_6, hpq_9, hpq_12, hpq_15, hpq_18, (show (∀ j : Nat, j < 8 → q_3 j = ft (0 + j)) from by (intro j hj; rw [hsr_1_0]; unfold zCab; rw [if_pos hj])), (show (∀ j : Nat, j < 8 → q_6 j = ft (8 + j)) from by (intro j hj; rw [hsr_4_0]; unfold zCab; rw [if_pos hj])), (show (∀ j : Nat, j < 8 → q_9 j = ft (16 + j)) from by (intro j hj; rw [hsr_7_0]; unfold zCab; rw [if_pos hj])), (show (∀ j : Nat, j < 40 → q_12 j = ft (24 + j)) from by (intro j hj; rw [hsr_10_0]; unfold zCab; rw [if_pos hj])), (show (∀ j : Nat, j < 40 → q_15 j = ft (64 + j)) from by (intro j hj; rw [hsr_13_0]; unfold zCab; rw [if_pos hj])), (show (∀ j : Nat, j < 3 → q_18 j = ft (104 + j)) from by (intro j hj; rw [hsr_16_0]; unfold zCab; rw [if_pos hj])), (show (x_20 = ft 107 ∧ x_22 = ft 108 ∧ x_24 = ft 109 ∧ x_26 = ft 110 ∧ x_28 = ft 111 ∧ x_30 = ft 112 ∧ x_32 = ft 113 ∧ x_34 = ft 114 ∧ x_36 = ft 115) from by refine ⟨?_, ?_, ?_, ?_, ?_, ?_, ?_, ?_, ?_⟩ <;> assumption), trivial⟩, zRet ht hP hD [0, 1, 2, 3, 4, 5, 6, 7] (by decide) rfl⟩, hS.F ht⟩) hS.2.2 dX8_all_254
end
section
theorem hi_X8_jacket_8 : ∀ w ∈ u_ws RX8 TX8 38, w ∈ wsX8_jacket := fun w h => (gl_X8_jacket_X80 w h).1
end
section
theorem hi_X8_image_8 : ∀ w ∈ u_ws RX8 TX8 38, w ∈ wsX8_image := fun w h => (gl_X8_image_X80 w h).1
theorem hi_X8_restore_8 : ∀ w ∈ u_ws RX8 TX8 38, w ∈ wsX8_restore := fun w h => (gl_X8_restore_X80 w h).1
end
