def wsX0_become : List Cond := (.code yX0_become cX0_become 3 none) :: (.fieldLink RX0 12 "TheLiningsInIt$Jacket" "zip" "LTheLiningsInIt$Zip;") :: (.fieldLink RX0 20 "TheLiningsInIt$Jacket" "pulls" "[LTheLiningsInIt$Pull;") :: (.fieldLink RX0 24 "TheLiningsInIt$Jacket" "costs" "[I") :: (.methodLink RX0 51 arraycopyName) :: (.native arraycopyName) :: (.static arraycopyName) :: (.initialized "java/lang/System") :: (.fieldLink RX0 28 "TheLiningsInIt$Jacket" "pullCount" "I") :: (.fieldLink RX0 32 "TheLiningsInIt$Jacket" "depth" "I") :: (.fieldLink RX0 35 "TheLiningsInIt$Jacket" "torn" "I") :: (.fieldLink RX0 38 "TheLiningsInIt$Jacket" "seconds" "I") :: (.fieldLink RX0 41 "TheLiningsInIt$Jacket" "hurry" "I") :: (.fieldLink RX0 44 "TheLiningsInIt$Jacket" "seedNow" "I") :: (.methodLink RX0 47 yX6_become) :: (.instanceMethod yX6_become) :: (.selects RX6 yX6_become yX6_become) :: (.initialized RX6) :: (.code yX6_become cX6_become 3 none) :: (.fieldLink RX6 9 "TheLiningsInIt$Zip" "lacking" "[Z") :: (.fieldLink RX6 15 "TheLiningsInIt$Zip" "slacks" "[I") :: (.fieldLink RX6 19 "TheLiningsInIt$Zip" "size" "I") :: (.fieldLink RX6 23 "TheLiningsInIt$Zip" "at" "I") :: (.fieldLink RX6 26 "TheLiningsInIt$Zip" "gap" "I") :: (wsX00 ++ wsX60)
def wsX2_init : List Cond := (.code yX2_init cX2_init 4 none) :: (.methodLink RX2 3 objectInit) :: (.instanceMethod objectInit) :: (.code objectInit ⟨#[0xb1]⟩ 1 none) :: (.fieldLink RX2 9 "TheLiningsInIt$Pull" "kind" "I") :: (.fieldLink RX2 15 "TheLiningsInIt$Pull" "a" "I") :: (.fieldLink RX2 18 "TheLiningsInIt$Pull" "takes" "I") :: wsX20
def wsX0_addPull : List Cond := (.code yX0_addPull cX0_addPull 4 (some .int)) :: (.fieldLink RX0 28 "TheLiningsInIt$Jacket" "pullCount" "I") :: (.fieldLink RX0 20 "TheLiningsInIt$Jacket" "pulls" "[LTheLiningsInIt$Pull;") :: (.classLink RX0 18 RX2) :: (.instantiable RX2 3) :: (.initialized RX2) :: (.methodLink RX0 70 yX2_init) :: (.instanceMethod yX2_init) :: (.code yX2_init cX2_init 4 none) :: (.methodLink RX2 3 objectInit) :: (.instanceMethod objectInit) :: (.code objectInit ⟨#[0xb1]⟩ 1 none) :: (.fieldLink RX2 9 "TheLiningsInIt$Pull" "kind" "I") :: (.fieldLink RX2 15 "TheLiningsInIt$Pull" "a" "I") :: (.fieldLink RX2 18 "TheLiningsInIt$Pull" "takes" "I") :: (wsX00 ++ wsX20)
def wsX3_takeLetters : List Cond := (.code yX3_takeLetters cX3_takeLetters 3 none) :: (.fieldLink RX3 49 "TheLiningsInIt$Shelf" "size" "I") :: (.methodLink RX3 52 Lib.Math.min.name) :: (.static Lib.Math.min.name) :: (.initialized "java/lang/Math") :: (.code Lib.Math.min.name Lib.Math.min.code 2 (some .int)) :: (.fieldLink RX3 18 "TheLiningsInIt$Reader" "size" "I") :: (.fieldLink RX3 15 "TheLiningsInIt$Reader" "letters" "[I") :: (.methodLink RX3 58 yX4_tells) :: (.instanceMethod yX4_tells) :: (.selects RX4 yX4_tells yX4_tells) :: (.initialized RX4) :: (.code yX4_tells cX4_tells 2 (some .int)) :: (.fieldLink RX4 9 "TheLiningsInIt$Shelf" "elements" "[J") :: (.methodLink RX4 36 yX4_hasSpan) :: (.instanceMethod yX4_hasSpan) :: (.selects RX4 yX4_hasSpan yX4_hasSpan) :: (.code yX4_hasSpan cX4_hasSpan 3 (some .boolean)) :: (.fieldLink RX4 19 "TheLiningsInIt$Shelf" "size" "I") :: (wsX40 ++ wsX30)
def wsX3_wordAt : List Cond := (.code yX3_wordAt cX3_wordAt 1 (some (.object "java/lang/String"))) :: []
def wsJ0_coder_7d493 : List Cond := (.code yJ0_coder_7d493 cJ0_coder_7d493 1 (some .byte)) :: (.fieldLink RJ0 38 "java/lang/String" "COMPACT_STRINGS" "Z") :: (.fieldLink RJ0 15 "java/lang/String" "coder" "B") :: []
def wsJ0_length_8abf5 : List Cond := (.code yJ0_length_8abf5 cJ0_length_8abf5 1 (some .int)) :: (.fieldLink RJ0 9 "java/lang/String" "value" "[B") :: (.methodLink RJ0 335 yJ0_coder_7d493) :: (.instanceMethod yJ0_coder_7d493) :: (.selects RJ0 yJ0_coder_7d493 yJ0_coder_7d493) :: (.initialized RJ0) :: (.code yJ0_coder_7d493 cJ0_coder_7d493 1 (some .byte)) :: (.fieldLink RJ0 38 "java/lang/String" "COMPACT_STRINGS" "Z") :: (.fieldLink RJ0 15 "java/lang/String" "coder" "B") :: []
def wsJ0_isLatin1_aae02 : List Cond := (.code yJ0_isLatin1_aae02 cJ0_isLatin1_aae02 1 (some .boolean)) :: (.fieldLink RJ0 38 "java/lang/String" "COMPACT_STRINGS" "Z") :: (.fieldLink RJ0 15 "java/lang/String" "coder" "B") :: []
def wsJ3_checkIndex_8e157 : List Cond := (.code yJ3_checkIndex_8e157 cJ3_checkIndex_8e157 3 (some .int)) :: []
def wsJ0_checkIndex_df160 : List Cond := (.code yJ0_checkIndex_df160 cJ0_checkIndex_df160 2 none) :: (.fieldLink RJ0 1053 "jdk/internal/util/Preconditions" "SIOOBE_FORMATTER" "Ljava/util/function/BiFunction;") :: (.methodLink RJ0 1059 yJ3_checkIndex_8e157) :: (.static yJ3_checkIndex_8e157) :: (.initialized RJ3) :: (.code yJ3_checkIndex_8e157 cJ3_checkIndex_8e157 3 (some .int)) :: []
def wsJ1_charAt_3b067 : List Cond := (.code yJ1_charAt_3b067 cJ1_charAt_3b067 2 (some .char)) :: (.methodLink RJ1 9 yJ0_checkIndex_df160) :: (.static yJ0_checkIndex_df160) :: (.initialized RJ0) :: (.code yJ0_checkIndex_df160 cJ0_checkIndex_df160 2 none) :: (.fieldLink RJ0 1053 "jdk/internal/util/Preconditions" "SIOOBE_FORMATTER" "Ljava/util/function/BiFunction;") :: (.methodLink RJ0 1059 yJ3_checkIndex_8e157) :: (.static yJ3_checkIndex_8e157) :: (.initialized RJ3) :: (.code yJ3_checkIndex_8e157 cJ3_checkIndex_8e157 3 (some .int)) :: []
def wsJ0_charAt_5068e_r1 : List Cond := (Cond.fieldLink RJ0 9 "java/lang/String" "value" "[B") :: (Cond.methodLink RJ0 492 yJ0_isLatin1_aae02) :: (Cond.instanceMethod yJ0_isLatin1_aae02) :: (Cond.selects RJ0 yJ0_isLatin1_aae02 yJ0_isLatin1_aae02) :: (Cond.initialized RJ0) :: (Cond.code yJ0_isLatin1_aae02 cJ0_isLatin1_aae02 1 (some .boolean)) :: (Cond.fieldLink RJ0 38 "java/lang/String" "COMPACT_STRINGS" "Z") :: (Cond.fieldLink RJ0 15 "java/lang/String" "coder" "B") :: (Cond.methodLink RJ0 495 yJ1_charAt_3b067) :: (Cond.static yJ1_charAt_3b067) :: (Cond.initialized RJ1) :: (Cond.code yJ1_charAt_3b067 cJ1_charAt_3b067 2 (some .char)) :: (Cond.methodLink RJ1 9 yJ0_checkIndex_df160) :: (Cond.static yJ0_checkIndex_df160) :: (Cond.code yJ0_checkIndex_df160 cJ0_checkIndex_df160 2 none) :: (Cond.fieldLink RJ0 1053 "jdk/internal/util/Preconditions" "SIOOBE_FORMATTER" "Ljava/util/function/BiFunction;") :: (Cond.methodLink RJ0 1059 yJ3_checkIndex_8e157) :: (Cond.static yJ3_checkIndex_8e157) :: (Cond.initialized RJ3) :: (Cond.code yJ3_checkIndex_8e157 cJ3_checkIndex_8e157 3 (some .int)) :: (Cond.methodLink RJ0 498 yJ2_charAt_3b067) :: (Cond.static yJ2_charAt_3b067) :: (Cond.initialized RJ2) :: (Cond.code yJ2_charAt_3b067 cJ2_charAt_3b067 2 (some .char)) :: []
def wsJ0_charAt_5068e_r2 : List Cond := (Cond.methodLink RJ2 67 yJ2_checkIndex_2214a) :: (Cond.static yJ2_checkIndex_2214a) :: (Cond.code yJ2_checkIndex_2214a cJ2_checkIndex_2214a 2 none) :: (Cond.methodLink RJ2 48 yJ2_length_9d52b) :: (Cond.static yJ2_length_9d52b) :: (Cond.code yJ2_length_9d52b cJ2_length_9d52b 1 (some .int)) :: (Cond.methodLink RJ2 414 yJ0_checkIndex_df160) :: (Cond.methodLink RJ2 71 yJ2_getChar_3b067) :: (Cond.static yJ2_getChar_3b067) :: (Cond.code yJ2_getChar_3b067 cJ2_getChar_3b067 2 (some .char)) :: (Cond.fieldLink RJ2 44 "java/lang/StringUTF16" "$assertionsDisabled" "Z") :: (Cond.fieldLink RJ2 59 "java/lang/StringUTF16" "HI_BYTE_SHIFT" "I") :: (Cond.fieldLink RJ2 63 "java/lang/StringUTF16" "LO_BYTE_SHIFT" "I") :: []
def wsJ0_charAt_5068e : List Cond := (.code yJ0_charAt_5068e cJ0_charAt_5068e 2 (some .char)) :: (wsJ0_charAt_5068e_r1 ++ wsJ0_charAt_5068e_r2)
def wsX3_stands : List Cond := (.code yX3_stands cX3_stands 3 (some .boolean)) :: (.fieldLink RX3 18 "TheLiningsInIt$Reader" "size" "I") :: (.fieldLink RX3 15 "TheLiningsInIt$Reader" "letters" "[I") :: wsX30
def wsX3_lettersStanding_r1 : List Cond := (Cond.fieldLink RX3 25 "TheLiningsInIt$Reader" "place" "I") :: (Cond.methodLink RX3 90 yJ0_length_8abf5) :: (Cond.instanceMethod yJ0_length_8abf5) :: (Cond.selects RJ0 yJ0_length_8abf5 yJ0_length_8abf5) :: (Cond.initialized RJ0) :: (Cond.code yJ0_length_8abf5 cJ0_length_8abf5 1 (some .int)) :: (Cond.fieldLink RJ0 9 "java/lang/String" "value" "[B") :: (Cond.methodLink RJ0 335 yJ0_coder_7d493) :: (Cond.instanceMethod yJ0_coder_7d493) :: (Cond.selects RJ0 yJ0_coder_7d493 yJ0_coder_7d493) :: (Cond.code yJ0_coder_7d493 cJ0_coder_7d493 1 (some .byte)) :: (Cond.fieldLink RJ0 38 "java/lang/String" "COMPACT_STRINGS" "Z") :: (Cond.fieldLink RJ0 15 "java/lang/String" "coder" "B") :: (Cond.methodLink RX3 101 yJ0_charAt_5068e) :: (Cond.instanceMethod yJ0_charAt_5068e) :: (Cond.selects RJ0 yJ0_charAt_5068e yJ0_charAt_5068e) :: (Cond.code yJ0_charAt_5068e cJ0_charAt_5068e 2 (some .char)) :: (Cond.methodLink RJ0 492 yJ0_isLatin1_aae02) :: (Cond.instanceMethod yJ0_isLatin1_aae02) :: (Cond.selects RJ0 yJ0_isLatin1_aae02 yJ0_isLatin1_aae02) :: (Cond.code yJ0_isLatin1_aae02 cJ0_isLatin1_aae02 1 (some .boolean)) :: (Cond.methodLink RJ0 495 yJ1_charAt_3b067) :: (Cond.static yJ1_charAt_3b067) :: (Cond.initialized RJ1) :: []
def wsX3_lettersStanding_r2 : List Cond := (Cond.code yJ1_charAt_3b067 cJ1_charAt_3b067 2 (some .char)) :: (Cond.methodLink RJ1 9 yJ0_checkIndex_df160) :: (Cond.static yJ0_checkIndex_df160) :: (Cond.code yJ0_checkIndex_df160 cJ0_checkIndex_df160 2 none) :: (Cond.fieldLink RJ0 1053 "jdk/internal/util/Preconditions" "SIOOBE_FORMATTER" "Ljava/util/function/BiFunction;") :: (Cond.methodLink RJ0 1059 yJ3_checkIndex_8e157) :: (Cond.static yJ3_checkIndex_8e157) :: (Cond.initialized RJ3) :: (Cond.code yJ3_checkIndex_8e157 cJ3_checkIndex_8e157 3 (some .int)) :: (Cond.methodLink RJ0 498 yJ2_charAt_3b067) :: (Cond.static yJ2_charAt_3b067) :: (Cond.initialized RJ2) :: (Cond.code yJ2_charAt_3b067 cJ2_charAt_3b067 2 (some .char)) :: (Cond.methodLink RJ2 67 yJ2_checkIndex_2214a) :: (Cond.static yJ2_checkIndex_2214a) :: (Cond.code yJ2_checkIndex_2214a cJ2_checkIndex_2214a 2 none) :: (Cond.methodLink RJ2 48 yJ2_length_9d52b) :: (Cond.static yJ2_length_9d52b) :: (Cond.code yJ2_length_9d52b cJ2_length_9d52b 1 (some .int)) :: (Cond.methodLink RJ2 414 yJ0_checkIndex_df160) :: (Cond.methodLink RJ2 71 yJ2_getChar_3b067) :: (Cond.static yJ2_getChar_3b067) :: (Cond.code yJ2_getChar_3b067 cJ2_getChar_3b067 2 (some .char)) :: (Cond.fieldLink RJ2 44 "java/lang/StringUTF16" "$assertionsDisabled" "Z") :: []
def wsX3_lettersStanding_r3 : List Cond := (Cond.fieldLink RJ2 59 "java/lang/StringUTF16" "HI_BYTE_SHIFT" "I") :: (Cond.fieldLink RJ2 63 "java/lang/StringUTF16" "LO_BYTE_SHIFT" "I") :: (Cond.methodLink RX3 78 yX3_stands) :: (Cond.instanceMethod yX3_stands) :: (Cond.selects RX3 yX3_stands yX3_stands) :: (Cond.initialized RX3) :: (Cond.code yX3_stands cX3_stands 3 (some .boolean)) :: (Cond.fieldLink RX3 18 "TheLiningsInIt$Reader" "size" "I") :: (Cond.fieldLink RX3 15 "TheLiningsInIt$Reader" "letters" "[I") :: []
def wsX3_lettersStanding : List Cond := (.code yX3_lettersStanding cX3_lettersStanding 3 (some .int)) :: ((wsX3_lettersStanding_r1 ++ (wsX3_lettersStanding_r2 ++ wsX3_lettersStanding_r3)) ++ wsX30)
def wsX3_takeWord : List Cond := (.code yX3_takeWord cX3_takeWord 3 (some .int)) :: (.fieldLink RX3 34 "TheLiningsInIt$Reader" "pulls" "I") :: (.fieldLink RX3 25 "TheLiningsInIt$Reader" "place" "I") :: (.fieldLink RX3 28 "TheLiningsInIt$Reader" "fault" "I") :: wsX30
def wsX3_readWord_r1 : List Cond := (Cond.methodLink RX3 98 Lib.Math.max.name) :: (Cond.static Lib.Math.max.name) :: (Cond.initialized "java/lang/Math") :: (Cond.code Lib.Math.max.name Lib.Math.max.code 2 (some .int)) :: (Cond.fieldLink RX3 25 "TheLiningsInIt$Reader" "place" "I") :: (Cond.fieldLink RX3 28 "TheLiningsInIt$Reader" "fault" "I") :: (Cond.methodLink RX3 82 yX3_wordAt) :: (Cond.static yX3_wordAt) :: (Cond.initialized RX3) :: (Cond.code yX3_wordAt cX3_wordAt 1 (some (.object "java/lang/String"))) :: (Cond.methodLink RX3 86 yX3_lettersStanding) :: (Cond.instanceMethod yX3_lettersStanding) :: (Cond.selects RX3 yX3_lettersStanding yX3_lettersStanding) :: (Cond.code yX3_lettersStanding cX3_lettersStanding 3 (some .int)) :: (Cond.methodLink RX3 90 yJ0_length_8abf5) :: (Cond.instanceMethod yJ0_length_8abf5) :: (Cond.selects RJ0 yJ0_length_8abf5 yJ0_length_8abf5) :: (Cond.initialized RJ0) :: (Cond.code yJ0_length_8abf5 cJ0_length_8abf5 1 (some .int)) :: (Cond.fieldLink RJ0 9 "java/lang/String" "value" "[B") :: (Cond.methodLink RJ0 335 yJ0_coder_7d493) :: (Cond.instanceMethod yJ0_coder_7d493) :: (Cond.selects RJ0 yJ0_coder_7d493 yJ0_coder_7d493) :: (Cond.code yJ0_coder_7d493 cJ0_coder_7d493 1 (some .byte)) :: []
def wsX3_readWord_r2 : List Cond := (Cond.fieldLink RJ0 38 "java/lang/String" "COMPACT_STRINGS" "Z") :: (Cond.fieldLink RJ0 15 "java/lang/String" "coder" "B") :: (Cond.methodLink RX3 101 yJ0_charAt_5068e) :: (Cond.instanceMethod yJ0_charAt_5068e) :: (Cond.selects RJ0 yJ0_charAt_5068e yJ0_charAt_5068e) :: (Cond.code yJ0_charAt_5068e cJ0_charAt_5068e 2 (some .char)) :: (Cond.methodLink RJ0 492 yJ0_isLatin1_aae02) :: (Cond.instanceMethod yJ0_isLatin1_aae02) :: (Cond.selects RJ0 yJ0_isLatin1_aae02 yJ0_isLatin1_aae02) :: (Cond.code yJ0_isLatin1_aae02 cJ0_isLatin1_aae02 1 (some .boolean)) :: (Cond.methodLink RJ0 495 yJ1_charAt_3b067) :: (Cond.static yJ1_charAt_3b067) :: (Cond.initialized RJ1) :: (Cond.code yJ1_charAt_3b067 cJ1_charAt_3b067 2 (some .char)) :: (Cond.methodLink RJ1 9 yJ0_checkIndex_df160) :: (Cond.static yJ0_checkIndex_df160) :: (Cond.code yJ0_checkIndex_df160 cJ0_checkIndex_df160 2 none) :: (Cond.fieldLink RJ0 1053 "jdk/internal/util/Preconditions" "SIOOBE_FORMATTER" "Ljava/util/function/BiFunction;") :: (Cond.methodLink RJ0 1059 yJ3_checkIndex_8e157) :: (Cond.static yJ3_checkIndex_8e157) :: (Cond.initialized RJ3) :: (Cond.code yJ3_checkIndex_8e157 cJ3_checkIndex_8e157 3 (some .int)) :: (Cond.methodLink RJ0 498 yJ2_charAt_3b067) :: (Cond.static yJ2_charAt_3b067) :: []
def wsX3_readWord_r3 : List Cond := (Cond.initialized RJ2) :: (Cond.code yJ2_charAt_3b067 cJ2_charAt_3b067 2 (some .char)) :: (Cond.methodLink RJ2 67 yJ2_checkIndex_2214a) :: (Cond.static yJ2_checkIndex_2214a) :: (Cond.code yJ2_checkIndex_2214a cJ2_checkIndex_2214a 2 none) :: (Cond.methodLink RJ2 48 yJ2_length_9d52b) :: (Cond.static yJ2_length_9d52b) :: (Cond.code yJ2_length_9d52b cJ2_length_9d52b 1 (some .int)) :: (Cond.methodLink RJ2 414 yJ0_checkIndex_df160) :: (Cond.methodLink RJ2 71 yJ2_getChar_3b067) :: (Cond.static yJ2_getChar_3b067) :: (Cond.code yJ2_getChar_3b067 cJ2_getChar_3b067 2 (some .char)) :: (Cond.fieldLink RJ2 44 "java/lang/StringUTF16" "$assertionsDisabled" "Z") :: (Cond.fieldLink RJ2 59 "java/lang/StringUTF16" "HI_BYTE_SHIFT" "I") :: (Cond.fieldLink RJ2 63 "java/lang/StringUTF16" "LO_BYTE_SHIFT" "I") :: (Cond.methodLink RX3 78 yX3_stands) :: (Cond.instanceMethod yX3_stands) :: (Cond.selects RX3 yX3_stands yX3_stands) :: (Cond.code yX3_stands cX3_stands 3 (some .boolean)) :: (Cond.fieldLink RX3 18 "TheLiningsInIt$Reader" "size" "I") :: (Cond.fieldLink RX3 15 "TheLiningsInIt$Reader" "letters" "[I") :: (Cond.methodLink RX3 95 yX3_takeWord) :: (Cond.instanceMethod yX3_takeWord) :: (Cond.selects RX3 yX3_takeWord yX3_takeWord) :: []
def wsX3_readWord_r4 : List Cond := (Cond.code yX3_takeWord cX3_takeWord 3 (some .int)) :: (Cond.fieldLink RX3 34 "TheLiningsInIt$Reader" "pulls" "I") :: []
def wsX3_readWord : List Cond := (.code yX3_readWord cX3_readWord 5 (some .int)) :: ((wsX3_readWord_r1 ++ (wsX3_readWord_r2 ++ (wsX3_readWord_r3 ++ wsX3_readWord_r4))) ++ wsX30)
def wsX3_numbersOf : List Cond := (.code yX3_numbersOf cX3_numbersOf 1 (some .int)) :: []
def wsX3_expect : List Cond := (.code yX3_expect cX3_expect 2 none) :: (.fieldLink RX3 25 "TheLiningsInIt$Reader" "place" "I") :: (.fieldLink RX3 28 "TheLiningsInIt$Reader" "fault" "I") :: (.methodLink RX3 78 yX3_stands) :: (.instanceMethod yX3_stands) :: (.selects RX3 yX3_stands yX3_stands) :: (.initialized RX3) :: (.code yX3_stands cX3_stands 3 (some .boolean)) :: (.fieldLink RX3 18 "TheLiningsInIt$Reader" "size" "I") :: (.fieldLink RX3 15 "TheLiningsInIt$Reader" "letters" "[I") :: wsX30
def wsX3_leastOf : List Cond := (.code yX3_leastOf cX3_leastOf 2 (some .int)) :: []
def wsX3_mostOf : List Cond := (.code yX3_mostOf cX3_mostOf 3 (some .int)) :: (.fieldLink RX3 31 "TheLiningsInIt$Reader" "teeth" "I") :: wsX30
def wsX3_isDigit : List Cond := (.code yX3_isDigit cX3_isDigit 1 (some .boolean)) :: []
def wsX3_readNumber : List Cond := (.code yX3_readNumber cX3_readNumber 5 (some .int)) :: (.fieldLink RX3 25 "TheLiningsInIt$Reader" "place" "I") :: (.fieldLink RX3 18 "TheLiningsInIt$Reader" "size" "I") :: (.fieldLink RX3 15 "TheLiningsInIt$Reader" "letters" "[I") :: (.fieldLink RX3 28 "TheLiningsInIt$Reader" "fault" "I") :: (.methodLink RX3 105 yX3_isDigit) :: (.static yX3_isDigit) :: (.initialized RX3) :: (.code yX3_isDigit cX3_isDigit 1 (some .boolean)) :: (.static yX7_within) :: (.initialized RX7) :: (.code yX7_within cX7_within 3 (some .boolean)) :: wsX30
def wsX3_readItem_r1 : List Cond := (Cond.fieldLink RX3 11 "TheLiningsInIt$Reader" "items" "[I") :: (Cond.fieldLink RX3 28 "TheLiningsInIt$Reader" "fault" "I") :: (Cond.fieldLink RX3 31 "TheLiningsInIt$Reader" "teeth" "I") :: (Cond.fieldLink RX3 34 "TheLiningsInIt$Reader" "pulls" "I") :: (Cond.methodLink RX3 62 yX3_readWord) :: (Cond.instanceMethod yX3_readWord) :: (Cond.selects RX3 yX3_readWord yX3_readWord) :: (Cond.initialized RX3) :: (Cond.code yX3_readWord cX3_readWord 5 (some .int)) :: (Cond.methodLink RX3 98 Lib.Math.max.name) :: (Cond.static Lib.Math.max.name) :: (Cond.initialized "java/lang/Math") :: (Cond.code Lib.Math.max.name Lib.Math.max.code 2 (some .int)) :: (Cond.fieldLink RX3 25 "TheLiningsInIt$Reader" "place" "I") :: (Cond.methodLink RX3 82 yX3_wordAt) :: (Cond.static yX3_wordAt) :: (Cond.code yX3_wordAt cX3_wordAt 1 (some (.object "java/lang/String"))) :: (Cond.methodLink RX3 86 yX3_lettersStanding) :: (Cond.instanceMethod yX3_lettersStanding) :: (Cond.selects RX3 yX3_lettersStanding yX3_lettersStanding) :: (Cond.code yX3_lettersStanding cX3_lettersStanding 3 (some .int)) :: (Cond.methodLink RX3 90 yJ0_length_8abf5) :: (Cond.instanceMethod yJ0_length_8abf5) :: (Cond.selects RJ0 yJ0_length_8abf5 yJ0_length_8abf5) :: []
def wsX3_readItem_r2 : List Cond := (Cond.initialized RJ0) :: (Cond.code yJ0_length_8abf5 cJ0_length_8abf5 1 (some .int)) :: (Cond.fieldLink RJ0 9 "java/lang/String" "value" "[B") :: (Cond.methodLink RJ0 335 yJ0_coder_7d493) :: (Cond.instanceMethod yJ0_coder_7d493) :: (Cond.selects RJ0 yJ0_coder_7d493 yJ0_coder_7d493) :: (Cond.code yJ0_coder_7d493 cJ0_coder_7d493 1 (some .byte)) :: (Cond.fieldLink RJ0 38 "java/lang/String" "COMPACT_STRINGS" "Z") :: (Cond.fieldLink RJ0 15 "java/lang/String" "coder" "B") :: (Cond.methodLink RX3 101 yJ0_charAt_5068e) :: (Cond.instanceMethod yJ0_charAt_5068e) :: (Cond.selects RJ0 yJ0_charAt_5068e yJ0_charAt_5068e) :: (Cond.code yJ0_charAt_5068e cJ0_charAt_5068e 2 (some .char)) :: (Cond.methodLink RJ0 492 yJ0_isLatin1_aae02) :: (Cond.instanceMethod yJ0_isLatin1_aae02) :: (Cond.selects RJ0 yJ0_isLatin1_aae02 yJ0_isLatin1_aae02) :: (Cond.code yJ0_isLatin1_aae02 cJ0_isLatin1_aae02 1 (some .boolean)) :: (Cond.methodLink RJ0 495 yJ1_charAt_3b067) :: (Cond.static yJ1_charAt_3b067) :: (Cond.initialized RJ1) :: (Cond.code yJ1_charAt_3b067 cJ1_charAt_3b067 2 (some .char)) :: (Cond.methodLink RJ1 9 yJ0_checkIndex_df160) :: (Cond.static yJ0_checkIndex_df160) :: (Cond.code yJ0_checkIndex_df160 cJ0_checkIndex_df160 2 none) :: []
def wsX3_readItem_r3 : List Cond := (Cond.fieldLink RJ0 1053 "jdk/internal/util/Preconditions" "SIOOBE_FORMATTER" "Ljava/util/function/BiFunction;") :: (Cond.methodLink RJ0 1059 yJ3_checkIndex_8e157) :: (Cond.static yJ3_checkIndex_8e157) :: (Cond.initialized RJ3) :: (Cond.code yJ3_checkIndex_8e157 cJ3_checkIndex_8e157 3 (some .int)) :: (Cond.methodLink RJ0 498 yJ2_charAt_3b067) :: (Cond.static yJ2_charAt_3b067) :: (Cond.initialized RJ2) :: (Cond.code yJ2_charAt_3b067 cJ2_charAt_3b067 2 (some .char)) :: (Cond.methodLink RJ2 67 yJ2_checkIndex_2214a) :: (Cond.static yJ2_checkIndex_2214a) :: (Cond.code yJ2_checkIndex_2214a cJ2_checkIndex_2214a 2 none) :: (Cond.methodLink RJ2 48 yJ2_length_9d52b) :: (Cond.static yJ2_length_9d52b) :: (Cond.code yJ2_length_9d52b cJ2_length_9d52b 1 (some .int)) :: (Cond.methodLink RJ2 414 yJ0_checkIndex_df160) :: (Cond.methodLink RJ2 71 yJ2_getChar_3b067) :: (Cond.static yJ2_getChar_3b067) :: (Cond.code yJ2_getChar_3b067 cJ2_getChar_3b067 2 (some .char)) :: (Cond.fieldLink RJ2 44 "java/lang/StringUTF16" "$assertionsDisabled" "Z") :: (Cond.fieldLink RJ2 59 "java/lang/StringUTF16" "HI_BYTE_SHIFT" "I") :: (Cond.fieldLink RJ2 63 "java/lang/StringUTF16" "LO_BYTE_SHIFT" "I") :: (Cond.methodLink RX3 78 yX3_stands) :: (Cond.instanceMethod yX3_stands) :: []
def wsX3_readItem_r4 : List Cond := (Cond.selects RX3 yX3_stands yX3_stands) :: (Cond.code yX3_stands cX3_stands 3 (some .boolean)) :: (Cond.fieldLink RX3 18 "TheLiningsInIt$Reader" "size" "I") :: (Cond.fieldLink RX3 15 "TheLiningsInIt$Reader" "letters" "[I") :: (Cond.methodLink RX3 95 yX3_takeWord) :: (Cond.instanceMethod yX3_takeWord) :: (Cond.selects RX3 yX3_takeWord yX3_takeWord) :: (Cond.code yX3_takeWord cX3_takeWord 3 (some .int)) :: (Cond.methodLink RX3 66 yX3_numbersOf) :: (Cond.static yX3_numbersOf) :: (Cond.code yX3_numbersOf cX3_numbersOf 1 (some .int)) :: (Cond.methodLink RX3 45 yX3_expect) :: (Cond.instanceMethod yX3_expect) :: (Cond.selects RX3 yX3_expect yX3_expect) :: (Cond.code yX3_expect cX3_expect 2 none) :: (Cond.methodLink RX3 69 yX3_leastOf) :: (Cond.static yX3_leastOf) :: (Cond.code yX3_leastOf cX3_leastOf 2 (some .int)) :: (Cond.methodLink RX3 72 yX3_mostOf) :: (Cond.instanceMethod yX3_mostOf) :: (Cond.selects RX3 yX3_mostOf yX3_mostOf) :: (Cond.code yX3_mostOf cX3_mostOf 3 (some .int)) :: (Cond.methodLink RX3 75 yX3_readNumber) :: (Cond.instanceMethod yX3_readNumber) :: []
def wsX3_readItem_r5 : List Cond := (Cond.selects RX3 yX3_readNumber yX3_readNumber) :: (Cond.code yX3_readNumber cX3_readNumber 5 (some .int)) :: (Cond.methodLink RX3 105 yX3_isDigit) :: (Cond.static yX3_isDigit) :: (Cond.code yX3_isDigit cX3_isDigit 1 (some .boolean)) :: (Cond.static yX7_within) :: (Cond.initialized RX7) :: (Cond.code yX7_within cX7_within 3 (some .boolean)) :: []
def wsX3_readItem : List Cond := (.code yX3_readItem cX3_readItem 4 none) :: ((wsX3_readItem_r1 ++ (wsX3_readItem_r2 ++ (wsX3_readItem_r3 ++ (wsX3_readItem_r4 ++ wsX3_readItem_r5)))) ++ wsX30)
def wsX3_read_r1 : List Cond := (Cond.fieldLink RX3 31 "TheLiningsInIt$Reader" "teeth" "I") :: (Cond.fieldLink RX3 34 "TheLiningsInIt$Reader" "pulls" "I") :: (Cond.fieldLink RX3 25 "TheLiningsInIt$Reader" "place" "I") :: (Cond.fieldLink RX3 28 "TheLiningsInIt$Reader" "fault" "I") :: (Cond.fieldLink RX3 22 "TheLiningsInIt$Reader" "count" "I") :: (Cond.fieldLink RX3 18 "TheLiningsInIt$Reader" "size" "I") :: (Cond.methodLink RX3 37 yX3_takeLetters) :: (Cond.instanceMethod yX3_takeLetters) :: (Cond.selects RX3 yX3_takeLetters yX3_takeLetters) :: (Cond.initialized RX3) :: (Cond.code yX3_takeLetters cX3_takeLetters 3 none) :: (Cond.fieldLink RX3 49 "TheLiningsInIt$Shelf" "size" "I") :: (Cond.methodLink RX3 52 Lib.Math.min.name) :: (Cond.static Lib.Math.min.name) :: (Cond.initialized "java/lang/Math") :: (Cond.code Lib.Math.min.name Lib.Math.min.code 2 (some .int)) :: (Cond.fieldLink RX3 15 "TheLiningsInIt$Reader" "letters" "[I") :: (Cond.methodLink RX3 58 yX4_tells) :: (Cond.instanceMethod yX4_tells) :: (Cond.selects RX4 yX4_tells yX4_tells) :: (Cond.initialized RX4) :: (Cond.code yX4_tells cX4_tells 2 (some .int)) :: (Cond.fieldLink RX4 9 "TheLiningsInIt$Shelf" "elements" "[J") :: (Cond.methodLink RX4 36 yX4_hasSpan) :: []
def wsX3_read_r2 : List Cond := (Cond.instanceMethod yX4_hasSpan) :: (Cond.selects RX4 yX4_hasSpan yX4_hasSpan) :: (Cond.code yX4_hasSpan cX4_hasSpan 3 (some .boolean)) :: (Cond.fieldLink RX4 19 "TheLiningsInIt$Shelf" "size" "I") :: (Cond.methodLink RX3 41 yX3_readItem) :: (Cond.instanceMethod yX3_readItem) :: (Cond.selects RX3 yX3_readItem yX3_readItem) :: (Cond.code yX3_readItem cX3_readItem 4 none) :: (Cond.fieldLink RX3 11 "TheLiningsInIt$Reader" "items" "[I") :: (Cond.methodLink RX3 62 yX3_readWord) :: (Cond.instanceMethod yX3_readWord) :: (Cond.selects RX3 yX3_readWord yX3_readWord) :: (Cond.code yX3_readWord cX3_readWord 5 (some .int)) :: (Cond.methodLink RX3 98 Lib.Math.max.name) :: (Cond.static Lib.Math.max.name) :: (Cond.code Lib.Math.max.name Lib.Math.max.code 2 (some .int)) :: (Cond.methodLink RX3 82 yX3_wordAt) :: (Cond.static yX3_wordAt) :: (Cond.code yX3_wordAt cX3_wordAt 1 (some (.object "java/lang/String"))) :: (Cond.methodLink RX3 86 yX3_lettersStanding) :: (Cond.instanceMethod yX3_lettersStanding) :: (Cond.selects RX3 yX3_lettersStanding yX3_lettersStanding) :: (Cond.code yX3_lettersStanding cX3_lettersStanding 3 (some .int)) :: (Cond.methodLink RX3 90 yJ0_length_8abf5) :: []
def wsX3_read_r3 : List Cond := (Cond.instanceMethod yJ0_length_8abf5) :: (Cond.selects RJ0 yJ0_length_8abf5 yJ0_length_8abf5) :: (Cond.initialized RJ0) :: (Cond.code yJ0_length_8abf5 cJ0_length_8abf5 1 (some .int)) :: (Cond.fieldLink RJ0 9 "java/lang/String" "value" "[B") :: (Cond.methodLink RJ0 335 yJ0_coder_7d493) :: (Cond.instanceMethod yJ0_coder_7d493) :: (Cond.selects RJ0 yJ0_coder_7d493 yJ0_coder_7d493) :: (Cond.code yJ0_coder_7d493 cJ0_coder_7d493 1 (some .byte)) :: (Cond.fieldLink RJ0 38 "java/lang/String" "COMPACT_STRINGS" "Z") :: (Cond.fieldLink RJ0 15 "java/lang/String" "coder" "B") :: (Cond.methodLink RX3 101 yJ0_charAt_5068e) :: (Cond.instanceMethod yJ0_charAt_5068e) :: (Cond.selects RJ0 yJ0_charAt_5068e yJ0_charAt_5068e) :: (Cond.code yJ0_charAt_5068e cJ0_charAt_5068e 2 (some .char)) :: (Cond.methodLink RJ0 492 yJ0_isLatin1_aae02) :: (Cond.instanceMethod yJ0_isLatin1_aae02) :: (Cond.selects RJ0 yJ0_isLatin1_aae02 yJ0_isLatin1_aae02) :: (Cond.code yJ0_isLatin1_aae02 cJ0_isLatin1_aae02 1 (some .boolean)) :: (Cond.methodLink RJ0 495 yJ1_charAt_3b067) :: (Cond.static yJ1_charAt_3b067) :: (Cond.initialized RJ1) :: (Cond.code yJ1_charAt_3b067 cJ1_charAt_3b067 2 (some .char)) :: (Cond.methodLink RJ1 9 yJ0_checkIndex_df160) :: []
def wsX3_read_r4 : List Cond := (Cond.static yJ0_checkIndex_df160) :: (Cond.code yJ0_checkIndex_df160 cJ0_checkIndex_df160 2 none) :: (Cond.fieldLink RJ0 1053 "jdk/internal/util/Preconditions" "SIOOBE_FORMATTER" "Ljava/util/function/BiFunction;") :: (Cond.methodLink RJ0 1059 yJ3_checkIndex_8e157) :: (Cond.static yJ3_checkIndex_8e157) :: (Cond.initialized RJ3) :: (Cond.code yJ3_checkIndex_8e157 cJ3_checkIndex_8e157 3 (some .int)) :: (Cond.methodLink RJ0 498 yJ2_charAt_3b067) :: (Cond.static yJ2_charAt_3b067) :: (Cond.initialized RJ2) :: (Cond.code yJ2_charAt_3b067 cJ2_charAt_3b067 2 (some .char)) :: (Cond.methodLink RJ2 67 yJ2_checkIndex_2214a) :: (Cond.static yJ2_checkIndex_2214a) :: (Cond.code yJ2_checkIndex_2214a cJ2_checkIndex_2214a 2 none) :: (Cond.methodLink RJ2 48 yJ2_length_9d52b) :: (Cond.static yJ2_length_9d52b) :: (Cond.code yJ2_length_9d52b cJ2_length_9d52b 1 (some .int)) :: (Cond.methodLink RJ2 414 yJ0_checkIndex_df160) :: (Cond.methodLink RJ2 71 yJ2_getChar_3b067) :: (Cond.static yJ2_getChar_3b067) :: (Cond.code yJ2_getChar_3b067 cJ2_getChar_3b067 2 (some .char)) :: (Cond.fieldLink RJ2 44 "java/lang/StringUTF16" "$assertionsDisabled" "Z") :: (Cond.fieldLink RJ2 59 "java/lang/StringUTF16" "HI_BYTE_SHIFT" "I") :: (Cond.fieldLink RJ2 63 "java/lang/StringUTF16" "LO_BYTE_SHIFT" "I") :: []
def wsX3_read_r5 : List Cond := (Cond.methodLink RX3 78 yX3_stands) :: (Cond.instanceMethod yX3_stands) :: (Cond.selects RX3 yX3_stands yX3_stands) :: (Cond.code yX3_stands cX3_stands 3 (some .boolean)) :: (Cond.methodLink RX3 95 yX3_takeWord) :: (Cond.instanceMethod yX3_takeWord) :: (Cond.selects RX3 yX3_takeWord yX3_takeWord) :: (Cond.code yX3_takeWord cX3_takeWord 3 (some .int)) :: (Cond.methodLink RX3 66 yX3_numbersOf) :: (Cond.static yX3_numbersOf) :: (Cond.code yX3_numbersOf cX3_numbersOf 1 (some .int)) :: (Cond.methodLink RX3 45 yX3_expect) :: (Cond.instanceMethod yX3_expect) :: (Cond.selects RX3 yX3_expect yX3_expect) :: (Cond.code yX3_expect cX3_expect 2 none) :: (Cond.methodLink RX3 69 yX3_leastOf) :: (Cond.static yX3_leastOf) :: (Cond.code yX3_leastOf cX3_leastOf 2 (some .int)) :: (Cond.methodLink RX3 72 yX3_mostOf) :: (Cond.instanceMethod yX3_mostOf) :: (Cond.selects RX3 yX3_mostOf yX3_mostOf) :: (Cond.code yX3_mostOf cX3_mostOf 3 (some .int)) :: (Cond.methodLink RX3 75 yX3_readNumber) :: (Cond.instanceMethod yX3_readNumber) :: []
def wsX3_read_r6 : List Cond := (Cond.selects RX3 yX3_readNumber yX3_readNumber) :: (Cond.code yX3_readNumber cX3_readNumber 5 (some .int)) :: (Cond.methodLink RX3 105 yX3_isDigit) :: (Cond.static yX3_isDigit) :: (Cond.code yX3_isDigit cX3_isDigit 1 (some .boolean)) :: (Cond.static yX7_within) :: (Cond.initialized RX7) :: (Cond.code yX7_within cX7_within 3 (some .boolean)) :: []
def wsX3_read : List Cond := (.code yX3_read cX3_read 5 (some .int)) :: ((wsX3_read_r1 ++ (wsX3_read_r2 ++ (wsX3_read_r3 ++ (wsX3_read_r4 ++ (wsX3_read_r5 ++ wsX3_read_r6))))) ++ wsX30 ++ wsX40)
def wsX3_tellItem_r1 : List Cond := (Cond.fieldLink RX3 11 "TheLiningsInIt$Reader" "items" "[I") :: (Cond.fieldLink RX3 136 "TheLiningsInIt$Jacket" "zip" "LTheLiningsInIt$Zip;") :: (Cond.fieldLink RX3 147 "TheLiningsInIt$Zip" "lacking" "[Z") :: (Cond.fieldLink RX3 151 "TheLiningsInIt$Zip" "slacks" "[I") :: (Cond.fieldLink RX3 158 "TheLiningsInIt$Jacket" "costs" "[I") :: (Cond.fieldLink RX3 161 "TheLiningsInIt$Zip" "at" "I") :: (Cond.methodLink RX3 142 yX6_renew) :: (Cond.instanceMethod yX6_renew) :: (Cond.selects RX6 yX6_renew yX6_renew) :: (Cond.initialized RX6) :: (Cond.code yX6_renew cX6_renew 3 none) :: (Cond.fieldLink RX6 19 "TheLiningsInIt$Zip" "size" "I") :: (Cond.fieldLink RX6 23 "TheLiningsInIt$Zip" "at" "I") :: (Cond.fieldLink RX6 9 "TheLiningsInIt$Zip" "lacking" "[Z") :: (Cond.fieldLink RX6 15 "TheLiningsInIt$Zip" "slacks" "[I") :: (Cond.methodLink RX3 154 yX0_addPull) :: (Cond.instanceMethod yX0_addPull) :: (Cond.selects RX0 yX0_addPull yX0_addPull) :: (Cond.initialized RX0) :: (Cond.code yX0_addPull cX0_addPull 4 (some .int)) :: (Cond.fieldLink RX0 28 "TheLiningsInIt$Jacket" "pullCount" "I") :: (Cond.fieldLink RX0 20 "TheLiningsInIt$Jacket" "pulls" "[LTheLiningsInIt$Pull;") :: (Cond.classLink RX0 18 RX2) :: (Cond.instantiable RX2 3) :: []
def wsX3_tellItem_r2 : List Cond := (Cond.initialized RX2) :: (Cond.methodLink RX0 70 yX2_init) :: (Cond.instanceMethod yX2_init) :: (Cond.code yX2_init cX2_init 4 none) :: (Cond.methodLink RX2 3 objectInit) :: (Cond.instanceMethod objectInit) :: (Cond.code objectInit ⟨#[0xb1]⟩ 1 none) :: (Cond.fieldLink RX2 9 "TheLiningsInIt$Pull" "kind" "I") :: (Cond.fieldLink RX2 15 "TheLiningsInIt$Pull" "a" "I") :: (Cond.fieldLink RX2 18 "TheLiningsInIt$Pull" "takes" "I") :: (Cond.methodLink RX3 163 yX0_setNumber) :: (Cond.instanceMethod yX0_setNumber) :: (Cond.selects RX0 yX0_setNumber yX0_setNumber) :: (Cond.code yX0_setNumber cX0_setNumber 3 none) :: (Cond.fieldLink RX0 32 "TheLiningsInIt$Jacket" "depth" "I") :: (Cond.fieldLink RX0 38 "TheLiningsInIt$Jacket" "seconds" "I") :: (Cond.fieldLink RX0 41 "TheLiningsInIt$Jacket" "hurry" "I") :: (Cond.fieldLink RX0 12 "TheLiningsInIt$Jacket" "zip" "LTheLiningsInIt$Zip;") :: (Cond.fieldLink RX0 60 "TheLiningsInIt$Zip" "gap" "I") :: (Cond.fieldLink RX0 63 "TheLiningsInIt$Zip" "at" "I") :: (Cond.fieldLink RX0 24 "TheLiningsInIt$Jacket" "costs" "[I") :: (Cond.static yX7_within) :: (Cond.initialized RX7) :: (Cond.code yX7_within cX7_within 3 (some .boolean)) :: []
def wsX3_tellItem : List Cond := (.code yX3_tellItem cX3_tellItem 5 none) :: ((wsX3_tellItem_r1 ++ wsX3_tellItem_r2) ++ wsX30 ++ wsX00 ++ wsX60 ++ wsX20)
def wsX3_tell_r1 : List Cond := (Cond.fieldLink RX3 22 "TheLiningsInIt$Reader" "count" "I") :: (Cond.methodLink RX3 132 yX3_tellItem) :: (Cond.instanceMethod yX3_tellItem) :: (Cond.selects RX3 yX3_tellItem yX3_tellItem) :: (Cond.initialized RX3) :: (Cond.code yX3_tellItem cX3_tellItem 5 none) :: (Cond.fieldLink RX3 11 "TheLiningsInIt$Reader" "items" "[I") :: (Cond.fieldLink RX3 136 "TheLiningsInIt$Jacket" "zip" "LTheLiningsInIt$Zip;") :: (Cond.fieldLink RX3 147 "TheLiningsInIt$Zip" "lacking" "[Z") :: (Cond.fieldLink RX3 151 "TheLiningsInIt$Zip" "slacks" "[I") :: (Cond.fieldLink RX3 158 "TheLiningsInIt$Jacket" "costs" "[I") :: (Cond.fieldLink RX3 161 "TheLiningsInIt$Zip" "at" "I") :: (Cond.methodLink RX3 142 yX6_renew) :: (Cond.instanceMethod yX6_renew) :: (Cond.selects RX6 yX6_renew yX6_renew) :: (Cond.initialized RX6) :: (Cond.code yX6_renew cX6_renew 3 none) :: (Cond.fieldLink RX6 19 "TheLiningsInIt$Zip" "size" "I") :: (Cond.fieldLink RX6 23 "TheLiningsInIt$Zip" "at" "I") :: (Cond.fieldLink RX6 9 "TheLiningsInIt$Zip" "lacking" "[Z") :: (Cond.fieldLink RX6 15 "TheLiningsInIt$Zip" "slacks" "[I") :: (Cond.methodLink RX3 154 yX0_addPull) :: (Cond.instanceMethod yX0_addPull) :: (Cond.selects RX0 yX0_addPull yX0_addPull) :: []
def wsX3_tell_r2 : List Cond := (Cond.initialized RX0) :: (Cond.code yX0_addPull cX0_addPull 4 (some .int)) :: (Cond.fieldLink RX0 28 "TheLiningsInIt$Jacket" "pullCount" "I") :: (Cond.fieldLink RX0 20 "TheLiningsInIt$Jacket" "pulls" "[LTheLiningsInIt$Pull;") :: (Cond.classLink RX0 18 RX2) :: (Cond.instantiable RX2 3) :: (Cond.initialized RX2) :: (Cond.methodLink RX0 70 yX2_init) :: (Cond.instanceMethod yX2_init) :: (Cond.code yX2_init cX2_init 4 none) :: (Cond.methodLink RX2 3 objectInit) :: (Cond.instanceMethod objectInit) :: (Cond.code objectInit ⟨#[0xb1]⟩ 1 none) :: (Cond.fieldLink RX2 9 "TheLiningsInIt$Pull" "kind" "I") :: (Cond.fieldLink RX2 15 "TheLiningsInIt$Pull" "a" "I") :: (Cond.fieldLink RX2 18 "TheLiningsInIt$Pull" "takes" "I") :: (Cond.methodLink RX3 163 yX0_setNumber) :: (Cond.instanceMethod yX0_setNumber) :: (Cond.selects RX0 yX0_setNumber yX0_setNumber) :: (Cond.code yX0_setNumber cX0_setNumber 3 none) :: (Cond.fieldLink RX0 32 "TheLiningsInIt$Jacket" "depth" "I") :: (Cond.fieldLink RX0 38 "TheLiningsInIt$Jacket" "seconds" "I") :: (Cond.fieldLink RX0 41 "TheLiningsInIt$Jacket" "hurry" "I") :: (Cond.fieldLink RX0 12 "TheLiningsInIt$Jacket" "zip" "LTheLiningsInIt$Zip;") :: []
def wsX3_tell_r3 : List Cond := (Cond.fieldLink RX0 60 "TheLiningsInIt$Zip" "gap" "I") :: (Cond.fieldLink RX0 63 "TheLiningsInIt$Zip" "at" "I") :: (Cond.fieldLink RX0 24 "TheLiningsInIt$Jacket" "costs" "[I") :: (Cond.static yX7_within) :: (Cond.initialized RX7) :: (Cond.code yX7_within cX7_within 3 (some .boolean)) :: []
def wsX3_tell : List Cond := (.code yX3_tell cX3_tell 3 none) :: ((wsX3_tell_r1 ++ (wsX3_tell_r2 ++ wsX3_tell_r3)) ++ wsX30 ++ wsX00 ++ wsX60 ++ wsX20)
set_option maxRecDepth 20000 in
theorem ggX0_become_X6_become : GoodIn wsX0_become wsX6_become := goodIn_r _ [18, 19, 20, 21, 22, 23, 33, 34, 35, 36, 37] rfl (by decide +kernel)
set_option maxRecDepth 20000 in
theorem gX0_become_X6_become : GoodIn wsX0_become (wsV RX0 47 RX6 yX6_become wsX6_become) := goodIn_app (goodIn_r _ [14, 15, 16, 17] rfl (by decide +kernel)) ggX0_become_X6_become
theorem dX0_become_0 : decode cX0_become 0 = .ok (.aload_n 0, 1) := by decide +kernel
theorem dX0_become_1 : decode cX0_become 1 = .ok (.getfield 12, 3) := by decide +kernel
theorem dX0_become_4 : decode cX0_become 4 = .ok (.aload_n 1, 1) := by decide +kernel
theorem dX0_become_5 : decode cX0_become 5 = .ok (.getfield 12, 3) := by decide +kernel
theorem dX0_become_8 : decode cX0_become 8 = .ok (.invokevirtual 47, 3) := by decide +kernel
theorem dX0_become_11 : decode cX0_become 11 = .ok (.iconst 0, 1) := by decide +kernel
theorem dX0_become_12 : decode cX0_become 12 = .ok (.istore_n 2, 1) := by decide +kernel
theorem dX0_become_13 : decode cX0_become 13 = .ok (.iload_n 2, 1) := by decide +kernel
theorem dX0_become_14 : decode cX0_become 14 = .ok (.bipush 8, 2) := by decide +kernel
theorem dX0_become_16 : decode cX0_become 16 = .ok (.if_icmp .ge 21, 3) := by decide +kernel
theorem dX0_become_19 : decode cX0_become 19 = .ok (.aload_n 0, 1) := by decide +kernel
theorem dX0_become_20 : decode cX0_become 20 = .ok (.getfield 20, 3) := by decide +kernel
theorem dX0_become_23 : decode cX0_become 23 = .ok (.iload_n 2, 1) := by decide +kernel
theorem dX0_become_24 : decode cX0_become 24 = .ok (.aload_n 1, 1) := by decide +kernel
theorem dX0_become_25 : decode cX0_become 25 = .ok (.getfield 20, 3) := by decide +kernel
theorem dX0_become_28 : decode cX0_become 28 = .ok (.iload_n 2, 1) := by decide +kernel
theorem dX0_become_29 : decode cX0_become 29 = .ok (.aaload, 1) := by decide +kernel
theorem dX0_become_30 : decode cX0_become 30 = .ok (.aastore, 1) := by decide +kernel
theorem dX0_become_31 : decode cX0_become 31 = .ok (.iinc 2 1, 3) := by decide +kernel
theorem dX0_become_34 : decode cX0_become 34 = .ok (.goto (-21), 3) := by decide +kernel
theorem dX0_become_37 : decode cX0_become 37 = .ok (.aload_n 1, 1) := by decide +kernel
theorem dX0_become_38 : decode cX0_become 38 = .ok (.getfield 24, 3) := by decide +kernel
theorem dX0_become_41 : decode cX0_become 41 = .ok (.iconst 0, 1) := by decide +kernel
theorem dX0_become_42 : decode cX0_become 42 = .ok (.aload_n 0, 1) := by decide +kernel
theorem dX0_become_43 : decode cX0_become 43 = .ok (.getfield 24, 3) := by decide +kernel
theorem dX0_become_46 : decode cX0_become 46 = .ok (.iconst 0, 1) := by decide +kernel
theorem dX0_become_47 : decode cX0_become 47 = .ok (.iconst 3, 1) := by decide +kernel
theorem dX0_become_48 : decode cX0_become 48 = .ok (.invokestatic 51, 3) := by decide +kernel
theorem dX0_become_51 : decode cX0_become 51 = .ok (.aload_n 0, 1) := by decide +kernel
theorem dX0_become_52 : decode cX0_become 52 = .ok (.aload_n 1, 1) := by decide +kernel
theorem dX0_become_53 : decode cX0_become 53 = .ok (.getfield 28, 3) := by decide +kernel
theorem dX0_become_56 : decode cX0_become 56 = .ok (.putfield 28, 3) := by decide +kernel
theorem dX0_become_59 : decode cX0_become 59 = .ok (.aload_n 0, 1) := by decide +kernel
theorem dX0_become_60 : decode cX0_become 60 = .ok (.aload_n 1, 1) := by decide +kernel
theorem dX0_become_61 : decode cX0_become 61 = .ok (.getfield 32, 3) := by decide +kernel
theorem dX0_become_64 : decode cX0_become 64 = .ok (.putfield 32, 3) := by decide +kernel
theorem dX0_become_67 : decode cX0_become 67 = .ok (.aload_n 0, 1) := by decide +kernel
theorem dX0_become_68 : decode cX0_become 68 = .ok (.aload_n 1, 1) := by decide +kernel
theorem dX0_become_69 : decode cX0_become 69 = .ok (.getfield 35, 3) := by decide +kernel
theorem dX0_become_72 : decode cX0_become 72 = .ok (.putfield 35, 3) := by decide +kernel
theorem dX0_become_75 : decode cX0_become 75 = .ok (.aload_n 0, 1) := by decide +kernel
theorem dX0_become_76 : decode cX0_become 76 = .ok (.aload_n 1, 1) := by decide +kernel
theorem dX0_become_77 : decode cX0_become 77 = .ok (.getfield 38, 3) := by decide +kernel
theorem dX0_become_80 : decode cX0_become 80 = .ok (.putfield 38, 3) := by decide +kernel
theorem dX0_become_83 : decode cX0_become 83 = .ok (.aload_n 0, 1) := by decide +kernel
theorem dX0_become_84 : decode cX0_become 84 = .ok (.aload_n 1, 1) := by decide +kernel
theorem dX0_become_85 : decode cX0_become 85 = .ok (.getfield 41, 3) := by decide +kernel
theorem dX0_become_88 : decode cX0_become 88 = .ok (.putfield 41, 3) := by decide +kernel
theorem dX0_become_91 : decode cX0_become 91 = .ok (.aload_n 0, 1) := by decide +kernel
theorem dX0_become_92 : decode cX0_become 92 = .ok (.aload_n 1, 1) := by decide +kernel
theorem dX0_become_93 : decode cX0_become 93 = .ok (.getfield 44, 3) := by decide +kernel
theorem dX0_become_96 : decode cX0_become 96 = .ok (.putfield 44, 3) := by decide +kernel
theorem dX0_become_99 : decode cX0_become 99 = .ok (.return_, 1) := by decide +kernel
set_option maxRecDepth 20000 in
theorem ggX0_addPull_X2_init : GoodIn wsX0_addPull wsX2_init := goodIn_r _ [8, 9, 10, 11, 12, 13, 14, 24, 25, 26] rfl (by decide +kernel)
set_option maxRecDepth 20000 in
theorem gX0_addPull_X2_init : GoodIn wsX0_addPull (wsX2_init) := ggX0_addPull_X2_init
theorem dX0_addPull_0 : decode cX0_addPull 0 = .ok (.aload_n 0, 1) := by decide +kernel
theorem dX0_addPull_1 : decode cX0_addPull 1 = .ok (.getfield 28, 3) := by decide +kernel
theorem dX0_addPull_4 : decode cX0_addPull 4 = .ok (.bipush 8, 2) := by decide +kernel
theorem dX0_addPull_6 : decode cX0_addPull 6 = .ok (.if_icmp .lt 5, 3) := by decide +kernel
theorem dX0_addPull_9 : decode cX0_addPull 9 = .ok (.iconst (-1), 1) := by decide +kernel
theorem dX0_addPull_10 : decode cX0_addPull 10 = .ok (.ireturn, 1) := by decide +kernel
theorem dX0_addPull_11 : decode cX0_addPull 11 = .ok (.aload_n 0, 1) := by decide +kernel
theorem dX0_addPull_12 : decode cX0_addPull 12 = .ok (.getfield 20, 3) := by decide +kernel
theorem dX0_addPull_15 : decode cX0_addPull 15 = .ok (.aload_n 0, 1) := by decide +kernel
theorem dX0_addPull_16 : decode cX0_addPull 16 = .ok (.getfield 28, 3) := by decide +kernel
theorem dX0_addPull_19 : decode cX0_addPull 19 = .ok (.new 18, 3) := by decide +kernel
theorem dX0_addPull_22 : decode cX0_addPull 22 = .ok (.dup, 1) := by decide +kernel
theorem dX0_addPull_23 : decode cX0_addPull 23 = .ok (.iload_n 1, 1) := by decide +kernel
theorem dX0_addPull_24 : decode cX0_addPull 24 = .ok (.iload_n 2, 1) := by decide +kernel
theorem dX0_addPull_25 : decode cX0_addPull 25 = .ok (.iload_n 3, 1) := by decide +kernel
theorem dX0_addPull_26 : decode cX0_addPull 26 = .ok (.invokespecial 70, 3) := by decide +kernel
theorem dX0_addPull_29 : decode cX0_addPull 29 = .ok (.aastore, 1) := by decide +kernel
theorem dX0_addPull_30 : decode cX0_addPull 30 = .ok (.aload_n 0, 1) := by decide +kernel
theorem dX0_addPull_31 : decode cX0_addPull 31 = .ok (.dup, 1) := by decide +kernel
theorem dX0_addPull_32 : decode cX0_addPull 32 = .ok (.getfield 28, 3) := by decide +kernel
theorem dX0_addPull_35 : decode cX0_addPull 35 = .ok (.dup_x1, 1) := by decide +kernel
theorem dX0_addPull_36 : decode cX0_addPull 36 = .ok (.iconst 1, 1) := by decide +kernel
theorem dX0_addPull_37 : decode cX0_addPull 37 = .ok (.iadd, 1) := by decide +kernel
theorem dX0_addPull_38 : decode cX0_addPull 38 = .ok (.putfield 28, 3) := by decide +kernel
theorem dX0_addPull_41 : decode cX0_addPull 41 = .ok (.ireturn, 1) := by decide +kernel
theorem dX2_init_0 : decode cX2_init 0 = .ok (.aload_n 0, 1) := by decide +kernel
theorem dX2_init_1 : decode cX2_init 1 = .ok (.invokespecial 3, 3) := by decide +kernel
theorem dX2_init_4 : decode cX2_init 4 = .ok (.aload_n 0, 1) := by decide +kernel
theorem dX2_init_5 : decode cX2_init 5 = .ok (.iload_n 1, 1) := by decide +kernel
theorem dX2_init_6 : decode cX2_init 6 = .ok (.putfield 9, 3) := by decide +kernel
theorem dX2_init_9 : decode cX2_init 9 = .ok (.aload_n 0, 1) := by decide +kernel
theorem dX2_init_10 : decode cX2_init 10 = .ok (.iload_n 2, 1) := by decide +kernel
theorem dX2_init_11 : decode cX2_init 11 = .ok (.putfield 15, 3) := by decide +kernel
theorem dX2_init_14 : decode cX2_init 14 = .ok (.aload_n 0, 1) := by decide +kernel
theorem dX2_init_15 : decode cX2_init 15 = .ok (.iload_n 3, 1) := by decide +kernel
theorem dX2_init_16 : decode cX2_init 16 = .ok (.putfield 18, 3) := by decide +kernel
theorem dX2_init_19 : decode cX2_init 19 = .ok (.return_, 1) := by decide +kernel
set_option maxRecDepth 20000 in
theorem ggX3_read_X3_takeLetters : GoodIn wsX3_read wsX3_takeLetters := goodIn_r _ [11, 12, 13, 14, 15, 16, 6, 17, 18, 19, 20, 21, 22, 23, 24, 25, 26, 27, 28, 137, 138, 139, 129, 130, 131, 132, 133, 134, 135, 136] rfl (by decide +kernel)
set_option maxRecDepth 20000 in
theorem gX3_read_X3_takeLetters : GoodIn wsX3_read (wsV RX3 37 RX3 yX3_takeLetters wsX3_takeLetters) := goodIn_app (goodIn_r _ [7, 8, 9, 10] rfl (by decide +kernel)) ggX3_read_X3_takeLetters
set_option maxRecDepth 20000 in
theorem ggX3_read_X3_readItem : GoodIn wsX3_read wsX3_readItem := goodIn_r _ [32, 33, 4, 1, 2, 34, 35, 36, 10, 37, 38, 39, 15, 40, 3, 41, 42, 43, 44, 45, 46, 47, 48, 49, 50, 51, 52, 53, 54, 55, 56, 57, 58, 59, 60, 61, 62, 63, 64, 65, 66, 67, 68, 69, 70, 71, 72, 73, 74, 75, 76, 77, 78, 79, 80, 81, 82, 83, 84, 85, 86, 87, 88, 89, 90, 91, 92, 93, 94, 95, 96, 97, 98, 99, 100, 6, 17, 101, 102, 103, 104, 105, 106, 107, 108, 109, 110, 111, 112, 113, 114, 115, 116, 117, 118, 119, 120, 121, 122, 123, 124, 125, 126, 127, 128, 129, 130, 131, 132, 133, 134, 135, 136] rfl (by decide +kernel)
set_option maxRecDepth 20000 in
theorem gX3_read_X3_readItem : GoodIn wsX3_read (wsV RX3 41 RX3 yX3_readItem wsX3_readItem) := goodIn_app (goodIn_r _ [29, 30, 31, 10] rfl (by decide +kernel)) ggX3_read_X3_readItem
set_option maxRecDepth 20000 in
theorem ggX3_read_X3_expect : GoodIn wsX3_read wsX3_expect := goodIn_r _ [111, 3, 4, 97, 98, 99, 10, 100, 6, 17, 129, 130, 131, 132, 133, 134, 135, 136] rfl (by decide +kernel)
set_option maxRecDepth 20000 in
theorem gX3_read_X3_expect : GoodIn wsX3_read (wsV RX3 45 RX3 yX3_expect wsX3_expect) := goodIn_app (goodIn_r _ [108, 109, 110, 10] rfl (by decide +kernel)) ggX3_read_X3_expect
theorem dX3_read_0 : decode cX3_read 0 = .ok (.aload_n 0, 1) := by decide +kernel
theorem dX3_read_1 : decode cX3_read 1 = .ok (.aload_n 1, 1) := by decide +kernel
theorem dX3_read_2 : decode cX3_read 2 = .ok (.invokevirtual 37, 3) := by decide +kernel
theorem dX3_read_5 : decode cX3_read 5 = .ok (.aload_n 0, 1) := by decide +kernel
theorem dX3_read_6 : decode cX3_read 6 = .ok (.iload_n 2, 1) := by decide +kernel
theorem dX3_read_7 : decode cX3_read 7 = .ok (.putfield 31, 3) := by decide +kernel
theorem dX3_read_10 : decode cX3_read 10 = .ok (.aload_n 0, 1) := by decide +kernel
theorem dX3_read_11 : decode cX3_read 11 = .ok (.iload_n 3, 1) := by decide +kernel
theorem dX3_read_12 : decode cX3_read 12 = .ok (.putfield 34, 3) := by decide +kernel
theorem dX3_read_15 : decode cX3_read 15 = .ok (.aload_n 0, 1) := by decide +kernel
theorem dX3_read_16 : decode cX3_read 16 = .ok (.iconst 0, 1) := by decide +kernel
theorem dX3_read_17 : decode cX3_read 17 = .ok (.putfield 25, 3) := by decide +kernel
theorem dX3_read_20 : decode cX3_read 20 = .ok (.aload_n 0, 1) := by decide +kernel
theorem dX3_read_21 : decode cX3_read 21 = .ok (.iconst (-1), 1) := by decide +kernel
theorem dX3_read_22 : decode cX3_read 22 = .ok (.putfield 28, 3) := by decide +kernel
theorem dX3_read_25 : decode cX3_read 25 = .ok (.iconst 1, 1) := by decide +kernel
theorem dX3_read_26 : decode cX3_read 26 = .ok (.istore 4, 2) := by decide +kernel
theorem dX3_read_28 : decode cX3_read 28 = .ok (.aload_n 0, 1) := by decide +kernel
theorem dX3_read_29 : decode cX3_read 29 = .ok (.iconst 0, 1) := by decide +kernel
theorem dX3_read_30 : decode cX3_read 30 = .ok (.putfield 22, 3) := by decide +kernel
theorem dX3_read_33 : decode cX3_read 33 = .ok (.iload 4, 2) := by decide +kernel
theorem dX3_read_35 : decode cX3_read 35 = .ok (.ifCond .eq 87, 3) := by decide +kernel
theorem dX3_read_38 : decode cX3_read 38 = .ok (.aload_n 0, 1) := by decide +kernel
theorem dX3_read_39 : decode cX3_read 39 = .ok (.getfield 22, 3) := by decide +kernel
theorem dX3_read_42 : decode cX3_read 42 = .ok (.bipush 33, 2) := by decide +kernel
theorem dX3_read_44 : decode cX3_read 44 = .ok (.if_icmp .ge 78, 3) := by decide +kernel
theorem dX3_read_47 : decode cX3_read 47 = .ok (.aload_n 0, 1) := by decide +kernel
theorem dX3_read_48 : decode cX3_read 48 = .ok (.aload_n 0, 1) := by decide +kernel
theorem dX3_read_49 : decode cX3_read 49 = .ok (.getfield 22, 3) := by decide +kernel
theorem dX3_read_52 : decode cX3_read 52 = .ok (.iconst 4, 1) := by decide +kernel
theorem dX3_read_53 : decode cX3_read 53 = .ok (.imul, 1) := by decide +kernel
theorem dX3_read_54 : decode cX3_read 54 = .ok (.invokevirtual 41, 3) := by decide +kernel
theorem dX3_read_57 : decode cX3_read 57 = .ok (.aload_n 0, 1) := by decide +kernel
theorem dX3_read_58 : decode cX3_read 58 = .ok (.getfield 28, 3) := by decide +kernel
theorem dX3_read_61 : decode cX3_read 61 = .ok (.iconst (-1), 1) := by decide +kernel
theorem dX3_read_62 : decode cX3_read 62 = .ok (.if_icmp .ne 18, 3) := by decide +kernel
theorem dX3_read_65 : decode cX3_read 65 = .ok (.aload_n 0, 1) := by decide +kernel
theorem dX3_read_66 : decode cX3_read 66 = .ok (.getfield 25, 3) := by decide +kernel
theorem dX3_read_69 : decode cX3_read 69 = .ok (.aload_n 0, 1) := by decide +kernel
theorem dX3_read_70 : decode cX3_read 70 = .ok (.getfield 18, 3) := by decide +kernel
theorem dX3_read_73 : decode cX3_read 73 = .ok (.if_icmp .ge 7, 3) := by decide +kernel
theorem dX3_read_76 : decode cX3_read 76 = .ok (.iconst 1, 1) := by decide +kernel
theorem dX3_read_77 : decode cX3_read 77 = .ok (.goto 4, 3) := by decide +kernel
theorem dX3_read_80 : decode cX3_read 80 = .ok (.iconst 0, 1) := by decide +kernel
theorem dX3_read_81 : decode cX3_read 81 = .ok (.istore 4, 2) := by decide +kernel
theorem dX3_read_83 : decode cX3_read 83 = .ok (.iload 4, 2) := by decide +kernel
theorem dX3_read_85 : decode cX3_read 85 = .ok (.ifCond .eq 24, 3) := by decide +kernel
theorem dX3_read_88 : decode cX3_read 88 = .ok (.aload_n 0, 1) := by decide +kernel
theorem dX3_read_89 : decode cX3_read 89 = .ok (.bipush 59, 2) := by decide +kernel
theorem dX3_read_91 : decode cX3_read 91 = .ok (.invokevirtual 45, 3) := by decide +kernel
theorem dX3_read_94 : decode cX3_read 94 = .ok (.aload_n 0, 1) := by decide +kernel
theorem dX3_read_95 : decode cX3_read 95 = .ok (.getfield 28, 3) := by decide +kernel
theorem dX3_read_98 : decode cX3_read 98 = .ok (.iconst (-1), 1) := by decide +kernel
theorem dX3_read_99 : decode cX3_read 99 = .ok (.if_icmp .ne 7, 3) := by decide +kernel
theorem dX3_read_102 : decode cX3_read 102 = .ok (.iconst 1, 1) := by decide +kernel
theorem dX3_read_103 : decode cX3_read 103 = .ok (.goto 4, 3) := by decide +kernel
theorem dX3_read_106 : decode cX3_read 106 = .ok (.iconst 0, 1) := by decide +kernel
theorem dX3_read_107 : decode cX3_read 107 = .ok (.istore 4, 2) := by decide +kernel
theorem dX3_read_109 : decode cX3_read 109 = .ok (.aload_n 0, 1) := by decide +kernel
theorem dX3_read_110 : decode cX3_read 110 = .ok (.dup, 1) := by decide +kernel
theorem dX3_read_111 : decode cX3_read 111 = .ok (.getfield 22, 3) := by decide +kernel
theorem dX3_read_114 : decode cX3_read 114 = .ok (.iconst 1, 1) := by decide +kernel
theorem dX3_read_115 : decode cX3_read 115 = .ok (.iadd, 1) := by decide +kernel
theorem dX3_read_116 : decode cX3_read 116 = .ok (.putfield 22, 3) := by decide +kernel
theorem dX3_read_119 : decode cX3_read 119 = .ok (.goto (-86), 3) := by decide +kernel
theorem dX3_read_122 : decode cX3_read 122 = .ok (.aload_n 0, 1) := by decide +kernel
theorem dX3_read_123 : decode cX3_read 123 = .ok (.getfield 28, 3) := by decide +kernel
theorem dX3_read_126 : decode cX3_read 126 = .ok (.ireturn, 1) := by decide +kernel
set_option maxRecDepth 20000 in
theorem ggX3_takeLetters_X4_tells : GoodIn wsX3_takeLetters wsX4_tells := goodIn_r _ [12, 13, 14, 15, 16, 11, 17, 18, 19, 20, 21] rfl (by decide +kernel)
set_option maxRecDepth 20000 in
theorem gX3_takeLetters_X4_tells : GoodIn wsX3_takeLetters (wsV RX3 58 RX4 yX4_tells wsX4_tells) := goodIn_app (goodIn_r _ [8, 9, 10, 11] rfl (by decide +kernel)) ggX3_takeLetters_X4_tells
theorem dX3_takeLetters_0 : decode cX3_takeLetters 0 = .ok (.aload_n 0, 1) := by decide +kernel
theorem dX3_takeLetters_1 : decode cX3_takeLetters 1 = .ok (.aload_n 1, 1) := by decide +kernel
theorem dX3_takeLetters_2 : decode cX3_takeLetters 2 = .ok (.getfield 49, 3) := by decide +kernel
theorem dX3_takeLetters_5 : decode cX3_takeLetters 5 = .ok (.sipush 160, 3) := by decide +kernel
theorem dX3_takeLetters_8 : decode cX3_takeLetters 8 = .ok (.invokestatic 52, 3) := by decide +kernel
theorem dX3_takeLetters_11 : decode cX3_takeLetters 11 = .ok (.putfield 18, 3) := by decide +kernel
theorem dX3_takeLetters_14 : decode cX3_takeLetters 14 = .ok (.iconst 0, 1) := by decide +kernel
theorem dX3_takeLetters_15 : decode cX3_takeLetters 15 = .ok (.istore_n 2, 1) := by decide +kernel
theorem dX3_takeLetters_16 : decode cX3_takeLetters 16 = .ok (.iload_n 2, 1) := by decide +kernel
theorem dX3_takeLetters_17 : decode cX3_takeLetters 17 = .ok (.aload_n 0, 1) := by decide +kernel
theorem dX3_takeLetters_18 : decode cX3_takeLetters 18 = .ok (.getfield 18, 3) := by decide +kernel
theorem dX3_takeLetters_21 : decode cX3_takeLetters 21 = .ok (.if_icmp .ge 20, 3) := by decide +kernel
theorem dX3_takeLetters_24 : decode cX3_takeLetters 24 = .ok (.aload_n 0, 1) := by decide +kernel
theorem dX3_takeLetters_25 : decode cX3_takeLetters 25 = .ok (.getfield 15, 3) := by decide +kernel
theorem dX3_takeLetters_28 : decode cX3_takeLetters 28 = .ok (.iload_n 2, 1) := by decide +kernel
theorem dX3_takeLetters_29 : decode cX3_takeLetters 29 = .ok (.aload_n 1, 1) := by decide +kernel
theorem dX3_takeLetters_30 : decode cX3_takeLetters 30 = .ok (.iload_n 2, 1) := by decide +kernel
theorem dX3_takeLetters_31 : decode cX3_takeLetters 31 = .ok (.invokevirtual 58, 3) := by decide +kernel
theorem dX3_takeLetters_34 : decode cX3_takeLetters 34 = .ok (.iastore, 1) := by decide +kernel
theorem dX3_takeLetters_35 : decode cX3_takeLetters 35 = .ok (.iinc 2 1, 3) := by decide +kernel
theorem dX3_takeLetters_38 : decode cX3_takeLetters 38 = .ok (.goto (-22), 3) := by decide +kernel
theorem dX3_takeLetters_41 : decode cX3_takeLetters 41 = .ok (.return_, 1) := by decide +kernel
set_option maxRecDepth 20000 in
theorem ggX3_readItem_X3_readWord : GoodIn wsX3_readItem wsX3_readWord := goodIn_r _ [9, 10, 11, 12, 13, 14, 2, 15, 16, 8, 17, 18, 19, 20, 21, 22, 23, 24, 25, 26, 27, 28, 29, 30, 31, 32, 33, 34, 35, 36, 37, 38, 39, 40, 41, 42, 43, 44, 45, 46, 47, 48, 49, 50, 51, 52, 53, 54, 55, 56, 57, 58, 59, 60, 61, 62, 63, 64, 65, 66, 67, 68, 69, 70, 71, 72, 73, 74, 75, 76, 77, 78, 79, 80, 4, 105, 106, 107, 108, 109, 110, 111, 112] rfl (by decide +kernel)
set_option maxRecDepth 20000 in
theorem gX3_readItem_X3_readWord : GoodIn wsX3_readItem (wsV RX3 62 RX3 yX3_readWord wsX3_readWord) := goodIn_app (goodIn_r _ [5, 6, 7, 8] rfl (by decide +kernel)) ggX3_readItem_X3_readWord
set_option maxRecDepth 20000 in
theorem ggX3_readItem_X3_numbersOf : GoodIn wsX3_readItem wsX3_numbersOf := goodIn_r _ [83] rfl (by decide +kernel)
set_option maxRecDepth 20000 in
theorem gX3_readItem_X3_numbersOf : GoodIn wsX3_readItem (va_wsS RX3 66 yX3_numbersOf wsX3_numbersOf) := goodIn_app (goodIn_r _ [81, 82, 8] rfl (by decide +kernel)) ggX3_readItem_X3_numbersOf
set_option maxRecDepth 20000 in
theorem ggX3_readItem_X3_expect : GoodIn wsX3_readItem wsX3_expect := goodIn_r _ [87, 14, 2, 71, 72, 73, 8, 74, 75, 76, 105, 106, 107, 108, 109, 110, 111, 112] rfl (by decide +kernel)
set_option maxRecDepth 20000 in
theorem gX3_readItem_X3_expect : GoodIn wsX3_readItem (wsV RX3 45 RX3 yX3_expect wsX3_expect) := goodIn_app (goodIn_r _ [84, 85, 86, 8] rfl (by decide +kernel)) ggX3_readItem_X3_expect
set_option maxRecDepth 20000 in
theorem ggX3_readItem_X3_leastOf : GoodIn wsX3_readItem wsX3_leastOf := goodIn_r _ [90] rfl (by decide +kernel)
set_option maxRecDepth 20000 in
theorem gX3_readItem_X3_leastOf : GoodIn wsX3_readItem (va_wsS RX3 69 yX3_leastOf wsX3_leastOf) := goodIn_app (goodIn_r _ [88, 89, 8] rfl (by decide +kernel)) ggX3_readItem_X3_leastOf
set_option maxRecDepth 20000 in
theorem ggX3_readItem_X3_mostOf : GoodIn wsX3_readItem wsX3_mostOf := goodIn_r _ [94, 3, 105, 106, 107, 108, 109, 110, 111, 112] rfl (by decide +kernel)
set_option maxRecDepth 20000 in
theorem gX3_readItem_X3_mostOf : GoodIn wsX3_readItem (wsV RX3 72 RX3 yX3_mostOf wsX3_mostOf) := goodIn_app (goodIn_r _ [91, 92, 93, 8] rfl (by decide +kernel)) ggX3_readItem_X3_mostOf
set_option maxRecDepth 20000 in
theorem ggX3_readItem_X3_readNumber : GoodIn wsX3_readItem wsX3_readNumber := goodIn_r _ [98, 14, 75, 76, 2, 99, 100, 8, 101, 102, 103, 104, 105, 106, 107, 108, 109, 110, 111, 112] rfl (by decide +kernel)
set_option maxRecDepth 20000 in
theorem gX3_readItem_X3_readNumber : GoodIn wsX3_readItem (wsV RX3 75 RX3 yX3_readNumber wsX3_readNumber) := goodIn_app (goodIn_r _ [95, 96, 97, 8] rfl (by decide +kernel)) ggX3_readItem_X3_readNumber
theorem dX3_readItem_0 : decode cX3_readItem 0 = .ok (.aload_n 0, 1) := by decide +kernel
theorem dX3_readItem_1 : decode cX3_readItem 1 = .ok (.invokevirtual 62, 3) := by decide +kernel
theorem dX3_readItem_4 : decode cX3_readItem 4 = .ok (.istore_n 2, 1) := by decide +kernel
theorem dX3_readItem_5 : decode cX3_readItem 5 = .ok (.iload_n 2, 1) := by decide +kernel
theorem dX3_readItem_6 : decode cX3_readItem 6 = .ok (.iconst (-1), 1) := by decide +kernel
theorem dX3_readItem_7 : decode cX3_readItem 7 = .ok (.if_icmp .ne 4, 3) := by decide +kernel
theorem dX3_readItem_10 : decode cX3_readItem 10 = .ok (.return_, 1) := by decide +kernel
theorem dX3_readItem_11 : decode cX3_readItem 11 = .ok (.aload_n 0, 1) := by decide +kernel
theorem dX3_readItem_12 : decode cX3_readItem 12 = .ok (.getfield 11, 3) := by decide +kernel
theorem dX3_readItem_15 : decode cX3_readItem 15 = .ok (.iload_n 1, 1) := by decide +kernel
theorem dX3_readItem_16 : decode cX3_readItem 16 = .ok (.iload_n 2, 1) := by decide +kernel
theorem dX3_readItem_17 : decode cX3_readItem 17 = .ok (.iastore, 1) := by decide +kernel
theorem dX3_readItem_18 : decode cX3_readItem 18 = .ok (.iconst 0, 1) := by decide +kernel
theorem dX3_readItem_19 : decode cX3_readItem 19 = .ok (.istore_n 3, 1) := by decide +kernel
theorem dX3_readItem_20 : decode cX3_readItem 20 = .ok (.iload_n 3, 1) := by decide +kernel
theorem dX3_readItem_21 : decode cX3_readItem 21 = .ok (.iload_n 2, 1) := by decide +kernel
theorem dX3_readItem_22 : decode cX3_readItem 22 = .ok (.invokestatic 66, 3) := by decide +kernel
theorem dX3_readItem_25 : decode cX3_readItem 25 = .ok (.if_icmp .ge 57, 3) := by decide +kernel
theorem dX3_readItem_28 : decode cX3_readItem 28 = .ok (.aload_n 0, 1) := by decide +kernel
theorem dX3_readItem_29 : decode cX3_readItem 29 = .ok (.bipush 32, 2) := by decide +kernel
theorem dX3_readItem_31 : decode cX3_readItem 31 = .ok (.invokevirtual 45, 3) := by decide +kernel
theorem dX3_readItem_34 : decode cX3_readItem 34 = .ok (.aload_n 0, 1) := by decide +kernel
theorem dX3_readItem_35 : decode cX3_readItem 35 = .ok (.getfield 28, 3) := by decide +kernel
theorem dX3_readItem_38 : decode cX3_readItem 38 = .ok (.iconst (-1), 1) := by decide +kernel
theorem dX3_readItem_39 : decode cX3_readItem 39 = .ok (.if_icmp .ne 28, 3) := by decide +kernel
theorem dX3_readItem_42 : decode cX3_readItem 42 = .ok (.aload_n 0, 1) := by decide +kernel
theorem dX3_readItem_43 : decode cX3_readItem 43 = .ok (.getfield 11, 3) := by decide +kernel
theorem dX3_readItem_46 : decode cX3_readItem 46 = .ok (.iload_n 1, 1) := by decide +kernel
theorem dX3_readItem_47 : decode cX3_readItem 47 = .ok (.iconst 1, 1) := by decide +kernel
theorem dX3_readItem_48 : decode cX3_readItem 48 = .ok (.iadd, 1) := by decide +kernel
theorem dX3_readItem_49 : decode cX3_readItem 49 = .ok (.iload_n 3, 1) := by decide +kernel
theorem dX3_readItem_50 : decode cX3_readItem 50 = .ok (.iadd, 1) := by decide +kernel
theorem dX3_readItem_51 : decode cX3_readItem 51 = .ok (.aload_n 0, 1) := by decide +kernel
theorem dX3_readItem_52 : decode cX3_readItem 52 = .ok (.iload_n 2, 1) := by decide +kernel
theorem dX3_readItem_53 : decode cX3_readItem 53 = .ok (.iload_n 3, 1) := by decide +kernel
theorem dX3_readItem_54 : decode cX3_readItem 54 = .ok (.invokestatic 69, 3) := by decide +kernel
theorem dX3_readItem_57 : decode cX3_readItem 57 = .ok (.aload_n 0, 1) := by decide +kernel
theorem dX3_readItem_58 : decode cX3_readItem 58 = .ok (.iload_n 2, 1) := by decide +kernel
theorem dX3_readItem_59 : decode cX3_readItem 59 = .ok (.iload_n 3, 1) := by decide +kernel
theorem dX3_readItem_60 : decode cX3_readItem 60 = .ok (.invokevirtual 72, 3) := by decide +kernel
theorem dX3_readItem_63 : decode cX3_readItem 63 = .ok (.invokevirtual 75, 3) := by decide +kernel
theorem dX3_readItem_66 : decode cX3_readItem 66 = .ok (.iastore, 1) := by decide +kernel
theorem dX3_readItem_67 : decode cX3_readItem 67 = .ok (.aload_n 0, 1) := by decide +kernel
theorem dX3_readItem_68 : decode cX3_readItem 68 = .ok (.getfield 28, 3) := by decide +kernel
theorem dX3_readItem_71 : decode cX3_readItem 71 = .ok (.iconst (-1), 1) := by decide +kernel
theorem dX3_readItem_72 : decode cX3_readItem 72 = .ok (.if_icmp .eq 4, 3) := by decide +kernel
theorem dX3_readItem_75 : decode cX3_readItem 75 = .ok (.return_, 1) := by decide +kernel
theorem dX3_readItem_76 : decode cX3_readItem 76 = .ok (.iinc 3 1, 3) := by decide +kernel
theorem dX3_readItem_79 : decode cX3_readItem 79 = .ok (.goto (-59), 3) := by decide +kernel
theorem dX3_readItem_82 : decode cX3_readItem 82 = .ok (.iload_n 2, 1) := by decide +kernel
theorem dX3_readItem_83 : decode cX3_readItem 83 = .ok (.ifCond .ne 18, 3) := by decide +kernel
theorem dX3_readItem_86 : decode cX3_readItem 86 = .ok (.aload_n 0, 1) := by decide +kernel
theorem dX3_readItem_87 : decode cX3_readItem 87 = .ok (.aload_n 0, 1) := by decide +kernel
theorem dX3_readItem_88 : decode cX3_readItem 88 = .ok (.getfield 11, 3) := by decide +kernel
theorem dX3_readItem_91 : decode cX3_readItem 91 = .ok (.iload_n 1, 1) := by decide +kernel
theorem dX3_readItem_92 : decode cX3_readItem 92 = .ok (.iconst 1, 1) := by decide +kernel
theorem dX3_readItem_93 : decode cX3_readItem 93 = .ok (.iadd, 1) := by decide +kernel
theorem dX3_readItem_94 : decode cX3_readItem 94 = .ok (.iaload, 1) := by decide +kernel
theorem dX3_readItem_95 : decode cX3_readItem 95 = .ok (.putfield 31, 3) := by decide +kernel
theorem dX3_readItem_98 : decode cX3_readItem 98 = .ok (.goto 18, 3) := by decide +kernel
theorem dX3_readItem_101 : decode cX3_readItem 101 = .ok (.iload_n 2, 1) := by decide +kernel
theorem dX3_readItem_102 : decode cX3_readItem 102 = .ok (.iconst 3, 1) := by decide +kernel
theorem dX3_readItem_103 : decode cX3_readItem 103 = .ok (.if_icmp .ne 13, 3) := by decide +kernel
theorem dX3_readItem_106 : decode cX3_readItem 106 = .ok (.aload_n 0, 1) := by decide +kernel
theorem dX3_readItem_107 : decode cX3_readItem 107 = .ok (.dup, 1) := by decide +kernel
theorem dX3_readItem_108 : decode cX3_readItem 108 = .ok (.getfield 34, 3) := by decide +kernel
theorem dX3_readItem_111 : decode cX3_readItem 111 = .ok (.iconst 1, 1) := by decide +kernel
theorem dX3_readItem_112 : decode cX3_readItem 112 = .ok (.iadd, 1) := by decide +kernel
theorem dX3_readItem_113 : decode cX3_readItem 113 = .ok (.putfield 34, 3) := by decide +kernel
theorem dX3_readItem_116 : decode cX3_readItem 116 = .ok (.return_, 1) := by decide +kernel
theorem dX3_stands_0 : decode cX3_stands 0 = .ok (.iload_n 1, 1) := by decide +kernel
theorem dX3_stands_1 : decode cX3_stands 1 = .ok (.ifCond .lt 25, 3) := by decide +kernel
theorem dX3_stands_4 : decode cX3_stands 4 = .ok (.iload_n 1, 1) := by decide +kernel
theorem dX3_stands_5 : decode cX3_stands 5 = .ok (.aload_n 0, 1) := by decide +kernel
theorem dX3_stands_6 : decode cX3_stands 6 = .ok (.getfield 18, 3) := by decide +kernel
theorem dX3_stands_9 : decode cX3_stands 9 = .ok (.if_icmp .ge 17, 3) := by decide +kernel
theorem dX3_stands_12 : decode cX3_stands 12 = .ok (.aload_n 0, 1) := by decide +kernel
theorem dX3_stands_13 : decode cX3_stands 13 = .ok (.getfield 15, 3) := by decide +kernel
theorem dX3_stands_16 : decode cX3_stands 16 = .ok (.iload_n 1, 1) := by decide +kernel
theorem dX3_stands_17 : decode cX3_stands 17 = .ok (.iaload, 1) := by decide +kernel
theorem dX3_stands_18 : decode cX3_stands 18 = .ok (.iload_n 2, 1) := by decide +kernel
theorem dX3_stands_19 : decode cX3_stands 19 = .ok (.if_icmp .ne 7, 3) := by decide +kernel
theorem dX3_stands_22 : decode cX3_stands 22 = .ok (.iconst 1, 1) := by decide +kernel
theorem dX3_stands_23 : decode cX3_stands 23 = .ok (.goto 4, 3) := by decide +kernel
theorem dX3_stands_26 : decode cX3_stands 26 = .ok (.iconst 0, 1) := by decide +kernel
theorem dX3_stands_27 : decode cX3_stands 27 = .ok (.ireturn, 1) := by decide +kernel
set_option maxRecDepth 20000 in
theorem ggX3_expect_X3_stands : GoodIn wsX3_expect wsX3_stands := goodIn_r _ [7, 8, 9, 10, 11, 12, 13, 14, 15, 16, 17] rfl (by decide +kernel)
set_option maxRecDepth 20000 in
theorem gX3_expect_X3_stands : GoodIn wsX3_expect (wsV RX3 78 RX3 yX3_stands wsX3_stands) := goodIn_app (goodIn_r _ [3, 4, 5, 6] rfl (by decide +kernel)) ggX3_expect_X3_stands
theorem dX3_expect_0 : decode cX3_expect 0 = .ok (.aload_n 0, 1) := by decide +kernel
theorem dX3_expect_1 : decode cX3_expect 1 = .ok (.aload_n 0, 1) := by decide +kernel
theorem dX3_expect_2 : decode cX3_expect 2 = .ok (.getfield 25, 3) := by decide +kernel
theorem dX3_expect_5 : decode cX3_expect 5 = .ok (.iload_n 1, 1) := by decide +kernel
theorem dX3_expect_6 : decode cX3_expect 6 = .ok (.invokevirtual 78, 3) := by decide +kernel
theorem dX3_expect_9 : decode cX3_expect 9 = .ok (.ifCond .eq 16, 3) := by decide +kernel
theorem dX3_expect_12 : decode cX3_expect 12 = .ok (.aload_n 0, 1) := by decide +kernel
theorem dX3_expect_13 : decode cX3_expect 13 = .ok (.dup, 1) := by decide +kernel
theorem dX3_expect_14 : decode cX3_expect 14 = .ok (.getfield 25, 3) := by decide +kernel
theorem dX3_expect_17 : decode cX3_expect 17 = .ok (.iconst 1, 1) := by decide +kernel
theorem dX3_expect_18 : decode cX3_expect 18 = .ok (.iadd, 1) := by decide +kernel
theorem dX3_expect_19 : decode cX3_expect 19 = .ok (.putfield 25, 3) := by decide +kernel
theorem dX3_expect_22 : decode cX3_expect 22 = .ok (.goto 11, 3) := by decide +kernel
theorem dX3_expect_25 : decode cX3_expect 25 = .ok (.aload_n 0, 1) := by decide +kernel
theorem dX3_expect_26 : decode cX3_expect 26 = .ok (.aload_n 0, 1) := by decide +kernel
theorem dX3_expect_27 : decode cX3_expect 27 = .ok (.getfield 25, 3) := by decide +kernel
theorem dX3_expect_30 : decode cX3_expect 30 = .ok (.putfield 28, 3) := by decide +kernel
theorem dX3_expect_33 : decode cX3_expect 33 = .ok (.return_, 1) := by decide +kernel
set_option maxRecDepth 20000 in
theorem ggX3_readWord_X3_wordAt : GoodIn wsX3_readWord wsX3_wordAt := goodIn_r _ [10] rfl (by decide +kernel)
set_option maxRecDepth 20000 in
theorem gX3_readWord_X3_wordAt : GoodIn wsX3_readWord (va_wsS RX3 82 yX3_wordAt wsX3_wordAt) := goodIn_app (goodIn_r _ [7, 8, 9] rfl (by decide +kernel)) ggX3_readWord_X3_wordAt
set_option maxRecDepth 20000 in
theorem ggX3_readWord_X3_lettersStanding : GoodIn wsX3_readWord wsX3_lettersStanding := goodIn_r _ [14, 5, 15, 16, 17, 18, 19, 20, 21, 22, 23, 24, 25, 26, 27, 28, 29, 30, 31, 32, 33, 34, 35, 36, 37, 38, 39, 40, 41, 42, 43, 44, 45, 46, 47, 48, 49, 50, 51, 52, 53, 54, 55, 56, 57, 58, 59, 60, 61, 62, 63, 64, 65, 66, 9, 67, 68, 69, 75, 76, 77, 78, 79, 80, 81, 82] rfl (by decide +kernel)
set_option maxRecDepth 20000 in
theorem gX3_readWord_X3_lettersStanding : GoodIn wsX3_readWord (wsV RX3 86 RX3 yX3_lettersStanding wsX3_lettersStanding) := goodIn_app (goodIn_r _ [11, 12, 13, 9] rfl (by decide +kernel)) ggX3_readWord_X3_lettersStanding
set_option maxRecDepth 20000 in
theorem ggX3_readWord_J0_length_8abf5 : GoodIn wsX3_readWord wsJ0_length_8abf5 := goodIn_r _ [19, 20, 21, 22, 23, 18, 24, 25, 26] rfl (by decide +kernel)
set_option maxRecDepth 20000 in
theorem gX3_readWord_J0_length_8abf5 : GoodIn wsX3_readWord (wsV RX3 90 RJ0 yJ0_length_8abf5 wsJ0_length_8abf5) := goodIn_app (goodIn_r _ [15, 16, 17, 18] rfl (by decide +kernel)) ggX3_readWord_J0_length_8abf5
set_option maxRecDepth 20000 in
theorem ggX3_readWord_X3_takeWord : GoodIn wsX3_readWord wsX3_takeWord := goodIn_r _ [73, 74, 5, 6, 75, 76, 77, 78, 79, 80, 81, 82] rfl (by decide +kernel)
set_option maxRecDepth 20000 in
theorem gX3_readWord_X3_takeWord : GoodIn wsX3_readWord (wsV RX3 95 RX3 yX3_takeWord wsX3_takeWord) := goodIn_app (goodIn_r _ [70, 71, 72, 9] rfl (by decide +kernel)) ggX3_readWord_X3_takeWord
theorem dX3_readWord_0 : decode cX3_readWord 0 = .ok (.iconst 0, 1) := by decide +kernel
theorem dX3_readWord_1 : decode cX3_readWord 1 = .ok (.istore_n 1, 1) := by decide +kernel
theorem dX3_readWord_2 : decode cX3_readWord 2 = .ok (.iconst 0, 1) := by decide +kernel
theorem dX3_readWord_3 : decode cX3_readWord 3 = .ok (.istore_n 2, 1) := by decide +kernel
theorem dX3_readWord_4 : decode cX3_readWord 4 = .ok (.iload_n 2, 1) := by decide +kernel
theorem dX3_readWord_5 : decode cX3_readWord 5 = .ok (.bipush 10, 2) := by decide +kernel
theorem dX3_readWord_7 : decode cX3_readWord 7 = .ok (.if_icmp .ge 45, 3) := by decide +kernel
theorem dX3_readWord_10 : decode cX3_readWord 10 = .ok (.iload_n 2, 1) := by decide +kernel
theorem dX3_readWord_11 : decode cX3_readWord 11 = .ok (.invokestatic 82, 3) := by decide +kernel
theorem dX3_readWord_14 : decode cX3_readWord 14 = .ok (.astore_n 3, 1) := by decide +kernel
theorem dX3_readWord_15 : decode cX3_readWord 15 = .ok (.aload_n 0, 1) := by decide +kernel
theorem dX3_readWord_16 : decode cX3_readWord 16 = .ok (.aload_n 3, 1) := by decide +kernel
theorem dX3_readWord_17 : decode cX3_readWord 17 = .ok (.invokevirtual 86, 3) := by decide +kernel
theorem dX3_readWord_20 : decode cX3_readWord 20 = .ok (.istore 4, 2) := by decide +kernel
theorem dX3_readWord_22 : decode cX3_readWord 22 = .ok (.iload 4, 2) := by decide +kernel
theorem dX3_readWord_24 : decode cX3_readWord 24 = .ok (.aload_n 3, 1) := by decide +kernel
theorem dX3_readWord_25 : decode cX3_readWord 25 = .ok (.invokevirtual 90, 3) := by decide +kernel
theorem dX3_readWord_28 : decode cX3_readWord 28 = .ok (.if_icmp .ne 11, 3) := by decide +kernel
theorem dX3_readWord_31 : decode cX3_readWord 31 = .ok (.aload_n 0, 1) := by decide +kernel
theorem dX3_readWord_32 : decode cX3_readWord 32 = .ok (.iload_n 2, 1) := by decide +kernel
theorem dX3_readWord_33 : decode cX3_readWord 33 = .ok (.iload 4, 2) := by decide +kernel
theorem dX3_readWord_35 : decode cX3_readWord 35 = .ok (.invokevirtual 95, 3) := by decide +kernel
theorem dX3_readWord_38 : decode cX3_readWord 38 = .ok (.ireturn, 1) := by decide +kernel
theorem dX3_readWord_39 : decode cX3_readWord 39 = .ok (.iload_n 1, 1) := by decide +kernel
theorem dX3_readWord_40 : decode cX3_readWord 40 = .ok (.iload 4, 2) := by decide +kernel
theorem dX3_readWord_42 : decode cX3_readWord 42 = .ok (.invokestatic 98, 3) := by decide +kernel
theorem dX3_readWord_45 : decode cX3_readWord 45 = .ok (.istore_n 1, 1) := by decide +kernel
theorem dX3_readWord_46 : decode cX3_readWord 46 = .ok (.iinc 2 1, 3) := by decide +kernel
theorem dX3_readWord_49 : decode cX3_readWord 49 = .ok (.goto (-45), 3) := by decide +kernel
theorem dX3_readWord_52 : decode cX3_readWord 52 = .ok (.aload_n 0, 1) := by decide +kernel
theorem dX3_readWord_53 : decode cX3_readWord 53 = .ok (.aload_n 0, 1) := by decide +kernel
theorem dX3_readWord_54 : decode cX3_readWord 54 = .ok (.getfield 25, 3) := by decide +kernel
theorem dX3_readWord_57 : decode cX3_readWord 57 = .ok (.iload_n 1, 1) := by decide +kernel
theorem dX3_readWord_58 : decode cX3_readWord 58 = .ok (.iadd, 1) := by decide +kernel
theorem dX3_readWord_59 : decode cX3_readWord 59 = .ok (.putfield 28, 3) := by decide +kernel
theorem dX3_readWord_62 : decode cX3_readWord 62 = .ok (.iconst (-1), 1) := by decide +kernel
theorem dX3_readWord_63 : decode cX3_readWord 63 = .ok (.ireturn, 1) := by decide +kernel
theorem dX3_takeWord_0 : decode cX3_takeWord 0 = .ok (.iload_n 1, 1) := by decide +kernel
theorem dX3_takeWord_1 : decode cX3_takeWord 1 = .ok (.iconst 3, 1) := by decide +kernel
theorem dX3_takeWord_2 : decode cX3_takeWord 2 = .ok (.if_icmp .ne 22, 3) := by decide +kernel
theorem dX3_takeWord_5 : decode cX3_takeWord 5 = .ok (.aload_n 0, 1) := by decide +kernel
theorem dX3_takeWord_6 : decode cX3_takeWord 6 = .ok (.getfield 34, 3) := by decide +kernel
theorem dX3_takeWord_9 : decode cX3_takeWord 9 = .ok (.bipush 8, 2) := by decide +kernel
theorem dX3_takeWord_11 : decode cX3_takeWord 11 = .ok (.if_icmp .lt 13, 3) := by decide +kernel
theorem dX3_takeWord_14 : decode cX3_takeWord 14 = .ok (.aload_n 0, 1) := by decide +kernel
theorem dX3_takeWord_15 : decode cX3_takeWord 15 = .ok (.aload_n 0, 1) := by decide +kernel
theorem dX3_takeWord_16 : decode cX3_takeWord 16 = .ok (.getfield 25, 3) := by decide +kernel
theorem dX3_takeWord_19 : decode cX3_takeWord 19 = .ok (.putfield 28, 3) := by decide +kernel
theorem dX3_takeWord_22 : decode cX3_takeWord 22 = .ok (.iconst (-1), 1) := by decide +kernel
theorem dX3_takeWord_23 : decode cX3_takeWord 23 = .ok (.ireturn, 1) := by decide +kernel
theorem dX3_takeWord_24 : decode cX3_takeWord 24 = .ok (.aload_n 0, 1) := by decide +kernel
theorem dX3_takeWord_25 : decode cX3_takeWord 25 = .ok (.dup, 1) := by decide +kernel
theorem dX3_takeWord_26 : decode cX3_takeWord 26 = .ok (.getfield 25, 3) := by decide +kernel
theorem dX3_takeWord_29 : decode cX3_takeWord 29 = .ok (.iload_n 2, 1) := by decide +kernel
theorem dX3_takeWord_30 : decode cX3_takeWord 30 = .ok (.iadd, 1) := by decide +kernel
theorem dX3_takeWord_31 : decode cX3_takeWord 31 = .ok (.putfield 25, 3) := by decide +kernel
theorem dX3_takeWord_34 : decode cX3_takeWord 34 = .ok (.iload_n 1, 1) := by decide +kernel
theorem dX3_takeWord_35 : decode cX3_takeWord 35 = .ok (.ireturn, 1) := by decide +kernel
set_option maxRecDepth 20000 in
theorem ggX3_lettersStanding_J0_length_8abf5 : GoodIn wsX3_lettersStanding wsJ0_length_8abf5 := goodIn_r _ [6, 7, 8, 9, 10, 5, 11, 12, 13] rfl (by decide +kernel)
set_option maxRecDepth 20000 in
theorem gX3_lettersStanding_J0_length_8abf5 : GoodIn wsX3_lettersStanding (wsV RX3 90 RJ0 yJ0_length_8abf5 wsJ0_length_8abf5) := goodIn_app (goodIn_r _ [2, 3, 4, 5] rfl (by decide +kernel)) ggX3_lettersStanding_J0_length_8abf5
set_option maxRecDepth 20000 in
theorem ggX3_lettersStanding_J0_charAt_5068e : GoodIn wsX3_lettersStanding wsJ0_charAt_5068e := goodIn_r _ [17, 7, 18, 19, 20, 5, 21, 12, 13, 22, 23, 24, 25, 26, 27, 28, 29, 30, 31, 32, 33, 34, 35, 36, 37, 38, 39, 40, 41, 42, 43, 44, 45, 46, 47, 48, 49, 50] rfl (by decide +kernel)
set_option maxRecDepth 20000 in
theorem gX3_lettersStanding_J0_charAt_5068e : GoodIn wsX3_lettersStanding (wsV RX3 101 RJ0 yJ0_charAt_5068e wsJ0_charAt_5068e) := goodIn_app (goodIn_r _ [14, 15, 16, 5] rfl (by decide +kernel)) ggX3_lettersStanding_J0_charAt_5068e
set_option maxRecDepth 20000 in
theorem ggX3_lettersStanding_X3_stands : GoodIn wsX3_lettersStanding wsX3_stands := goodIn_r _ [55, 56, 57, 58, 59, 60, 61, 62, 63, 64, 65] rfl (by decide +kernel)
set_option maxRecDepth 20000 in
theorem gX3_lettersStanding_X3_stands : GoodIn wsX3_lettersStanding (wsV RX3 78 RX3 yX3_stands wsX3_stands) := goodIn_app (goodIn_r _ [51, 52, 53, 54] rfl (by decide +kernel)) ggX3_lettersStanding_X3_stands
theorem dX3_lettersStanding_0 : decode cX3_lettersStanding 0 = .ok (.iconst 0, 1) := by decide +kernel
theorem dX3_lettersStanding_1 : decode cX3_lettersStanding 1 = .ok (.istore_n 2, 1) := by decide +kernel
theorem dX3_lettersStanding_2 : decode cX3_lettersStanding 2 = .ok (.iload_n 2, 1) := by decide +kernel
theorem dX3_lettersStanding_3 : decode cX3_lettersStanding 3 = .ok (.aload_n 1, 1) := by decide +kernel
theorem dX3_lettersStanding_4 : decode cX3_lettersStanding 4 = .ok (.invokevirtual 90, 3) := by decide +kernel
theorem dX3_lettersStanding_7 : decode cX3_lettersStanding 7 = .ok (.if_icmp .ge 27, 3) := by decide +kernel
theorem dX3_lettersStanding_10 : decode cX3_lettersStanding 10 = .ok (.aload_n 0, 1) := by decide +kernel
theorem dX3_lettersStanding_11 : decode cX3_lettersStanding 11 = .ok (.aload_n 0, 1) := by decide +kernel
theorem dX3_lettersStanding_12 : decode cX3_lettersStanding 12 = .ok (.getfield 25, 3) := by decide +kernel
theorem dX3_lettersStanding_15 : decode cX3_lettersStanding 15 = .ok (.iload_n 2, 1) := by decide +kernel
theorem dX3_lettersStanding_16 : decode cX3_lettersStanding 16 = .ok (.iadd, 1) := by decide +kernel
theorem dX3_lettersStanding_17 : decode cX3_lettersStanding 17 = .ok (.aload_n 1, 1) := by decide +kernel
theorem dX3_lettersStanding_18 : decode cX3_lettersStanding 18 = .ok (.iload_n 2, 1) := by decide +kernel
theorem dX3_lettersStanding_19 : decode cX3_lettersStanding 19 = .ok (.invokevirtual 101, 3) := by decide +kernel
theorem dX3_lettersStanding_22 : decode cX3_lettersStanding 22 = .ok (.invokevirtual 78, 3) := by decide +kernel
theorem dX3_lettersStanding_25 : decode cX3_lettersStanding 25 = .ok (.ifCond .eq 9, 3) := by decide +kernel
theorem dX3_lettersStanding_28 : decode cX3_lettersStanding 28 = .ok (.iinc 2 1, 3) := by decide +kernel
theorem dX3_lettersStanding_31 : decode cX3_lettersStanding 31 = .ok (.goto (-29), 3) := by decide +kernel
theorem dX3_lettersStanding_34 : decode cX3_lettersStanding 34 = .ok (.iload_n 2, 1) := by decide +kernel
theorem dX3_lettersStanding_35 : decode cX3_lettersStanding 35 = .ok (.ireturn, 1) := by decide +kernel
set_option maxRecDepth 20000 in
theorem ggX3_readNumber_X3_isDigit : GoodIn wsX3_readNumber wsX3_isDigit := goodIn_r _ [8] rfl (by decide +kernel)
set_option maxRecDepth 20000 in
theorem gX3_readNumber_X3_isDigit : GoodIn wsX3_readNumber (va_wsS RX3 105 yX3_isDigit wsX3_isDigit) := goodIn_app (goodIn_r _ [5, 6, 7] rfl (by decide +kernel)) ggX3_readNumber_X3_isDigit
set_option maxRecDepth 20000 in
theorem ggX3_readNumber_X7_within : GoodIn wsX3_readNumber wsX7_within := goodIn_r _ [11] rfl (by decide +kernel)
set_option maxRecDepth 20000 in
theorem gX3_readNumber_X7_within_n109 : GoodIn wsX3_readNumber (wsX7_within) := ggX3_readNumber_X7_within
theorem dX3_readNumber_0 : decode cX3_readNumber 0 = .ok (.aload_n 0, 1) := by decide +kernel
theorem dX3_readNumber_1 : decode cX3_readNumber 1 = .ok (.getfield 25, 3) := by decide +kernel
theorem dX3_readNumber_4 : decode cX3_readNumber 4 = .ok (.istore_n 3, 1) := by decide +kernel
theorem dX3_readNumber_5 : decode cX3_readNumber 5 = .ok (.iconst 0, 1) := by decide +kernel
theorem dX3_readNumber_6 : decode cX3_readNumber 6 = .ok (.istore 4, 2) := by decide +kernel
theorem dX3_readNumber_8 : decode cX3_readNumber 8 = .ok (.aload_n 0, 1) := by decide +kernel
theorem dX3_readNumber_9 : decode cX3_readNumber 9 = .ok (.getfield 25, 3) := by decide +kernel
theorem dX3_readNumber_12 : decode cX3_readNumber 12 = .ok (.aload_n 0, 1) := by decide +kernel
theorem dX3_readNumber_13 : decode cX3_readNumber 13 = .ok (.getfield 18, 3) := by decide +kernel
theorem dX3_readNumber_16 : decode cX3_readNumber 16 = .ok (.if_icmp .ge 61, 3) := by decide +kernel
theorem dX3_readNumber_19 : decode cX3_readNumber 19 = .ok (.aload_n 0, 1) := by decide +kernel
theorem dX3_readNumber_20 : decode cX3_readNumber 20 = .ok (.getfield 25, 3) := by decide +kernel
theorem dX3_readNumber_23 : decode cX3_readNumber 23 = .ok (.iload_n 3, 1) := by decide +kernel
theorem dX3_readNumber_24 : decode cX3_readNumber 24 = .ok (.iconst 3, 1) := by decide +kernel
theorem dX3_readNumber_25 : decode cX3_readNumber 25 = .ok (.iadd, 1) := by decide +kernel
theorem dX3_readNumber_26 : decode cX3_readNumber 26 = .ok (.if_icmp .ge 51, 3) := by decide +kernel
theorem dX3_readNumber_29 : decode cX3_readNumber 29 = .ok (.aload_n 0, 1) := by decide +kernel
theorem dX3_readNumber_30 : decode cX3_readNumber 30 = .ok (.getfield 15, 3) := by decide +kernel
theorem dX3_readNumber_33 : decode cX3_readNumber 33 = .ok (.aload_n 0, 1) := by decide +kernel
theorem dX3_readNumber_34 : decode cX3_readNumber 34 = .ok (.getfield 25, 3) := by decide +kernel
theorem dX3_readNumber_37 : decode cX3_readNumber 37 = .ok (.iaload, 1) := by decide +kernel
theorem dX3_readNumber_38 : decode cX3_readNumber 38 = .ok (.invokestatic 105, 3) := by decide +kernel
theorem dX3_readNumber_41 : decode cX3_readNumber 41 = .ok (.ifCond .eq 36, 3) := by decide +kernel
theorem dX3_readNumber_44 : decode cX3_readNumber 44 = .ok (.iload 4, 2) := by decide +kernel
theorem dX3_readNumber_46 : decode cX3_readNumber 46 = .ok (.bipush 10, 2) := by decide +kernel
theorem dX3_readNumber_48 : decode cX3_readNumber 48 = .ok (.imul, 1) := by decide +kernel
theorem dX3_readNumber_49 : decode cX3_readNumber 49 = .ok (.aload_n 0, 1) := by decide +kernel
theorem dX3_readNumber_50 : decode cX3_readNumber 50 = .ok (.getfield 15, 3) := by decide +kernel
theorem dX3_readNumber_53 : decode cX3_readNumber 53 = .ok (.aload_n 0, 1) := by decide +kernel
theorem dX3_readNumber_54 : decode cX3_readNumber 54 = .ok (.getfield 25, 3) := by decide +kernel
theorem dX3_readNumber_57 : decode cX3_readNumber 57 = .ok (.iaload, 1) := by decide +kernel
theorem dX3_readNumber_58 : decode cX3_readNumber 58 = .ok (.iadd, 1) := by decide +kernel
theorem dX3_readNumber_59 : decode cX3_readNumber 59 = .ok (.bipush 48, 2) := by decide +kernel
theorem dX3_readNumber_61 : decode cX3_readNumber 61 = .ok (.isub, 1) := by decide +kernel
theorem dX3_readNumber_62 : decode cX3_readNumber 62 = .ok (.istore 4, 2) := by decide +kernel
theorem dX3_readNumber_64 : decode cX3_readNumber 64 = .ok (.aload_n 0, 1) := by decide +kernel
theorem dX3_readNumber_65 : decode cX3_readNumber 65 = .ok (.dup, 1) := by decide +kernel
theorem dX3_readNumber_66 : decode cX3_readNumber 66 = .ok (.getfield 25, 3) := by decide +kernel
theorem dX3_readNumber_69 : decode cX3_readNumber 69 = .ok (.iconst 1, 1) := by decide +kernel
theorem dX3_readNumber_70 : decode cX3_readNumber 70 = .ok (.iadd, 1) := by decide +kernel
theorem dX3_readNumber_71 : decode cX3_readNumber 71 = .ok (.putfield 25, 3) := by decide +kernel
theorem dX3_readNumber_74 : decode cX3_readNumber 74 = .ok (.goto (-66), 3) := by decide +kernel
theorem dX3_readNumber_77 : decode cX3_readNumber 77 = .ok (.aload_n 0, 1) := by decide +kernel
theorem dX3_readNumber_78 : decode cX3_readNumber 78 = .ok (.getfield 25, 3) := by decide +kernel
theorem dX3_readNumber_81 : decode cX3_readNumber 81 = .ok (.iload_n 3, 1) := by decide +kernel
theorem dX3_readNumber_82 : decode cX3_readNumber 82 = .ok (.if_icmp .eq 13, 3) := by decide +kernel
theorem dX3_readNumber_85 : decode cX3_readNumber 85 = .ok (.iload 4, 2) := by decide +kernel
theorem dX3_readNumber_87 : decode cX3_readNumber 87 = .ok (.iload_n 1, 1) := by decide +kernel
theorem dX3_readNumber_88 : decode cX3_readNumber 88 = .ok (.iload_n 2, 1) := by decide +kernel
theorem dX3_readNumber_89 : decode cX3_readNumber 89 = .ok (.invokestatic 109, 3) := by decide +kernel
theorem dX3_readNumber_92 : decode cX3_readNumber 92 = .ok (.ifCond .ne 8, 3) := by decide +kernel
theorem dX3_readNumber_95 : decode cX3_readNumber 95 = .ok (.aload_n 0, 1) := by decide +kernel
theorem dX3_readNumber_96 : decode cX3_readNumber 96 = .ok (.iload_n 3, 1) := by decide +kernel
theorem dX3_readNumber_97 : decode cX3_readNumber 97 = .ok (.putfield 28, 3) := by decide +kernel
theorem dX3_readNumber_100 : decode cX3_readNumber 100 = .ok (.iload 4, 2) := by decide +kernel
theorem dX3_readNumber_102 : decode cX3_readNumber 102 = .ok (.ireturn, 1) := by decide +kernel
theorem dX3_isDigit_0 : decode cX3_isDigit 0 = .ok (.iload_n 0, 1) := by decide +kernel
theorem dX3_isDigit_1 : decode cX3_isDigit 1 = .ok (.bipush 48, 2) := by decide +kernel
theorem dX3_isDigit_3 : decode cX3_isDigit 3 = .ok (.if_icmp .lt 13, 3) := by decide +kernel
theorem dX3_isDigit_6 : decode cX3_isDigit 6 = .ok (.iload_n 0, 1) := by decide +kernel
theorem dX3_isDigit_7 : decode cX3_isDigit 7 = .ok (.bipush 57, 2) := by decide +kernel
theorem dX3_isDigit_9 : decode cX3_isDigit 9 = .ok (.if_icmp .gt 7, 3) := by decide +kernel
theorem dX3_isDigit_12 : decode cX3_isDigit 12 = .ok (.iconst 1, 1) := by decide +kernel
theorem dX3_isDigit_13 : decode cX3_isDigit 13 = .ok (.goto 4, 3) := by decide +kernel
theorem dX3_isDigit_16 : decode cX3_isDigit 16 = .ok (.iconst 0, 1) := by decide +kernel
theorem dX3_isDigit_17 : decode cX3_isDigit 17 = .ok (.ireturn, 1) := by decide +kernel
theorem dX3_wordAt_0 : decode cX3_wordAt 0 = .ok (.iload_n 0, 1) := by decide +kernel
theorem dX3_wordAt_1 : decode cX3_wordAt 1 = .ok (.tableswitch 78 0 8 #[51, 54, 57, 60, 63, 66, 69, 72, 75], 51) := by decide +kernel
theorem dX3_wordAt_52 : decode cX3_wordAt 52 = .ok (.ldc 113, 2) := by decide +kernel
theorem dX3_wordAt_54 : decode cX3_wordAt 54 = .ok (.areturn, 1) := by decide +kernel
theorem dX3_wordAt_55 : decode cX3_wordAt 55 = .ok (.ldc 114, 2) := by decide +kernel
theorem dX3_wordAt_57 : decode cX3_wordAt 57 = .ok (.areturn, 1) := by decide +kernel
theorem dX3_wordAt_58 : decode cX3_wordAt 58 = .ok (.ldc 116, 2) := by decide +kernel
theorem dX3_wordAt_60 : decode cX3_wordAt 60 = .ok (.areturn, 1) := by decide +kernel
theorem dX3_wordAt_61 : decode cX3_wordAt 61 = .ok (.ldc 118, 2) := by decide +kernel
theorem dX3_wordAt_63 : decode cX3_wordAt 63 = .ok (.areturn, 1) := by decide +kernel
theorem dX3_wordAt_64 : decode cX3_wordAt 64 = .ok (.ldc 120, 2) := by decide +kernel
theorem dX3_wordAt_66 : decode cX3_wordAt 66 = .ok (.areturn, 1) := by decide +kernel
theorem dX3_wordAt_67 : decode cX3_wordAt 67 = .ok (.ldc 122, 2) := by decide +kernel
theorem dX3_wordAt_69 : decode cX3_wordAt 69 = .ok (.areturn, 1) := by decide +kernel
theorem dX3_wordAt_70 : decode cX3_wordAt 70 = .ok (.ldc 124, 2) := by decide +kernel
theorem dX3_wordAt_72 : decode cX3_wordAt 72 = .ok (.areturn, 1) := by decide +kernel
theorem dX3_wordAt_73 : decode cX3_wordAt 73 = .ok (.ldc 126, 2) := by decide +kernel
theorem dX3_wordAt_75 : decode cX3_wordAt 75 = .ok (.areturn, 1) := by decide +kernel
theorem dX3_wordAt_76 : decode cX3_wordAt 76 = .ok (.ldc 128, 2) := by decide +kernel
theorem dX3_wordAt_78 : decode cX3_wordAt 78 = .ok (.areturn, 1) := by decide +kernel
theorem dX3_wordAt_79 : decode cX3_wordAt 79 = .ok (.ldc 130, 2) := by decide +kernel
theorem dX3_wordAt_81 : decode cX3_wordAt 81 = .ok (.areturn, 1) := by decide +kernel
theorem dX3_numbersOf_0 : decode cX3_numbersOf 0 = .ok (.iload_n 0, 1) := by decide +kernel
theorem dX3_numbersOf_1 : decode cX3_numbersOf 1 = .ok (.lookupswitch 39 #[(2, 37), (3, 35), (8, 37)], 35) := by decide +kernel
theorem dX3_numbersOf_36 : decode cX3_numbersOf 36 = .ok (.iconst 3, 1) := by decide +kernel
theorem dX3_numbersOf_37 : decode cX3_numbersOf 37 = .ok (.ireturn, 1) := by decide +kernel
theorem dX3_numbersOf_38 : decode cX3_numbersOf 38 = .ok (.iconst 2, 1) := by decide +kernel
theorem dX3_numbersOf_39 : decode cX3_numbersOf 39 = .ok (.ireturn, 1) := by decide +kernel
theorem dX3_numbersOf_40 : decode cX3_numbersOf 40 = .ok (.iconst 1, 1) := by decide +kernel
theorem dX3_numbersOf_41 : decode cX3_numbersOf 41 = .ok (.ireturn, 1) := by decide +kernel
theorem dX3_leastOf_0 : decode cX3_leastOf 0 = .ok (.iload_n 0, 1) := by decide +kernel
theorem dX3_leastOf_1 : decode cX3_leastOf 1 = .ok (.ifCond .ne 5, 3) := by decide +kernel
theorem dX3_leastOf_4 : decode cX3_leastOf 4 = .ok (.iconst 4, 1) := by decide +kernel
theorem dX3_leastOf_5 : decode cX3_leastOf 5 = .ok (.ireturn, 1) := by decide +kernel
theorem dX3_leastOf_6 : decode cX3_leastOf 6 = .ok (.iload_n 0, 1) := by decide +kernel
theorem dX3_leastOf_7 : decode cX3_leastOf 7 = .ok (.bipush 7, 2) := by decide +kernel
theorem dX3_leastOf_9 : decode cX3_leastOf 9 = .ok (.if_icmp .eq 13, 3) := by decide +kernel
theorem dX3_leastOf_12 : decode cX3_leastOf 12 = .ok (.iload_n 0, 1) := by decide +kernel
theorem dX3_leastOf_13 : decode cX3_leastOf 13 = .ok (.iconst 3, 1) := by decide +kernel
theorem dX3_leastOf_14 : decode cX3_leastOf 14 = .ok (.if_icmp .ne 12, 3) := by decide +kernel
theorem dX3_leastOf_17 : decode cX3_leastOf 17 = .ok (.iload_n 1, 1) := by decide +kernel
theorem dX3_leastOf_18 : decode cX3_leastOf 18 = .ok (.iconst 2, 1) := by decide +kernel
theorem dX3_leastOf_19 : decode cX3_leastOf 19 = .ok (.if_icmp .ne 7, 3) := by decide +kernel
theorem dX3_leastOf_22 : decode cX3_leastOf 22 = .ok (.iconst 1, 1) := by decide +kernel
theorem dX3_leastOf_23 : decode cX3_leastOf 23 = .ok (.goto 4, 3) := by decide +kernel
theorem dX3_leastOf_26 : decode cX3_leastOf 26 = .ok (.iconst 0, 1) := by decide +kernel
theorem dX3_leastOf_27 : decode cX3_leastOf 27 = .ok (.ireturn, 1) := by decide +kernel
theorem dX3_mostOf_0 : decode cX3_mostOf 0 = .ok (.iload_n 1, 1) := by decide +kernel
theorem dX3_mostOf_1 : decode cX3_mostOf 1 = .ok (.tableswitch 123 0 8 #[51, 54, 61, 77, 99, 102, 106, 109, 112], 51) := by decide +kernel
theorem dX3_mostOf_52 : decode cX3_mostOf 52 = .ok (.bipush 40, 2) := by decide +kernel
theorem dX3_mostOf_54 : decode cX3_mostOf 54 = .ok (.ireturn, 1) := by decide +kernel
theorem dX3_mostOf_55 : decode cX3_mostOf 55 = .ok (.aload_n 0, 1) := by decide +kernel
theorem dX3_mostOf_56 : decode cX3_mostOf 56 = .ok (.getfield 31, 3) := by decide +kernel
theorem dX3_mostOf_59 : decode cX3_mostOf 59 = .ok (.iconst 1, 1) := by decide +kernel
theorem dX3_mostOf_60 : decode cX3_mostOf 60 = .ok (.isub, 1) := by decide +kernel
theorem dX3_mostOf_61 : decode cX3_mostOf 61 = .ok (.ireturn, 1) := by decide +kernel
theorem dX3_mostOf_62 : decode cX3_mostOf 62 = .ok (.iload_n 2, 1) := by decide +kernel
theorem dX3_mostOf_63 : decode cX3_mostOf 63 = .ok (.ifCond .ne 12, 3) := by decide +kernel
theorem dX3_mostOf_66 : decode cX3_mostOf 66 = .ok (.aload_n 0, 1) := by decide +kernel
theorem dX3_mostOf_67 : decode cX3_mostOf 67 = .ok (.getfield 31, 3) := by decide +kernel
theorem dX3_mostOf_70 : decode cX3_mostOf 70 = .ok (.iconst 1, 1) := by decide +kernel
theorem dX3_mostOf_71 : decode cX3_mostOf 71 = .ok (.isub, 1) := by decide +kernel
theorem dX3_mostOf_72 : decode cX3_mostOf 72 = .ok (.goto 5, 3) := by decide +kernel
theorem dX3_mostOf_75 : decode cX3_mostOf 75 = .ok (.bipush 9, 2) := by decide +kernel
theorem dX3_mostOf_77 : decode cX3_mostOf 77 = .ok (.ireturn, 1) := by decide +kernel
theorem dX3_mostOf_78 : decode cX3_mostOf 78 = .ok (.iload_n 2, 1) := by decide +kernel
theorem dX3_mostOf_79 : decode cX3_mostOf 79 = .ok (.ifCond .ne 8, 3) := by decide +kernel
theorem dX3_mostOf_82 : decode cX3_mostOf 82 = .ok (.bipush 6, 2) := by decide +kernel
theorem dX3_mostOf_84 : decode cX3_mostOf 84 = .ok (.goto 15, 3) := by decide +kernel
theorem dX3_mostOf_87 : decode cX3_mostOf 87 = .ok (.iload_n 2, 1) := by decide +kernel
theorem dX3_mostOf_88 : decode cX3_mostOf 88 = .ok (.iconst 1, 1) := by decide +kernel
theorem dX3_mostOf_89 : decode cX3_mostOf 89 = .ok (.if_icmp .ne 8, 3) := by decide +kernel
theorem dX3_mostOf_92 : decode cX3_mostOf 92 = .ok (.bipush 9, 2) := by decide +kernel
theorem dX3_mostOf_94 : decode cX3_mostOf 94 = .ok (.goto 5, 3) := by decide +kernel
theorem dX3_mostOf_97 : decode cX3_mostOf 97 = .ok (.bipush 60, 2) := by decide +kernel
theorem dX3_mostOf_99 : decode cX3_mostOf 99 = .ok (.ireturn, 1) := by decide +kernel
theorem dX3_mostOf_100 : decode cX3_mostOf 100 = .ok (.bipush 24, 2) := by decide +kernel
theorem dX3_mostOf_102 : decode cX3_mostOf 102 = .ok (.ireturn, 1) := by decide +kernel
theorem dX3_mostOf_103 : decode cX3_mostOf 103 = .ok (.sipush 300, 3) := by decide +kernel
theorem dX3_mostOf_106 : decode cX3_mostOf 106 = .ok (.ireturn, 1) := by decide +kernel
theorem dX3_mostOf_107 : decode cX3_mostOf 107 = .ok (.bipush 9, 2) := by decide +kernel
theorem dX3_mostOf_109 : decode cX3_mostOf 109 = .ok (.ireturn, 1) := by decide +kernel
theorem dX3_mostOf_110 : decode cX3_mostOf 110 = .ok (.bipush 9, 2) := by decide +kernel
theorem dX3_mostOf_112 : decode cX3_mostOf 112 = .ok (.ireturn, 1) := by decide +kernel
theorem dX3_mostOf_113 : decode cX3_mostOf 113 = .ok (.iload_n 2, 1) := by decide +kernel
theorem dX3_mostOf_114 : decode cX3_mostOf 114 = .ok (.ifCond .ne 7, 3) := by decide +kernel
theorem dX3_mostOf_117 : decode cX3_mostOf 117 = .ok (.iconst 2, 1) := by decide +kernel
theorem dX3_mostOf_118 : decode cX3_mostOf 118 = .ok (.goto 5, 3) := by decide +kernel
theorem dX3_mostOf_121 : decode cX3_mostOf 121 = .ok (.bipush 99, 2) := by decide +kernel
theorem dX3_mostOf_123 : decode cX3_mostOf 123 = .ok (.ireturn, 1) := by decide +kernel
theorem dX3_mostOf_124 : decode cX3_mostOf 124 = .ok (.aload_n 0, 1) := by decide +kernel
theorem dX3_mostOf_125 : decode cX3_mostOf 125 = .ok (.getfield 31, 3) := by decide +kernel
theorem dX3_mostOf_128 : decode cX3_mostOf 128 = .ok (.ireturn, 1) := by decide +kernel
set_option maxRecDepth 20000 in
theorem ggX3_tell_X3_tellItem : GoodIn wsX3_tell wsX3_tellItem := goodIn_r _ [6, 7, 8, 9, 10, 11, 12, 13, 14, 15, 16, 17, 18, 19, 20, 21, 22, 23, 24, 25, 26, 27, 28, 29, 30, 31, 32, 33, 34, 35, 36, 37, 38, 39, 40, 41, 42, 43, 44, 45, 46, 47, 48, 49, 50, 51, 52, 53, 54, 55, 56, 57, 58, 59, 60, 61, 62, 63, 64, 65, 66, 67, 68, 69, 70, 71, 72, 73, 74, 75, 76, 77, 78, 79] rfl (by decide +kernel)
set_option maxRecDepth 20000 in
theorem gX3_tell_X3_tellItem : GoodIn wsX3_tell (wsV RX3 132 RX3 yX3_tellItem wsX3_tellItem) := goodIn_app (goodIn_r _ [2, 3, 4, 5] rfl (by decide +kernel)) ggX3_tell_X3_tellItem
theorem dX3_tell_0 : decode cX3_tell 0 = .ok (.iconst 0, 1) := by decide +kernel
theorem dX3_tell_1 : decode cX3_tell 1 = .ok (.istore_n 2, 1) := by decide +kernel
theorem dX3_tell_2 : decode cX3_tell 2 = .ok (.iload_n 2, 1) := by decide +kernel
theorem dX3_tell_3 : decode cX3_tell 3 = .ok (.aload_n 0, 1) := by decide +kernel
theorem dX3_tell_4 : decode cX3_tell 4 = .ok (.getfield 22, 3) := by decide +kernel
theorem dX3_tell_7 : decode cX3_tell 7 = .ok (.if_icmp .ge 17, 3) := by decide +kernel
theorem dX3_tell_10 : decode cX3_tell 10 = .ok (.aload_n 0, 1) := by decide +kernel
theorem dX3_tell_11 : decode cX3_tell 11 = .ok (.aload_n 1, 1) := by decide +kernel
theorem dX3_tell_12 : decode cX3_tell 12 = .ok (.iload_n 2, 1) := by decide +kernel
theorem dX3_tell_13 : decode cX3_tell 13 = .ok (.iconst 4, 1) := by decide +kernel
theorem dX3_tell_14 : decode cX3_tell 14 = .ok (.imul, 1) := by decide +kernel
theorem dX3_tell_15 : decode cX3_tell 15 = .ok (.invokevirtual 132, 3) := by decide +kernel
theorem dX3_tell_18 : decode cX3_tell 18 = .ok (.iinc 2 1, 3) := by decide +kernel
theorem dX3_tell_21 : decode cX3_tell 21 = .ok (.goto (-19), 3) := by decide +kernel
theorem dX3_tell_24 : decode cX3_tell 24 = .ok (.return_, 1) := by decide +kernel
set_option maxRecDepth 20000 in
theorem ggX3_tellItem_X6_renew : GoodIn wsX3_tellItem wsX6_renew := goodIn_r _ [11, 12, 13, 14, 15, 66, 67, 68, 69, 70] rfl (by decide +kernel)
set_option maxRecDepth 20000 in
theorem gX3_tellItem_X6_renew : GoodIn wsX3_tellItem (wsV RX3 142 RX6 yX6_renew wsX6_renew) := goodIn_app (goodIn_r _ [7, 8, 9, 10] rfl (by decide +kernel)) ggX3_tellItem_X6_renew
set_option maxRecDepth 20000 in
theorem ggX3_tellItem_X0_addPull : GoodIn wsX3_tellItem wsX0_addPull := goodIn_r _ [20, 21, 22, 23, 24, 25, 26, 27, 28, 29, 30, 31, 32, 33, 34, 57, 58, 59, 60, 61, 62, 63, 64, 65, 71, 72, 73] rfl (by decide +kernel)
set_option maxRecDepth 20000 in
theorem gX3_tellItem_X0_addPull : GoodIn wsX3_tellItem (wsV RX3 154 RX0 yX0_addPull wsX0_addPull) := goodIn_app (goodIn_r _ [16, 17, 18, 19] rfl (by decide +kernel)) ggX3_tellItem_X0_addPull
set_option maxRecDepth 20000 in
theorem ggX3_tellItem_X0_setNumber : GoodIn wsX3_tellItem wsX0_setNumber := goodIn_r _ [38, 39, 40, 41, 42, 43, 44, 45, 46, 47, 48, 57, 58, 59, 60, 61, 62, 63, 64, 65, 66, 67, 68, 69, 70] rfl (by decide +kernel)
set_option maxRecDepth 20000 in
theorem gX3_tellItem_X0_setNumber : GoodIn wsX3_tellItem (wsV RX3 163 RX0 yX0_setNumber wsX0_setNumber) := goodIn_app (goodIn_r _ [35, 36, 37, 19] rfl (by decide +kernel)) ggX3_tellItem_X0_setNumber
theorem dX3_tellItem_0 : decode cX3_tellItem 0 = .ok (.aload_n 0, 1) := by decide +kernel
theorem dX3_tellItem_1 : decode cX3_tellItem 1 = .ok (.getfield 11, 3) := by decide +kernel
theorem dX3_tellItem_4 : decode cX3_tellItem 4 = .ok (.iload_n 2, 1) := by decide +kernel
theorem dX3_tellItem_5 : decode cX3_tellItem 5 = .ok (.iconst 1, 1) := by decide +kernel
theorem dX3_tellItem_6 : decode cX3_tellItem 6 = .ok (.iadd, 1) := by decide +kernel
theorem dX3_tellItem_7 : decode cX3_tellItem 7 = .ok (.iaload, 1) := by decide +kernel
theorem dX3_tellItem_8 : decode cX3_tellItem 8 = .ok (.istore_n 3, 1) := by decide +kernel
theorem dX3_tellItem_9 : decode cX3_tellItem 9 = .ok (.aload_n 0, 1) := by decide +kernel
theorem dX3_tellItem_10 : decode cX3_tellItem 10 = .ok (.getfield 11, 3) := by decide +kernel
theorem dX3_tellItem_13 : decode cX3_tellItem 13 = .ok (.iload_n 2, 1) := by decide +kernel
theorem dX3_tellItem_14 : decode cX3_tellItem 14 = .ok (.iconst 2, 1) := by decide +kernel
theorem dX3_tellItem_15 : decode cX3_tellItem 15 = .ok (.iadd, 1) := by decide +kernel
theorem dX3_tellItem_16 : decode cX3_tellItem 16 = .ok (.iaload, 1) := by decide +kernel
theorem dX3_tellItem_17 : decode cX3_tellItem 17 = .ok (.istore 4, 2) := by decide +kernel
theorem dX3_tellItem_19 : decode cX3_tellItem 19 = .ok (.aload_n 0, 1) := by decide +kernel
theorem dX3_tellItem_20 : decode cX3_tellItem 20 = .ok (.getfield 11, 3) := by decide +kernel
theorem dX3_tellItem_23 : decode cX3_tellItem 23 = .ok (.iload_n 2, 1) := by decide +kernel
theorem dX3_tellItem_24 : decode cX3_tellItem 24 = .ok (.iaload, 1) := by decide +kernel
theorem dX3_tellItem_25 : decode cX3_tellItem 25 = .ok (.tableswitch 134 0 9 #[55, 66, 79, 93, 134, 134, 134, 134, 112, 123], 55) := by decide +kernel
theorem dX3_tellItem_80 : decode cX3_tellItem 80 = .ok (.aload_n 1, 1) := by decide +kernel
theorem dX3_tellItem_81 : decode cX3_tellItem 81 = .ok (.getfield 136, 3) := by decide +kernel
theorem dX3_tellItem_84 : decode cX3_tellItem 84 = .ok (.iload_n 3, 1) := by decide +kernel
theorem dX3_tellItem_85 : decode cX3_tellItem 85 = .ok (.invokevirtual 142, 3) := by decide +kernel
theorem dX3_tellItem_88 : decode cX3_tellItem 88 = .ok (.goto 84, 3) := by decide +kernel
theorem dX3_tellItem_91 : decode cX3_tellItem 91 = .ok (.aload_n 1, 1) := by decide +kernel
theorem dX3_tellItem_92 : decode cX3_tellItem 92 = .ok (.getfield 136, 3) := by decide +kernel
theorem dX3_tellItem_95 : decode cX3_tellItem 95 = .ok (.getfield 147, 3) := by decide +kernel
theorem dX3_tellItem_98 : decode cX3_tellItem 98 = .ok (.iload_n 3, 1) := by decide +kernel
theorem dX3_tellItem_99 : decode cX3_tellItem 99 = .ok (.iconst 1, 1) := by decide +kernel
theorem dX3_tellItem_100 : decode cX3_tellItem 100 = .ok (.bastore, 1) := by decide +kernel
theorem dX3_tellItem_101 : decode cX3_tellItem 101 = .ok (.goto 71, 3) := by decide +kernel
theorem dX3_tellItem_104 : decode cX3_tellItem 104 = .ok (.aload_n 1, 1) := by decide +kernel
theorem dX3_tellItem_105 : decode cX3_tellItem 105 = .ok (.getfield 136, 3) := by decide +kernel
theorem dX3_tellItem_108 : decode cX3_tellItem 108 = .ok (.getfield 151, 3) := by decide +kernel
theorem dX3_tellItem_111 : decode cX3_tellItem 111 = .ok (.iload_n 3, 1) := by decide +kernel
theorem dX3_tellItem_112 : decode cX3_tellItem 112 = .ok (.iload 4, 2) := by decide +kernel
theorem dX3_tellItem_114 : decode cX3_tellItem 114 = .ok (.iastore, 1) := by decide +kernel
theorem dX3_tellItem_115 : decode cX3_tellItem 115 = .ok (.goto 57, 3) := by decide +kernel
theorem dX3_tellItem_118 : decode cX3_tellItem 118 = .ok (.aload_n 1, 1) := by decide +kernel
theorem dX3_tellItem_119 : decode cX3_tellItem 119 = .ok (.iload_n 3, 1) := by decide +kernel
theorem dX3_tellItem_120 : decode cX3_tellItem 120 = .ok (.iload 4, 2) := by decide +kernel
theorem dX3_tellItem_122 : decode cX3_tellItem 122 = .ok (.aload_n 0, 1) := by decide +kernel
theorem dX3_tellItem_123 : decode cX3_tellItem 123 = .ok (.getfield 11, 3) := by decide +kernel
theorem dX3_tellItem_126 : decode cX3_tellItem 126 = .ok (.iload_n 2, 1) := by decide +kernel
theorem dX3_tellItem_127 : decode cX3_tellItem 127 = .ok (.iconst 3, 1) := by decide +kernel
theorem dX3_tellItem_128 : decode cX3_tellItem 128 = .ok (.iadd, 1) := by decide +kernel
theorem dX3_tellItem_129 : decode cX3_tellItem 129 = .ok (.iaload, 1) := by decide +kernel
theorem dX3_tellItem_130 : decode cX3_tellItem 130 = .ok (.invokevirtual 154, 3) := by decide +kernel
theorem dX3_tellItem_133 : decode cX3_tellItem 133 = .ok (.pop, 1) := by decide +kernel
theorem dX3_tellItem_134 : decode cX3_tellItem 134 = .ok (.goto 38, 3) := by decide +kernel
theorem dX3_tellItem_137 : decode cX3_tellItem 137 = .ok (.aload_n 1, 1) := by decide +kernel
theorem dX3_tellItem_138 : decode cX3_tellItem 138 = .ok (.getfield 158, 3) := by decide +kernel
theorem dX3_tellItem_141 : decode cX3_tellItem 141 = .ok (.iload_n 3, 1) := by decide +kernel
theorem dX3_tellItem_142 : decode cX3_tellItem 142 = .ok (.iload 4, 2) := by decide +kernel
theorem dX3_tellItem_144 : decode cX3_tellItem 144 = .ok (.iastore, 1) := by decide +kernel
theorem dX3_tellItem_145 : decode cX3_tellItem 145 = .ok (.goto 27, 3) := by decide +kernel
theorem dX3_tellItem_148 : decode cX3_tellItem 148 = .ok (.aload_n 1, 1) := by decide +kernel
theorem dX3_tellItem_149 : decode cX3_tellItem 149 = .ok (.getfield 136, 3) := by decide +kernel
theorem dX3_tellItem_152 : decode cX3_tellItem 152 = .ok (.iload_n 3, 1) := by decide +kernel
theorem dX3_tellItem_153 : decode cX3_tellItem 153 = .ok (.putfield 161, 3) := by decide +kernel
theorem dX3_tellItem_156 : decode cX3_tellItem 156 = .ok (.goto 16, 3) := by decide +kernel
theorem dX3_tellItem_159 : decode cX3_tellItem 159 = .ok (.aload_n 1, 1) := by decide +kernel
theorem dX3_tellItem_160 : decode cX3_tellItem 160 = .ok (.aload_n 0, 1) := by decide +kernel
theorem dX3_tellItem_161 : decode cX3_tellItem 161 = .ok (.getfield 11, 3) := by decide +kernel
theorem dX3_tellItem_164 : decode cX3_tellItem 164 = .ok (.iload_n 2, 1) := by decide +kernel
theorem dX3_tellItem_165 : decode cX3_tellItem 165 = .ok (.iaload, 1) := by decide +kernel
theorem dX3_tellItem_166 : decode cX3_tellItem 166 = .ok (.iconst 4, 1) := by decide +kernel
theorem dX3_tellItem_167 : decode cX3_tellItem 167 = .ok (.isub, 1) := by decide +kernel
theorem dX3_tellItem_168 : decode cX3_tellItem 168 = .ok (.iload_n 3, 1) := by decide +kernel
theorem dX3_tellItem_169 : decode cX3_tellItem 169 = .ok (.invokevirtual 163, 3) := by decide +kernel
theorem dX3_tellItem_172 : decode cX3_tellItem 172 = .ok (.return_, 1) := by decide +kernel
set_option maxRecDepth 20000 in
theorem ggJ0_length_8abf5_J0_coder_7d493 : GoodIn wsJ0_length_8abf5 wsJ0_coder_7d493 := goodIn_r _ [6, 7, 8] rfl (by decide +kernel)
set_option maxRecDepth 20000 in
theorem gJ0_length_8abf5_J0_coder_7d493 : GoodIn wsJ0_length_8abf5 (wsV RJ0 335 RJ0 yJ0_coder_7d493 wsJ0_coder_7d493) := goodIn_app (goodIn_r _ [2, 3, 4, 5] rfl (by decide +kernel)) ggJ0_length_8abf5_J0_coder_7d493
theorem dJ0_length_8abf5_0 : decode cJ0_length_8abf5 0 = .ok (.aload_n 0, 1) := by decide +kernel
theorem dJ0_length_8abf5_1 : decode cJ0_length_8abf5 1 = .ok (.getfield 9, 3) := by decide +kernel
theorem dJ0_length_8abf5_4 : decode cJ0_length_8abf5 4 = .ok (.arraylength, 1) := by decide +kernel
theorem dJ0_length_8abf5_5 : decode cJ0_length_8abf5 5 = .ok (.aload_n 0, 1) := by decide +kernel
theorem dJ0_length_8abf5_6 : decode cJ0_length_8abf5 6 = .ok (.invokevirtual 335, 3) := by decide +kernel
theorem dJ0_length_8abf5_9 : decode cJ0_length_8abf5 9 = .ok (.ishr, 1) := by decide +kernel
theorem dJ0_length_8abf5_10 : decode cJ0_length_8abf5 10 = .ok (.ireturn, 1) := by decide +kernel
set_option maxRecDepth 20000 in
theorem ggJ0_charAt_5068e_J0_isLatin1_aae02 : GoodIn wsJ0_charAt_5068e wsJ0_isLatin1_aae02 := goodIn_r _ [6, 7, 8] rfl (by decide +kernel)
set_option maxRecDepth 20000 in
theorem gJ0_charAt_5068e_J0_isLatin1_aae02 : GoodIn wsJ0_charAt_5068e (wsV RJ0 492 RJ0 yJ0_isLatin1_aae02 wsJ0_isLatin1_aae02) := goodIn_app (goodIn_r _ [2, 3, 4, 5] rfl (by decide +kernel)) ggJ0_charAt_5068e_J0_isLatin1_aae02
set_option maxRecDepth 20000 in
theorem ggJ0_charAt_5068e_J1_charAt_3b067 : GoodIn wsJ0_charAt_5068e wsJ1_charAt_3b067 := goodIn_r _ [12, 13, 14, 5, 15, 16, 17, 18, 19, 20] rfl (by decide +kernel)
set_option maxRecDepth 20000 in
theorem gJ0_charAt_5068e_J1_charAt_3b067 : GoodIn wsJ0_charAt_5068e (va_wsS RJ0 495 yJ1_charAt_3b067 wsJ1_charAt_3b067) := goodIn_app (goodIn_r _ [9, 10, 11] rfl (by decide +kernel)) ggJ0_charAt_5068e_J1_charAt_3b067
theorem dJ0_charAt_5068e_0 : decode cJ0_charAt_5068e 0 = .ok (.aload_n 0, 1) := by decide +kernel
theorem dJ0_charAt_5068e_1 : decode cJ0_charAt_5068e 1 = .ok (.invokevirtual 492, 3) := by decide +kernel
theorem dJ0_charAt_5068e_4 : decode cJ0_charAt_5068e 4 = .ok (.ifCond .eq 12, 3) := by decide +kernel
theorem dJ0_charAt_5068e_7 : decode cJ0_charAt_5068e 7 = .ok (.aload_n 0, 1) := by decide +kernel
theorem dJ0_charAt_5068e_8 : decode cJ0_charAt_5068e 8 = .ok (.getfield 9, 3) := by decide +kernel
theorem dJ0_charAt_5068e_11 : decode cJ0_charAt_5068e 11 = .ok (.iload_n 1, 1) := by decide +kernel
theorem dJ0_charAt_5068e_12 : decode cJ0_charAt_5068e 12 = .ok (.invokestatic 495, 3) := by decide +kernel
theorem dJ0_charAt_5068e_15 : decode cJ0_charAt_5068e 15 = .ok (.ireturn, 1) := by decide +kernel
theorem dJ0_coder_7d493_0 : decode cJ0_coder_7d493 0 = .ok (.getstatic 38, 3) := by decide +kernel
theorem dJ0_coder_7d493_3 : decode cJ0_coder_7d493 3 = .ok (.ifCond .eq 10, 3) := by decide +kernel
theorem dJ0_coder_7d493_6 : decode cJ0_coder_7d493 6 = .ok (.aload_n 0, 1) := by decide +kernel
theorem dJ0_coder_7d493_7 : decode cJ0_coder_7d493 7 = .ok (.getfield 15, 3) := by decide +kernel
theorem dJ0_coder_7d493_10 : decode cJ0_coder_7d493 10 = .ok (.goto 4, 3) := by decide +kernel
theorem dJ0_coder_7d493_14 : decode cJ0_coder_7d493 14 = .ok (.ireturn, 1) := by decide +kernel
theorem dJ0_isLatin1_aae02_0 : decode cJ0_isLatin1_aae02 0 = .ok (.getstatic 38, 3) := by decide +kernel
theorem dJ0_isLatin1_aae02_3 : decode cJ0_isLatin1_aae02 3 = .ok (.ifCond .eq 14, 3) := by decide +kernel
theorem dJ0_isLatin1_aae02_6 : decode cJ0_isLatin1_aae02 6 = .ok (.aload_n 0, 1) := by decide +kernel
theorem dJ0_isLatin1_aae02_7 : decode cJ0_isLatin1_aae02 7 = .ok (.getfield 15, 3) := by decide +kernel
theorem dJ0_isLatin1_aae02_10 : decode cJ0_isLatin1_aae02 10 = .ok (.ifCond .ne 7, 3) := by decide +kernel
theorem dJ0_isLatin1_aae02_13 : decode cJ0_isLatin1_aae02 13 = .ok (.iconst 1, 1) := by decide +kernel
theorem dJ0_isLatin1_aae02_14 : decode cJ0_isLatin1_aae02 14 = .ok (.goto 4, 3) := by decide +kernel
theorem dJ0_isLatin1_aae02_18 : decode cJ0_isLatin1_aae02 18 = .ok (.ireturn, 1) := by decide +kernel
set_option maxRecDepth 20000 in
theorem ggJ0_checkIndex_df160_J3_checkIndex_8e157 : GoodIn wsJ0_checkIndex_df160 wsJ3_checkIndex_8e157 := goodIn_r _ [5] rfl (by decide +kernel)
set_option maxRecDepth 20000 in
theorem gJ0_checkIndex_df160_J3_checkIndex_8e157 : GoodIn wsJ0_checkIndex_df160 (va_wsS RJ0 1059 yJ3_checkIndex_8e157 wsJ3_checkIndex_8e157) := goodIn_app (goodIn_r _ [2, 3, 4] rfl (by decide +kernel)) ggJ0_checkIndex_df160_J3_checkIndex_8e157
theorem dJ0_checkIndex_df160_0 : decode cJ0_checkIndex_df160 0 = .ok (.iload_n 0, 1) := by decide +kernel
theorem dJ0_checkIndex_df160_1 : decode cJ0_checkIndex_df160 1 = .ok (.iload_n 1, 1) := by decide +kernel
theorem dJ0_checkIndex_df160_2 : decode cJ0_checkIndex_df160 2 = .ok (.getstatic 1053, 3) := by decide +kernel
theorem dJ0_checkIndex_df160_5 : decode cJ0_checkIndex_df160 5 = .ok (.invokestatic 1059, 3) := by decide +kernel
theorem dJ0_checkIndex_df160_8 : decode cJ0_checkIndex_df160 8 = .ok (.pop, 1) := by decide +kernel
theorem dJ0_checkIndex_df160_9 : decode cJ0_checkIndex_df160 9 = .ok (.return_, 1) := by decide +kernel
set_option maxRecDepth 20000 in
theorem ggJ1_charAt_3b067_J0_checkIndex_df160 : GoodIn wsJ1_charAt_3b067 wsJ0_checkIndex_df160 := goodIn_r _ [4, 5, 6, 7, 8, 9] rfl (by decide +kernel)
set_option maxRecDepth 20000 in
theorem gJ1_charAt_3b067_J0_checkIndex_df160 : GoodIn wsJ1_charAt_3b067 (va_wsS RJ1 9 yJ0_checkIndex_df160 wsJ0_checkIndex_df160) := goodIn_app (goodIn_r _ [1, 2, 3] rfl (by decide +kernel)) ggJ1_charAt_3b067_J0_checkIndex_df160
theorem dJ1_charAt_3b067_0 : decode cJ1_charAt_3b067 0 = .ok (.iload_n 1, 1) := by decide +kernel
theorem dJ1_charAt_3b067_1 : decode cJ1_charAt_3b067 1 = .ok (.aload_n 0, 1) := by decide +kernel
theorem dJ1_charAt_3b067_2 : decode cJ1_charAt_3b067 2 = .ok (.arraylength, 1) := by decide +kernel
theorem dJ1_charAt_3b067_3 : decode cJ1_charAt_3b067 3 = .ok (.invokestatic 9, 3) := by decide +kernel
theorem dJ1_charAt_3b067_6 : decode cJ1_charAt_3b067 6 = .ok (.aload_n 0, 1) := by decide +kernel
theorem dJ1_charAt_3b067_7 : decode cJ1_charAt_3b067 7 = .ok (.iload_n 1, 1) := by decide +kernel
theorem dJ1_charAt_3b067_8 : decode cJ1_charAt_3b067 8 = .ok (.baload, 1) := by decide +kernel
theorem dJ1_charAt_3b067_9 : decode cJ1_charAt_3b067 9 = .ok (.sipush 255, 3) := by decide +kernel
theorem dJ1_charAt_3b067_12 : decode cJ1_charAt_3b067 12 = .ok (.iand, 1) := by decide +kernel
theorem dJ1_charAt_3b067_13 : decode cJ1_charAt_3b067 13 = .ok (.i2c, 1) := by decide +kernel
theorem dJ1_charAt_3b067_14 : decode cJ1_charAt_3b067 14 = .ok (.ireturn, 1) := by decide +kernel
theorem dJ3_checkIndex_8e157_0 : decode cJ3_checkIndex_8e157 0 = .ok (.iload_n 0, 1) := by decide +kernel
theorem dJ3_checkIndex_8e157_1 : decode cJ3_checkIndex_8e157 1 = .ok (.ifCond .lt 8, 3) := by decide +kernel
theorem dJ3_checkIndex_8e157_4 : decode cJ3_checkIndex_8e157 4 = .ok (.iload_n 0, 1) := by decide +kernel
theorem dJ3_checkIndex_8e157_5 : decode cJ3_checkIndex_8e157 5 = .ok (.iload_n 1, 1) := by decide +kernel
theorem dJ3_checkIndex_8e157_6 : decode cJ3_checkIndex_8e157 6 = .ok (.if_icmp .lt 10, 3) := by decide +kernel
theorem dJ3_checkIndex_8e157_16 : decode cJ3_checkIndex_8e157 16 = .ok (.iload_n 0, 1) := by decide +kernel
theorem dJ3_checkIndex_8e157_17 : decode cJ3_checkIndex_8e157 17 = .ok (.ireturn, 1) := by decide +kernel

