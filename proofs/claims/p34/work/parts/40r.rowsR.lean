section
def wsX0_become : List Cond := (.code yX0_become cX0_become 3 none) :: (.fieldLink RX0 12 "TheLiningsInIt$Jacket" "zip" "LTheLiningsInIt$Zip;") :: (.fieldLink RX0 20 "TheLiningsInIt$Jacket" "pulls" "[LTheLiningsInIt$Pull;") :: (.fieldLink RX0 24 "TheLiningsInIt$Jacket" "costs" "[I") :: (.methodLink RX0 51 arraycopyName) :: (.native arraycopyName) :: (.static arraycopyName) :: (.initialized "java/lang/System") :: (.fieldLink RX0 28 "TheLiningsInIt$Jacket" "pullCount" "I") :: (.fieldLink RX0 32 "TheLiningsInIt$Jacket" "depth" "I") :: (.fieldLink RX0 35 "TheLiningsInIt$Jacket" "torn" "I") :: (.fieldLink RX0 38 "TheLiningsInIt$Jacket" "seconds" "I") :: (.fieldLink RX0 41 "TheLiningsInIt$Jacket" "hurry" "I") :: (.fieldLink RX0 44 "TheLiningsInIt$Jacket" "seedNow" "I") :: (.methodLink RX0 47 yX6_become) :: (.instanceMethod yX6_become) :: (.selects RX6 yX6_become yX6_become) :: (.initialized RX6) :: (.code yX6_become cX6_become 3 none) :: (.fieldLink RX6 9 "TheLiningsInIt$Zip" "lacking" "[Z") :: (.fieldLink RX6 15 "TheLiningsInIt$Zip" "slacks" "[I") :: (.fieldLink RX6 19 "TheLiningsInIt$Zip" "size" "I") :: (.fieldLink RX6 23 "TheLiningsInIt$Zip" "at" "I") :: (.fieldLink RX6 26 "TheLiningsInIt$Zip" "gap" "I") :: (wsX00 ++ wsX60)
def wsX2_init : List Cond := (.code yX2_init cX2_init 4 none) :: (.methodLink RX2 3 objectInit) :: (.instanceMethod objectInit) :: (.code objectInit ⟨#[0xb1]⟩ 1 none) :: (.fieldLink RX2 9 "TheLiningsInIt$Pull" "kind" "I") :: (.fieldLink RX2 15 "TheLiningsInIt$Pull" "a" "I") :: (.fieldLink RX2 18 "TheLiningsInIt$Pull" "takes" "I") :: wsX20
def wsX0_addPull : List Cond := (.code yX0_addPull cX0_addPull 4 (some .int)) :: (.fieldLink RX0 28 "TheLiningsInIt$Jacket" "pullCount" "I") :: (.fieldLink RX0 20 "TheLiningsInIt$Jacket" "pulls" "[LTheLiningsInIt$Pull;") :: (.classLink RX0 18 RX2) :: (.instantiable RX2 3) :: (.initialized RX2) :: (.methodLink RX0 70 yX2_init) :: (.instanceMethod yX2_init) :: (.code yX2_init cX2_init 4 none) :: (.methodLink RX2 3 objectInit) :: (.instanceMethod objectInit) :: (.code objectInit ⟨#[0xb1]⟩ 1 none) :: (.fieldLink RX2 9 "TheLiningsInIt$Pull" "kind" "I") :: (.fieldLink RX2 15 "TheLiningsInIt$Pull" "a" "I") :: (.fieldLink RX2 18 "TheLiningsInIt$Pull" "takes" "I") :: (wsX00 ++ wsX20)
def wsX3_takeLetters : List Cond := (.code yX3_takeLetters cX3_takeLetters 3 none) :: (.fieldLink RX3 49 "TheLiningsInIt$Shelf" "size" "I") :: (.methodLink RX3 52 Lib.Math.min.name) :: (.static Lib.Math.min.name) :: (.initialized "java/lang/Math") :: (.code Lib.Math.min.name Lib.Math.min.code 2 (some .int)) :: (.fieldLink RX3 18 "TheLiningsInIt$Reader" "size" "I") :: (.fieldLink RX3 15 "TheLiningsInIt$Reader" "letters" "[I") :: (.methodLink RX3 58 yX4_tells) :: (.instanceMethod yX4_tells) :: (.selects RX4 yX4_tells yX4_tells) :: (.initialized RX4) :: (.code yX4_tells cX4_tells 2 (some .int)) :: (.fieldLink RX4 9 "TheLiningsInIt$Shelf" "elements" "[J") :: (.methodLink RX4 36 yX4_hasSpan) :: (.instanceMethod yX4_hasSpan) :: (.selects RX4 yX4_hasSpan yX4_hasSpan) :: (.code yX4_hasSpan cX4_hasSpan 3 (some .boolean)) :: (.fieldLink RX4 19 "TheLiningsInIt$Shelf" "size" "I") :: (wsX40 ++ wsX30)
def wsX3_wordAt : List Cond := (.code yX3_wordAt cX3_wordAt 1 (some (.object "java/lang/String"))) :: []
def wsJ0_coder_7d493 : List Cond := (.code yJ0_coder_7d493 cJ0_coder_7d493 1 (some .byte)) :: (.fieldLink RJ0 38 "java/lang/String" "COMPACT_STRINGS" "Z") :: (.fieldLink RJ0 15 "java/lang/String" "coder" "B") :: []
def wsJ0_length_8abf5 : List Cond := (.code yJ0_length_8abf5 cJ0_length_8abf5 1 (some .int)) :: (.fieldLink RJ0 9 "java/lang/String" "value" "[B") :: (.methodLink RJ0 335 yJ0_coder_7d493) :: (.instanceMethod yJ0_coder_7d493) :: (.selects RJ0 yJ0_coder_7d493 yJ0_coder_7d493) :: (.initialized RJ0) :: (.code yJ0_coder_7d493 cJ0_coder_7d493 1 (some .byte)) :: (.fieldLink RJ0 38 "java/lang/String" "COMPACT_STRINGS" "Z") :: (.fieldLink RJ0 15 "java/lang/String" "coder" "B") :: []
def wsJ0_isLatin1_aae02 : List Cond := (.code yJ0_isLatin1_aae02 cJ0_isLatin1_aae02 1 (some .boolean)) :: (.fieldLink RJ0 38 "java/lang/String" "COMPACT_STRINGS" "Z") :: (.fieldLink RJ0 15 "java/lang/String" "coder" "B") :: []
def wsJ3_checkIndex_8e157 : List Cond := (.code yJ3_checkIndex_8e157 cJ3_checkIndex_8e157 3 (some .int)) :: []
def wsJ0_checkIndex_df160 : List Cond := (.code yJ0_checkIndex_df160 cJ0_checkIndex_df160 2 none) :: (.fieldLink RJ0 1053 "jdk/internal/util/Preconditions" "SIOOBE_FORMATTER" "Ljava/util/function/BiFunction;") :: (.methodLink RJ0 1059 yJ3_checkIndex_8e157) :: (.static yJ3_checkIndex_8e157) :: (.initialized RJ3) :: (.code yJ3_checkIndex_8e157 cJ3_checkIndex_8e157 3 (some .int)) :: []
def wsJ1_charAt_3b067 : List Cond := (.code yJ1_charAt_3b067 cJ1_charAt_3b067 2 (some .char)) :: (.methodLink RJ1 9 yJ0_checkIndex_df160) :: (.static yJ0_checkIndex_df160) :: (.initialized RJ0) :: (.code yJ0_checkIndex_df160 cJ0_checkIndex_df160 2 none) :: (.fieldLink RJ0 1053 "jdk/internal/util/Preconditions" "SIOOBE_FORMATTER" "Ljava/util/function/BiFunction;") :: (.methodLink RJ0 1059 yJ3_checkIndex_8e157) :: (.static yJ3_checkIndex_8e157) :: (.initialized RJ3) :: (.code yJ3_checkIndex_8e157 cJ3_checkIndex_8e157 3 (some .int)) :: []
def wsJ0_charAt_5068e_r1 : List Cond := (Cond.fieldLink RJ0 9 "java/lang/String" "value" "[B") :: (Cond.methodLink RJ0 492 yJ0_isLatin1_aae02) :: (Cond.instanceMethod yJ0_isLatin1_aae02) :: (Cond.selects RJ0 yJ0_isLatin1_aae02 yJ0_isLatin1_aae02) :: (Cond.initialized RJ0) :: (Cond.code yJ0_isLatin1_aae02 cJ0_isLatin1_aae02 1 (some .boolean)) :: (Cond.fieldLink RJ0 38 "java/lang/String" "COMPACT_STRINGS" "Z") :: (Cond.fieldLink RJ0 15 "java/lang/String" "coder" "B") :: (Cond.methodLink RJ0 495 yJ1_charAt_3b067) :: (Cond.static yJ1_charAt_3b067) :: (Cond.initialized RJ1) :: (Cond.code yJ1_charAt_3b067 cJ1_charAt_3b067 2 (some .char)) :: (Cond.methodLink RJ1 9 yJ0_checkIndex_df160) :: (Cond.static yJ0_checkIndex_df160) :: (Cond.code yJ0_checkIndex_df160 cJ0_checkIndex_df160 2 none) :: (Cond.fieldLink RJ0 1053 "jdk/internal/util/Preconditions" "SIOOBE_FORMATTER" "Ljava/util/function/BiFunction;") :: (Cond.methodLink RJ0 1059 yJ3_checkIndex_8e157) :: (Cond.static yJ3_checkIndex_8e157) :: (Cond.initialized RJ3) :: (Cond.code yJ3_checkIndex_8e157 cJ3_checkIndex_8e157 3 (some .int)) :: (Cond.methodLink RJ0 498 yJ2_charAt_3b067) :: (Cond.static yJ2_charAt_3b067) :: (Cond.initialized RJ2) :: (Cond.code yJ2_charAt_3b067 cJ2_charAt_3b067 2 (some .char)) :: []
def wsJ0_charAt_5068e_r2 : List Cond := (Cond.methodLink RJ2 67 yJ2_checkIndex_2214a) :: (Cond.static yJ2_checkIndex_2214a) :: (Cond.code yJ2_checkIndex_2214a cJ2_checkIndex_2214a 2 none) :: (Cond.methodLink RJ2 48 yJ2_length_9d52b) :: (Cond.static yJ2_length_9d52b) :: (Cond.code yJ2_length_9d52b cJ2_length_9d52b 1 (some .int)) :: (Cond.methodLink RJ2 414 yJ0_checkIndex_df160) :: (Cond.methodLink RJ2 71 yJ2_getChar_3b067) :: (Cond.static yJ2_getChar_3b067) :: (Cond.code yJ2_getChar_3b067 cJ2_getChar_3b067 2 (some .char)) :: (Cond.fieldLink RJ2 44 "java/lang/StringUTF16" "$assertionsDisabled" "Z") :: (Cond.fieldLink RJ2 59 "java/lang/StringUTF16" "HI_BYTE_SHIFT" "I") :: (Cond.fieldLink RJ2 63 "java/lang/StringUTF16" "LO_BYTE_SHIFT" "I") :: []
def wsJ0_charAt_5068e : List Cond := (.code yJ0_charAt_5068e cJ0_charAt_5068e 2 (some .char)) :: (wsJ0_charAt_5068e_r1 ++ wsJ0_charAt_5068e_r2)
def wsX3_stands : List Cond := (.code yX3_stands cX3_stands 3 (some .boolean)) :: (.fieldLink RX3 18 "TheLiningsInIt$Reader" "size" "I") :: (.fieldLink RX3 15 "TheLiningsInIt$Reader" "letters" "[I") :: wsX30
def wsX3_lettersStanding_r1 : List Cond := (Cond.fieldLink RX3 25 "TheLiningsInIt$Reader" "place" "I") :: (Cond.methodLink RX3 90 yJ0_length_8abf5) :: (Cond.instanceMethod yJ0_length_8abf5) :: (Cond.selects RJ0 yJ0_length_8abf5 yJ0_length_8abf5) :: (Cond.initialized RJ0) :: (Cond.code yJ0_length_8abf5 cJ0_length_8abf5 1 (some .int)) :: (Cond.fieldLink RJ0 9 "java/lang/String" "value" "[B") :: (Cond.methodLink RJ0 335 yJ0_coder_7d493) :: (Cond.instanceMethod yJ0_coder_7d493) :: (Cond.selects RJ0 yJ0_coder_7d493 yJ0_coder_7d493) :: (Cond.code yJ0_coder_7d493 cJ0_coder_7d493 1 (some .byte)) :: (Cond.fieldLink RJ0 38 "java/lang/String" "COMPACT_STRINGS" "Z") :: (Cond.fieldLink RJ0 15 "java/lang/String" "coder" "B") :: (Cond.methodLink RX3 101 yJ0_charAt_5068e) :: (Cond.instanceMethod yJ0_charAt_5068e) :: (Cond.selects RJ0 yJ0_charAt_5068e yJ0_charAt_5068e) :: (Cond.code yJ0_charAt_5068e cJ0_charAt_5068e 2 (some .char)) :: (Cond.methodLink RJ0 492 yJ0_isLatin1_aae02) :: (Cond.instanceMethod yJ0_isLatin1_aae02) :: (Cond.selects RJ0 yJ0_isLatin1_aae02 yJ0_isLatin1_aae02) :: (Cond.code yJ0_isLatin1_aae02 cJ0_isLatin1_aae02 1 (some .boolean)) :: (Cond.methodLink RJ0 495 yJ1_charAt_3b067) :: (Cond.static yJ1_charAt_3b067) :: (Cond.initialized RJ1) :: []
def wsX3_lettersStanding_r2 : List Cond := (Cond.code yJ1_charAt_3b067 cJ1_charAt_3b067 2 (some .char)) :: (Cond.methodLink RJ1 9 yJ0_checkIndex_df160) :: (Cond.static yJ0_checkIndex_df160) :: (Cond.code yJ0_checkIndex_df160 cJ0_checkIndex_df160 2 none) :: (Cond.fieldLink RJ0 1053 "jdk/internal/util/Preconditions" "SIOOBE_FORMATTER" "Ljava/util/function/BiFunction;") :: (Cond.methodLink RJ0 1059 yJ3_checkIndex_8e157) :: (Cond.static yJ3_checkIndex_8e157) :: (Cond.initialized RJ3) :: (Cond.code yJ3_checkIndex_8e157 cJ3_checkIndex_8e157 3 (some .int)) :: (Cond.methodLink RJ0 498 yJ2_charAt_3b067) :: (Cond.static yJ2_charAt_3b067) :: (Cond.initialized RJ2) :: (Cond.code yJ2_charAt_3b067 cJ2_charAt_3b067 2 (some .char)) :: (Cond.methodLink RJ2 67 yJ2_checkIndex_2214a) :: (Cond.static yJ2_checkIndex_2214a) :: (Cond.code yJ2_checkIndex_2214a cJ2_checkIndex_2214a 2 none) :: (Cond.methodLink RJ2 48 yJ2_length_9d52b) :: (Cond.static yJ2_length_9d52b) :: (Cond.code yJ2_length_9d52b cJ2_length_9d52b 1 (some .int)) :: (Cond.methodLink RJ2 414 yJ0_checkIndex_df160) :: (Cond.methodLink RJ2 71 yJ2_getChar_3b067) :: (Cond.static yJ2_getChar_3b067) :: (Cond.code yJ2_getChar_3b067 cJ2_getChar_3b067 2 (some .char)) :: (Cond.fieldLink RJ2 44 "java/lang/StringUTF16" "$assertionsDisabled" "Z") :: []
def wsX3_lettersStanding_r3 : List Cond := (Cond.fieldLink RJ2 59 "java/lang/StringUTF16" "HI_BYTE_SHIFT" "I") :: (Cond.fieldLink RJ2 63 "java/lang/StringUTF16" "LO_BYTE_SHIFT" "I") :: (Cond.methodLink RX3 78 yX3_stands) :: (Cond.instanceMethod yX3_stands) :: (Cond.selects RX3 yX3_stands yX3_stands) :: (Cond.initialized RX3) :: (Cond.code yX3_stands cX3_stands 3 (some .boolean)) :: (Cond.fieldLink RX3 18 "TheLiningsInIt$Reader" "size" "I") :: (Cond.fieldLink RX3 15 "TheLiningsInIt$Reader" "letters" "[I") :: []
def wsX3_lettersStanding : List Cond := (.code yX3_lettersStanding cX3_lettersStanding 3 (some .int)) :: ((wsX3_lettersStanding_r1 ++ (wsX3_lettersStanding_r2 ++ wsX3_lettersStanding_r3)) ++ wsX30)
def wsX3_takeWord : List Cond := (.code yX3_takeWord cX3_takeWord 3 (some .int)) :: (.fieldLink RX3 34 "TheLiningsInIt$Reader" "pulls" "I") :: (.fieldLink RX3 25 "TheLiningsInIt$Reader" "place" "I") :: (.fieldLink RX3 28 "TheLiningsInIt$Reader" "fault" "I") :: wsX30
def wsX3_readWord_r1 : List Cond := (Cond.methodLink RX3 98 Lib.Math.max.name) :: (Cond.static Lib.Math.max.name) :: (Cond.initialized "java/lang/Math") :: (Cond.code Lib.Math.max.name Lib.Math.max.code 2 (some .int)) :: (Cond.fieldLink RX3 25 "TheLiningsInIt$Reader" "place" "I") :: (Cond.fieldLink RX3 28 "TheLiningsInIt$Reader" "fault" "I") :: (Cond.methodLink RX3 82 yX3_wordAt) :: (Cond.static yX3_wordAt) :: (Cond.initialized RX3) :: (Cond.code yX3_wordAt cX3_wordAt 1 (some (.object "java/lang/String"))) :: (Cond.methodLink RX3 86 yX3_lettersStanding) :: (Cond.instanceMethod yX3_lettersStanding) :: (Cond.selects RX3 yX3_lettersStanding yX3_lettersStanding) :: (Cond.code yX3_lettersStanding cX3_lettersStanding 3 (some .int)) :: (Cond.methodLink RX3 90 yJ0_length_8abf5) :: (Cond.instanceMethod yJ0_length_8abf5) :: (Cond.selects RJ0 yJ0_length_8abf5 yJ0_length_8abf5) :: (Cond.initialized RJ0) :: (Cond.code yJ0_length_8abf5 cJ0_length_8abf5 1 (some .int)) :: (Cond.fieldLink RJ0 9 "java/lang/String" "value" "[B") :: (Cond.methodLink RJ0 335 yJ0_coder_7d493) :: (Cond.instanceMethod yJ0_coder_7d493) :: (Cond.selects RJ0 yJ0_coder_7d493 yJ0_coder_7d493) :: (Cond.code yJ0_coder_7d493 cJ0_coder_7d493 1 (some .byte)) :: []
def wsX3_readWord_r2 : List Cond := (Cond.fieldLink RJ0 38 "java/lang/String" "COMPACT_STRINGS" "Z") :: (Cond.fieldLink RJ0 15 "java/lang/String" "coder" "B") :: (Cond.methodLink RX3 101 yJ0_charAt_5068e) :: (Cond.instanceMethod yJ0_charAt_5068e) :: (Cond.selects RJ0 yJ0_charAt_5068e yJ0_charAt_5068e) :: (Cond.code yJ0_charAt_5068e cJ0_charAt_5068e 2 (some .char)) :: (Cond.methodLink RJ0 492 yJ0_isLatin1_aae02) :: (Cond.instanceMethod yJ0_isLatin1_aae02) :: (Cond.selects RJ0 yJ0_isLatin1_aae02 yJ0_isLatin1_aae02) :: (Cond.code yJ0_isLatin1_aae02 cJ0_isLatin1_aae02 1 (some .boolean)) :: (Cond.methodLink RJ0 495 yJ1_charAt_3b067) :: (Cond.static yJ1_charAt_3b067) :: (Cond.initialized RJ1) :: (Cond.code yJ1_charAt_3b067 cJ1_charAt_3b067 2 (some .char)) :: (Cond.methodLink RJ1 9 yJ0_checkIndex_df160) :: (Cond.static yJ0_checkIndex_df160) :: (Cond.code yJ0_checkIndex_df160 cJ0_checkIndex_df160 2 none) :: (Cond.fieldLink RJ0 1053 "jdk/internal/util/Preconditions" "SIOOBE_FORMATTER" "Ljava/util/function/BiFunction;") :: (Cond.methodLink RJ0 1059 yJ3_checkIndex_8e157) :: (Cond.static yJ3_checkIndex_8e157) :: (Cond.initialized RJ3) :: (Cond.code yJ3_checkIndex_8e157 cJ3_checkIndex_8e157 3 (some .int)) :: (Cond.methodLink RJ0 498 yJ2_charAt_3b067) :: (Cond.static yJ2_charAt_3b067) :: []
def wsX3_readWord_r3 : List Cond := (Cond.initialized RJ2) :: (Cond.code yJ2_charAt_3b067 cJ2_charAt_3b067 2 (some .char)) :: (Cond.methodLink RJ2 67 yJ2_checkIndex_2214a) :: (Cond.static yJ2_checkIndex_2214a) :: (Cond.code yJ2_checkIndex_2214a cJ2_checkIndex_2214a 2 none) :: (Cond.methodLink RJ2 48 yJ2_length_9d52b) :: (Cond.static yJ2_length_9d52b) :: (Cond.code yJ2_length_9d52b cJ2_length_9d52b 1 (some .int)) :: (Cond.methodLink RJ2 414 yJ0_checkIndex_df160) :: (Cond.methodLink RJ2 71 yJ2_getChar_3b067) :: (Cond.static yJ2_getChar_3b067) :: (Cond.code yJ2_getChar_3b067 cJ2_getChar_3b067 2 (some .char)) :: (Cond.fieldLink RJ2 44 "java/lang/StringUTF16" "$assertionsDisabled" "Z") :: (Cond.fieldLink RJ2 59 "java/lang/StringUTF16" "HI_BYTE_SHIFT" "I") :: (Cond.fieldLink RJ2 63 "java/lang/StringUTF16" "LO_BYTE_SHIFT" "I") :: (Cond.methodLink RX3 78 yX3_stands) :: (Cond.instanceMethod yX3_stands) :: (Cond.selects RX3 yX3_stands yX3_stands) :: (Cond.code yX3_stands cX3_stands 3 (some .boolean)) :: (Cond.fieldLink RX3 18 "TheLiningsInIt$Reader" "size" "I") :: (Cond.fieldLink RX3 15 "TheLiningsInIt$Reader" "letters" "[I") :: (Cond.methodLink RX3 95 yX3_takeWord) :: (Cond.instanceMethod yX3_takeWord) :: (Cond.selects RX3 yX3_takeWord yX3_takeWord) :: []
def wsX3_readWord_r4 : List Cond := (Cond.code yX3_takeWord cX3_takeWord 3 (some .int)) :: (Cond.fieldLink RX3 34 "TheLiningsInIt$Reader" "pulls" "I") :: []
def wsX3_readWord : List Cond := (.code yX3_readWord cX3_readWord 5 (some .int)) :: ((wsX3_readWord_r1 ++ (wsX3_readWord_r2 ++ (wsX3_readWord_r3 ++ wsX3_readWord_r4))) ++ wsX30)
def wsX3_numbersOf : List Cond := (.code yX3_numbersOf cX3_numbersOf 1 (some .int)) :: []
def wsX3_expect : List Cond := (.code yX3_expect cX3_expect 2 none) :: (.fieldLink RX3 25 "TheLiningsInIt$Reader" "place" "I") :: (.fieldLink RX3 28 "TheLiningsInIt$Reader" "fault" "I") :: (.methodLink RX3 78 yX3_stands) :: (.instanceMethod yX3_stands) :: (.selects RX3 yX3_stands yX3_stands) :: (.initialized RX3) :: (.code yX3_stands cX3_stands 3 (some .boolean)) :: (.fieldLink RX3 18 "TheLiningsInIt$Reader" "size" "I") :: (.fieldLink RX3 15 "TheLiningsInIt$Reader" "letters" "[I") :: wsX30
def wsX3_leastOf : List Cond := (.code yX3_leastOf cX3_leastOf 2 (some .int)) :: []
def wsX3_mostOf : List Cond := (.code yX3_mostOf cX3_mostOf 3 (some .int)) :: (.fieldLink RX3 31 "TheLiningsInIt$Reader" "teeth" "I") :: wsX30
def wsX3_isDigit : List Cond := (.code yX3_isDigit cX3_isDigit 1 (some .boolean)) :: []
def wsX3_readNumber : List Cond := (.code yX3_readNumber cX3_readNumber 5 (some .int)) :: (.fieldLink RX3 25 "TheLiningsInIt$Reader" "place" "I") :: (.fieldLink RX3 18 "TheLiningsInIt$Reader" "size" "I") :: (.fieldLink RX3 15 "TheLiningsInIt$Reader" "letters" "[I") :: (.fieldLink RX3 28 "TheLiningsInIt$Reader" "fault" "I") :: (.methodLink RX3 105 yX3_isDigit) :: (.static yX3_isDigit) :: (.initialized RX3) :: (.code yX3_isDigit cX3_isDigit 1 (some .boolean)) :: (.static yX7_within) :: (.initialized RX7) :: (.code yX7_within cX7_within 3 (some .boolean)) :: wsX30
def wsX3_readItem_r1 : List Cond := (Cond.fieldLink RX3 11 "TheLiningsInIt$Reader" "items" "[I") :: (Cond.fieldLink RX3 28 "TheLiningsInIt$Reader" "fault" "I") :: (Cond.fieldLink RX3 31 "TheLiningsInIt$Reader" "teeth" "I") :: (Cond.fieldLink RX3 34 "TheLiningsInIt$Reader" "pulls" "I") :: (Cond.methodLink RX3 62 yX3_readWord) :: (Cond.instanceMethod yX3_readWord) :: (Cond.selects RX3 yX3_readWord yX3_readWord) :: (Cond.initialized RX3) :: (Cond.code yX3_readWord cX3_readWord 5 (some .int)) :: (Cond.methodLink RX3 98 Lib.Math.max.name) :: (Cond.static Lib.Math.max.name) :: (Cond.initialized "java/lang/Math") :: (Cond.code Lib.Math.max.name Lib.Math.max.code 2 (some .int)) :: (Cond.fieldLink RX3 25 "TheLiningsInIt$Reader" "place" "I") :: (Cond.methodLink RX3 82 yX3_wordAt) :: (Cond.static yX3_wordAt) :: (Cond.code yX3_wordAt cX3_wordAt 1 (some (.object "java/lang/String"))) :: (Cond.methodLink RX3 86 yX3_lettersStanding) :: (Cond.instanceMethod yX3_lettersStanding) :: (Cond.selects RX3 yX3_lettersStanding yX3_lettersStanding) :: (Cond.code yX3_lettersStanding cX3_lettersStanding 3 (some .int)) :: (Cond.methodLink RX3 90 yJ0_length_8abf5) :: (Cond.instanceMethod yJ0_length_8abf5) :: (Cond.selects RJ0 yJ0_length_8abf5 yJ0_length_8abf5) :: []
def wsX3_readItem_r2 : List Cond := (Cond.initialized RJ0) :: (Cond.code yJ0_length_8abf5 cJ0_length_8abf5 1 (some .int)) :: (Cond.fieldLink RJ0 9 "java/lang/String" "value" "[B") :: (Cond.methodLink RJ0 335 yJ0_coder_7d493) :: (Cond.instanceMethod yJ0_coder_7d493) :: (Cond.selects RJ0 yJ0_coder_7d493 yJ0_coder_7d493) :: (Cond.code yJ0_coder_7d493 cJ0_coder_7d493 1 (some .byte)) :: (Cond.fieldLink RJ0 38 "java/lang/String" "COMPACT_STRINGS" "Z") :: (Cond.fieldLink RJ0 15 "java/lang/String" "coder" "B") :: (Cond.methodLink RX3 101 yJ0_charAt_5068e) :: (Cond.instanceMethod yJ0_charAt_5068e) :: (Cond.selects RJ0 yJ0_charAt_5068e yJ0_charAt_5068e) :: (Cond.code yJ0_charAt_5068e cJ0_charAt_5068e 2 (some .char)) :: (Cond.methodLink RJ0 492 yJ0_isLatin1_aae02) :: (Cond.instanceMethod yJ0_isLatin1_aae02) :: (Cond.selects RJ0 yJ0_isLatin1_aae02 yJ0_isLatin1_aae02) :: (Cond.code yJ0_isLatin1_aae02 cJ0_isLatin1_aae02 1 (some .boolean)) :: (Cond.methodLink RJ0 495 yJ1_charAt_3b067) :: (Cond.static yJ1_charAt_3b067) :: (Cond.initialized RJ1) :: (Cond.code yJ1_charAt_3b067 cJ1_charAt_3b067 2 (some .char)) :: (Cond.methodLink RJ1 9 yJ0_checkIndex_df160) :: (Cond.static yJ0_checkIndex_df160) :: (Cond.code yJ0_checkIndex_df160 cJ0_checkIndex_df160 2 none) :: []
def wsX3_readItem_r3 : List Cond := (Cond.fieldLink RJ0 1053 "jdk/internal/util/Preconditions" "SIOOBE_FORMATTER" "Ljava/util/function/BiFunction;") :: (Cond.methodLink RJ0 1059 yJ3_checkIndex_8e157) :: (Cond.static yJ3_checkIndex_8e157) :: (Cond.initialized RJ3) :: (Cond.code yJ3_checkIndex_8e157 cJ3_checkIndex_8e157 3 (some .int)) :: (Cond.methodLink RJ0 498 yJ2_charAt_3b067) :: (Cond.static yJ2_charAt_3b067) :: (Cond.initialized RJ2) :: (Cond.code yJ2_charAt_3b067 cJ2_charAt_3b067 2 (some .char)) :: (Cond.methodLink RJ2 67 yJ2_checkIndex_2214a) :: (Cond.static yJ2_checkIndex_2214a) :: (Cond.code yJ2_checkIndex_2214a cJ2_checkIndex_2214a 2 none) :: (Cond.methodLink RJ2 48 yJ2_length_9d52b) :: (Cond.static yJ2_length_9d52b) :: (Cond.code yJ2_length_9d52b cJ2_length_9d52b 1 (some .int)) :: (Cond.methodLink RJ2 414 yJ0_checkIndex_df160) :: (Cond.methodLink RJ2 71 yJ2_getChar_3b067) :: (Cond.static yJ2_getChar_3b067) :: (Cond.code yJ2_getChar_3b067 cJ2_getChar_3b067 2 (some .char)) :: (Cond.fieldLink RJ2 44 "java/lang/StringUTF16" "$assertionsDisabled" "Z") :: (Cond.fieldLink RJ2 59 "java/lang/StringUTF16" "HI_BYTE_SHIFT" "I") :: (Cond.fieldLink RJ2 63 "java/lang/StringUTF16" "LO_BYTE_SHIFT" "I") :: (Cond.methodLink RX3 78 yX3_stands) :: (Cond.instanceMethod yX3_stands) :: []
def wsX3_readItem_r4 : List Cond := (Cond.selects RX3 yX3_stands yX3_stands) :: (Cond.code yX3_stands cX3_stands 3 (some .boolean)) :: (Cond.fieldLink RX3 18 "TheLiningsInIt$Reader" "size" "I") :: (Cond.fieldLink RX3 15 "TheLiningsInIt$Reader" "letters" "[I") :: (Cond.methodLink RX3 95 yX3_takeWord) :: (Cond.instanceMethod yX3_takeWord) :: (Cond.selects RX3 yX3_takeWord yX3_takeWord) :: (Cond.code yX3_takeWord cX3_takeWord 3 (some .int)) :: (Cond.methodLink RX3 66 yX3_numbersOf) :: (Cond.static yX3_numbersOf) :: (Cond.code yX3_numbersOf cX3_numbersOf 1 (some .int)) :: (Cond.methodLink RX3 45 yX3_expect) :: (Cond.instanceMethod yX3_expect) :: (Cond.selects RX3 yX3_expect yX3_expect) :: (Cond.code yX3_expect cX3_expect 2 none) :: (Cond.methodLink RX3 69 yX3_leastOf) :: (Cond.static yX3_leastOf) :: (Cond.code yX3_leastOf cX3_leastOf 2 (some .int)) :: (Cond.methodLink RX3 72 yX3_mostOf) :: (Cond.instanceMethod yX3_mostOf) :: (Cond.selects RX3 yX3_mostOf yX3_mostOf) :: (Cond.code yX3_mostOf cX3_mostOf 3 (some .int)) :: (Cond.methodLink RX3 75 yX3_readNumber) :: (Cond.instanceMethod yX3_readNumber) :: []
def wsX3_readItem_r5 : List Cond := (Cond.selects RX3 yX3_readNumber yX3_readNumber) :: (Cond.code yX3_readNumber cX3_readNumber 5 (some .int)) :: (Cond.methodLink RX3 105 yX3_isDigit) :: (Cond.static yX3_isDigit) :: (Cond.code yX3_isDigit cX3_isDigit 1 (some .boolean)) :: (Cond.static yX7_within) :: (Cond.initialized RX7) :: (Cond.code yX7_within cX7_within 3 (some .boolean)) :: []
def wsX3_readItem : List Cond := (.code yX3_readItem cX3_readItem 4 none) :: ((wsX3_readItem_r1 ++ (wsX3_readItem_r2 ++ (wsX3_readItem_r3 ++ (wsX3_readItem_r4 ++ wsX3_readItem_r5)))) ++ wsX30)
def wsX3_read_r1 : List Cond := (Cond.fieldLink RX3 31 "TheLiningsInIt$Reader" "teeth" "I") :: (Cond.fieldLink RX3 34 "TheLiningsInIt$Reader" "pulls" "I") :: (Cond.fieldLink RX3 25 "TheLiningsInIt$Reader" "place" "I") :: (Cond.fieldLink RX3 28 "TheLiningsInIt$Reader" "fault" "I") :: (Cond.fieldLink RX3 22 "TheLiningsInIt$Reader" "count" "I") :: (Cond.fieldLink RX3 18 "TheLiningsInIt$Reader" "size" "I") :: (Cond.methodLink RX3 37 yX3_takeLetters) :: (Cond.instanceMethod yX3_takeLetters) :: (Cond.selects RX3 yX3_takeLetters yX3_takeLetters) :: (Cond.initialized RX3) :: (Cond.code yX3_takeLetters cX3_takeLetters 3 none) :: (Cond.fieldLink RX3 49 "TheLiningsInIt$Shelf" "size" "I") :: (Cond.methodLink RX3 52 Lib.Math.min.name) :: (Cond.static Lib.Math.min.name) :: (Cond.initialized "java/lang/Math") :: (Cond.code Lib.Math.min.name Lib.Math.min.code 2 (some .int)) :: (Cond.fieldLink RX3 15 "TheLiningsInIt$Reader" "letters" "[I") :: (Cond.methodLink RX3 58 yX4_tells) :: (Cond.instanceMethod yX4_tells) :: (Cond.selects RX4 yX4_tells yX4_tells) :: (Cond.initialized RX4) :: (Cond.code yX4_tells cX4_tells 2 (some .int)) :: (Cond.fieldLink RX4 9 "TheLiningsInIt$Shelf" "elements" "[J") :: (Cond.methodLink RX4 36 yX4_hasSpan) :: []
def wsX3_read_r2 : List Cond := (Cond.instanceMethod yX4_hasSpan) :: (Cond.selects RX4 yX4_hasSpan yX4_hasSpan) :: (Cond.code yX4_hasSpan cX4_hasSpan 3 (some .boolean)) :: (Cond.fieldLink RX4 19 "TheLiningsInIt$Shelf" "size" "I") :: (Cond.methodLink RX3 41 yX3_readItem) :: (Cond.instanceMethod yX3_readItem) :: (Cond.selects RX3 yX3_readItem yX3_readItem) :: (Cond.code yX3_readItem cX3_readItem 4 none) :: (Cond.fieldLink RX3 11 "TheLiningsInIt$Reader" "items" "[I") :: (Cond.methodLink RX3 62 yX3_readWord) :: (Cond.instanceMethod yX3_readWord) :: (Cond.selects RX3 yX3_readWord yX3_readWord) :: (Cond.code yX3_readWord cX3_readWord 5 (some .int)) :: (Cond.methodLink RX3 98 Lib.Math.max.name) :: (Cond.static Lib.Math.max.name) :: (Cond.code Lib.Math.max.name Lib.Math.max.code 2 (some .int)) :: (Cond.methodLink RX3 82 yX3_wordAt) :: (Cond.static yX3_wordAt) :: (Cond.code yX3_wordAt cX3_wordAt 1 (some (.object "java/lang/String"))) :: (Cond.methodLink RX3 86 yX3_lettersStanding) :: (Cond.instanceMethod yX3_lettersStanding) :: (Cond.selects RX3 yX3_lettersStanding yX3_lettersStanding) :: (Cond.code yX3_lettersStanding cX3_lettersStanding 3 (some .int)) :: (Cond.methodLink RX3 90 yJ0_length_8abf5) :: []
def wsX3_read_r3 : List Cond := (Cond.instanceMethod yJ0_length_8abf5) :: (Cond.selects RJ0 yJ0_length_8abf5 yJ0_length_8abf5) :: (Cond.initialized RJ0) :: (Cond.code yJ0_length_8abf5 cJ0_length_8abf5 1 (some .int)) :: (Cond.fieldLink RJ0 9 "java/lang/String" "value" "[B") :: (Cond.methodLink RJ0 335 yJ0_coder_7d493) :: (Cond.instanceMethod yJ0_coder_7d493) :: (Cond.selects RJ0 yJ0_coder_7d493 yJ0_coder_7d493) :: (Cond.code yJ0_coder_7d493 cJ0_coder_7d493 1 (some .byte)) :: (Cond.fieldLink RJ0 38 "java/lang/String" "COMPACT_STRINGS" "Z") :: (Cond.fieldLink RJ0 15 "java/lang/String" "coder" "B") :: (Cond.methodLink RX3 101 yJ0_charAt_5068e) :: (Cond.instanceMethod yJ0_charAt_5068e) :: (Cond.selects RJ0 yJ0_charAt_5068e yJ0_charAt_5068e) :: (Cond.code yJ0_charAt_5068e cJ0_charAt_5068e 2 (some .char)) :: (Cond.methodLink RJ0 492 yJ0_isLatin1_aae02) :: (Cond.instanceMethod yJ0_isLatin1_aae02) :: (Cond.selects RJ0 yJ0_isLatin1_aae02 yJ0_isLatin1_aae02) :: (Cond.code yJ0_isLatin1_aae02 cJ0_isLatin1_aae02 1 (some .boolean)) :: (Cond.methodLink RJ0 495 yJ1_charAt_3b067) :: (Cond.static yJ1_charAt_3b067) :: (Cond.initialized RJ1) :: (Cond.code yJ1_charAt_3b067 cJ1_charAt_3b067 2 (some .char)) :: (Cond.methodLink RJ1 9 yJ0_checkIndex_df160) :: []
def wsX3_read_r4 : List Cond := (Cond.static yJ0_checkIndex_df160) :: (Cond.code yJ0_checkIndex_df160 cJ0_checkIndex_df160 2 none) :: (Cond.fieldLink RJ0 1053 "jdk/internal/util/Preconditions" "SIOOBE_FORMATTER" "Ljava/util/function/BiFunction;") :: (Cond.methodLink RJ0 1059 yJ3_checkIndex_8e157) :: (Cond.static yJ3_checkIndex_8e157) :: (Cond.initialized RJ3) :: (Cond.code yJ3_checkIndex_8e157 cJ3_checkIndex_8e157 3 (some .int)) :: (Cond.methodLink RJ0 498 yJ2_charAt_3b067) :: (Cond.static yJ2_charAt_3b067) :: (Cond.initialized RJ2) :: (Cond.code yJ2_charAt_3b067 cJ2_charAt_3b067 2 (some .char)) :: (Cond.methodLink RJ2 67 yJ2_checkIndex_2214a) :: (Cond.static yJ2_checkIndex_2214a) :: (Cond.code yJ2_checkIndex_2214a cJ2_checkIndex_2214a 2 none) :: (Cond.methodLink RJ2 48 yJ2_length_9d52b) :: (Cond.static yJ2_length_9d52b) :: (Cond.code yJ2_length_9d52b cJ2_length_9d52b 1 (some .int)) :: (Cond.methodLink RJ2 414 yJ0_checkIndex_df160) :: (Cond.methodLink RJ2 71 yJ2_getChar_3b067) :: (Cond.static yJ2_getChar_3b067) :: (Cond.code yJ2_getChar_3b067 cJ2_getChar_3b067 2 (some .char)) :: (Cond.fieldLink RJ2 44 "java/lang/StringUTF16" "$assertionsDisabled" "Z") :: (Cond.fieldLink RJ2 59 "java/lang/StringUTF16" "HI_BYTE_SHIFT" "I") :: (Cond.fieldLink RJ2 63 "java/lang/StringUTF16" "LO_BYTE_SHIFT" "I") :: []
def wsX3_read_r5 : List Cond := (Cond.methodLink RX3 78 yX3_stands) :: (Cond.instanceMethod yX3_stands) :: (Cond.selects RX3 yX3_stands yX3_stands) :: (Cond.code yX3_stands cX3_stands 3 (some .boolean)) :: (Cond.methodLink RX3 95 yX3_takeWord) :: (Cond.instanceMethod yX3_takeWord) :: (Cond.selects RX3 yX3_takeWord yX3_takeWord) :: (Cond.code yX3_takeWord cX3_takeWord 3 (some .int)) :: (Cond.methodLink RX3 66 yX3_numbersOf) :: (Cond.static yX3_numbersOf) :: (Cond.code yX3_numbersOf cX3_numbersOf 1 (some .int)) :: (Cond.methodLink RX3 45 yX3_expect) :: (Cond.instanceMethod yX3_expect) :: (Cond.selects RX3 yX3_expect yX3_expect) :: (Cond.code yX3_expect cX3_expect 2 none) :: (Cond.methodLink RX3 69 yX3_leastOf) :: (Cond.static yX3_leastOf) :: (Cond.code yX3_leastOf cX3_leastOf 2 (some .int)) :: (Cond.methodLink RX3 72 yX3_mostOf) :: (Cond.instanceMethod yX3_mostOf) :: (Cond.selects RX3 yX3_mostOf yX3_mostOf) :: (Cond.code yX3_mostOf cX3_mostOf 3 (some .int)) :: (Cond.methodLink RX3 75 yX3_readNumber) :: (Cond.instanceMethod yX3_readNumber) :: []
def wsX3_read_r6 : List Cond := (Cond.selects RX3 yX3_readNumber yX3_readNumber) :: (Cond.code yX3_readNumber cX3_readNumber 5 (some .int)) :: (Cond.methodLink RX3 105 yX3_isDigit) :: (Cond.static yX3_isDigit) :: (Cond.code yX3_isDigit cX3_isDigit 1 (some .boolean)) :: (Cond.static yX7_within) :: (Cond.initialized RX7) :: (Cond.code yX7_within cX7_within 3 (some .boolean)) :: []
def wsX3_read : List Cond := (.code yX3_read cX3_read 5 (some .int)) :: ((wsX3_read_r1 ++ (wsX3_read_r2 ++ (wsX3_read_r3 ++ (wsX3_read_r4 ++ (wsX3_read_r5 ++ wsX3_read_r6))))) ++ wsX30 ++ wsX40)
def wsX3_tellItem_r1 : List Cond := (Cond.fieldLink RX3 11 "TheLiningsInIt$Reader" "items" "[I") :: (Cond.fieldLink RX3 136 "TheLiningsInIt$Jacket" "zip" "LTheLiningsInIt$Zip;") :: (Cond.fieldLink RX3 147 "TheLiningsInIt$Zip" "lacking" "[Z") :: (Cond.fieldLink RX3 151 "TheLiningsInIt$Zip" "slacks" "[I") :: (Cond.fieldLink RX3 158 "TheLiningsInIt$Jacket" "costs" "[I") :: (Cond.fieldLink RX3 161 "TheLiningsInIt$Zip" "at" "I") :: (Cond.methodLink RX3 142 yX6_renew) :: (Cond.instanceMethod yX6_renew) :: (Cond.selects RX6 yX6_renew yX6_renew) :: (Cond.initialized RX6) :: (Cond.code yX6_renew cX6_renew 3 none) :: (Cond.fieldLink RX6 19 "TheLiningsInIt$Zip" "size" "I") :: (Cond.fieldLink RX6 23 "TheLiningsInIt$Zip" "at" "I") :: (Cond.fieldLink RX6 9 "TheLiningsInIt$Zip" "lacking" "[Z") :: (Cond.fieldLink RX6 15 "TheLiningsInIt$Zip" "slacks" "[I") :: (Cond.methodLink RX3 154 yX0_addPull) :: (Cond.instanceMethod yX0_addPull) :: (Cond.selects RX0 yX0_addPull yX0_addPull) :: (Cond.initialized RX0) :: (Cond.code yX0_addPull cX0_addPull 4 (some .int)) :: (Cond.fieldLink RX0 28 "TheLiningsInIt$Jacket" "pullCount" "I") :: (Cond.fieldLink RX0 20 "TheLiningsInIt$Jacket" "pulls" "[LTheLiningsInIt$Pull;") :: (Cond.classLink RX0 18 RX2) :: (Cond.instantiable RX2 3) :: []
def wsX3_tellItem_r2 : List Cond := (Cond.initialized RX2) :: (Cond.methodLink RX0 70 yX2_init) :: (Cond.instanceMethod yX2_init) :: (Cond.code yX2_init cX2_init 4 none) :: (Cond.methodLink RX2 3 objectInit) :: (Cond.instanceMethod objectInit) :: (Cond.code objectInit ⟨#[0xb1]⟩ 1 none) :: (Cond.fieldLink RX2 9 "TheLiningsInIt$Pull" "kind" "I") :: (Cond.fieldLink RX2 15 "TheLiningsInIt$Pull" "a" "I") :: (Cond.fieldLink RX2 18 "TheLiningsInIt$Pull" "takes" "I") :: (Cond.methodLink RX3 163 yX0_setNumber) :: (Cond.instanceMethod yX0_setNumber) :: (Cond.selects RX0 yX0_setNumber yX0_setNumber) :: (Cond.code yX0_setNumber cX0_setNumber 3 none) :: (Cond.fieldLink RX0 32 "TheLiningsInIt$Jacket" "depth" "I") :: (Cond.fieldLink RX0 38 "TheLiningsInIt$Jacket" "seconds" "I") :: (Cond.fieldLink RX0 41 "TheLiningsInIt$Jacket" "hurry" "I") :: (Cond.fieldLink RX0 12 "TheLiningsInIt$Jacket" "zip" "LTheLiningsInIt$Zip;") :: (Cond.fieldLink RX0 60 "TheLiningsInIt$Zip" "gap" "I") :: (Cond.fieldLink RX0 63 "TheLiningsInIt$Zip" "at" "I") :: (Cond.fieldLink RX0 24 "TheLiningsInIt$Jacket" "costs" "[I") :: (Cond.static yX7_within) :: (Cond.initialized RX7) :: (Cond.code yX7_within cX7_within 3 (some .boolean)) :: []
def wsX3_tellItem : List Cond := (.code yX3_tellItem cX3_tellItem 5 none) :: ((wsX3_tellItem_r1 ++ wsX3_tellItem_r2) ++ wsX30 ++ wsX00 ++ wsX60 ++ wsX20)
def wsX3_tell_r1 : List Cond := (Cond.fieldLink RX3 22 "TheLiningsInIt$Reader" "count" "I") :: (Cond.methodLink RX3 132 yX3_tellItem) :: (Cond.instanceMethod yX3_tellItem) :: (Cond.selects RX3 yX3_tellItem yX3_tellItem) :: (Cond.initialized RX3) :: (Cond.code yX3_tellItem cX3_tellItem 5 none) :: (Cond.fieldLink RX3 11 "TheLiningsInIt$Reader" "items" "[I") :: (Cond.fieldLink RX3 136 "TheLiningsInIt$Jacket" "zip" "LTheLiningsInIt$Zip;") :: (Cond.fieldLink RX3 147 "TheLiningsInIt$Zip" "lacking" "[Z") :: (Cond.fieldLink RX3 151 "TheLiningsInIt$Zip" "slacks" "[I") :: (Cond.fieldLink RX3 158 "TheLiningsInIt$Jacket" "costs" "[I") :: (Cond.fieldLink RX3 161 "TheLiningsInIt$Zip" "at" "I") :: (Cond.methodLink RX3 142 yX6_renew) :: (Cond.instanceMethod yX6_renew) :: (Cond.selects RX6 yX6_renew yX6_renew) :: (Cond.initialized RX6) :: (Cond.code yX6_renew cX6_renew 3 none) :: (Cond.fieldLink RX6 19 "TheLiningsInIt$Zip" "size" "I") :: (Cond.fieldLink RX6 23 "TheLiningsInIt$Zip" "at" "I") :: (Cond.fieldLink RX6 9 "TheLiningsInIt$Zip" "lacking" "[Z") :: (Cond.fieldLink RX6 15 "TheLiningsInIt$Zip" "slacks" "[I") :: (Cond.methodLink RX3 154 yX0_addPull) :: (Cond.instanceMethod yX0_addPull) :: (Cond.selects RX0 yX0_addPull yX0_addPull) :: []
def wsX3_tell_r2 : List Cond := (Cond.initialized RX0) :: (Cond.code yX0_addPull cX0_addPull 4 (some .int)) :: (Cond.fieldLink RX0 28 "TheLiningsInIt$Jacket" "pullCount" "I") :: (Cond.fieldLink RX0 20 "TheLiningsInIt$Jacket" "pulls" "[LTheLiningsInIt$Pull;") :: (Cond.classLink RX0 18 RX2) :: (Cond.instantiable RX2 3) :: (Cond.initialized RX2) :: (Cond.methodLink RX0 70 yX2_init) :: (Cond.instanceMethod yX2_init) :: (Cond.code yX2_init cX2_init 4 none) :: (Cond.methodLink RX2 3 objectInit) :: (Cond.instanceMethod objectInit) :: (Cond.code objectInit ⟨#[0xb1]⟩ 1 none) :: (Cond.fieldLink RX2 9 "TheLiningsInIt$Pull" "kind" "I") :: (Cond.fieldLink RX2 15 "TheLiningsInIt$Pull" "a" "I") :: (Cond.fieldLink RX2 18 "TheLiningsInIt$Pull" "takes" "I") :: (Cond.methodLink RX3 163 yX0_setNumber) :: (Cond.instanceMethod yX0_setNumber) :: (Cond.selects RX0 yX0_setNumber yX0_setNumber) :: (Cond.code yX0_setNumber cX0_setNumber 3 none) :: (Cond.fieldLink RX0 32 "TheLiningsInIt$Jacket" "depth" "I") :: (Cond.fieldLink RX0 38 "TheLiningsInIt$Jacket" "seconds" "I") :: (Cond.fieldLink RX0 41 "TheLiningsInIt$Jacket" "hurry" "I") :: (Cond.fieldLink RX0 12 "TheLiningsInIt$Jacket" "zip" "LTheLiningsInIt$Zip;") :: []
def wsX3_tell_r3 : List Cond := (Cond.fieldLink RX0 60 "TheLiningsInIt$Zip" "gap" "I") :: (Cond.fieldLink RX0 63 "TheLiningsInIt$Zip" "at" "I") :: (Cond.fieldLink RX0 24 "TheLiningsInIt$Jacket" "costs" "[I") :: (Cond.static yX7_within) :: (Cond.initialized RX7) :: (Cond.code yX7_within cX7_within 3 (some .boolean)) :: []
def wsX3_tell : List Cond := (.code yX3_tell cX3_tell 3 none) :: ((wsX3_tell_r1 ++ (wsX3_tell_r2 ++ wsX3_tell_r3)) ++ wsX30 ++ wsX00 ++ wsX60 ++ wsX20)
set_option maxRecDepth 20000 in
theorem gl_X0_become_X60 : GoodIn wsX0_become wsX60 := (dg_t (dg_t (dg_t (dg_t (dg_t (dg_t (dg_t (dg_t (dg_t (dg_t (dg_t (dg_t (dg_t (dg_t (dg_t (dg_t (dg_t (dg_t (dg_t (dg_t (dg_t (dg_t (dg_t (dg_t (dg_r gw_wsX60)))))))))))))))))))))))))
theorem ggX0_become_X6_become : GoodIn wsX0_become wsX6_become := (dg_c 18 rfl rfl (dg_c 19 rfl rfl (dg_c 20 rfl rfl (dg_c 21 rfl rfl (dg_c 22 rfl rfl (dg_c 23 rfl rfl gl_X0_become_X60))))))
set_option maxRecDepth 20000 in
theorem gX0_become_X6_become : GoodIn wsX0_become (wsV RX0 47 RX6 yX6_become wsX6_become) := goodIn_app (dg_c 14 rfl rfl (dg_c 15 rfl rfl (dg_c 16 rfl rfl (dg_c 17 rfl rfl dg_0)))) ggX0_become_X6_become
theorem dX0_become_0 : decode cX0_become 0 = .ok (.aload_n 0, 1) := dq_42 dp_cX0_become rfl
theorem dX0_become_1 : decode cX0_become 1 = .ok (.getfield 12, 3) := dq_180 dp_cX0_become rfl
theorem dX0_become_4 : decode cX0_become 4 = .ok (.aload_n 1, 1) := dq_43 dp_cX0_become rfl
theorem dX0_become_5 : decode cX0_become 5 = .ok (.getfield 12, 3) := dq_180 dp_cX0_become rfl
theorem dX0_become_8 : decode cX0_become 8 = .ok (.invokevirtual 47, 3) := dq_182 dp_cX0_become rfl
theorem dX0_become_11 : decode cX0_become 11 = .ok (.iconst 0, 1) := dq_3 dp_cX0_become rfl
theorem dX0_become_12 : decode cX0_become 12 = .ok (.istore_n 2, 1) := dq_61 dp_cX0_become rfl
theorem dX0_become_13 : decode cX0_become 13 = .ok (.iload_n 2, 1) := dq_28 dp_cX0_become rfl
theorem dX0_become_14 : decode cX0_become 14 = .ok (.bipush 8, 2) := dq_16 (v := 8) dp_cX0_become rfl rfl
theorem dX0_become_16 : decode cX0_become 16 = .ok (.if_icmp .ge 21, 3) := dq_162 (v := 21) dp_cX0_become rfl rfl
theorem dX0_become_19 : decode cX0_become 19 = .ok (.aload_n 0, 1) := dq_42 dp_cX0_become rfl
theorem dX0_become_20 : decode cX0_become 20 = .ok (.getfield 20, 3) := dq_180 dp_cX0_become rfl
theorem dX0_become_23 : decode cX0_become 23 = .ok (.iload_n 2, 1) := dq_28 dp_cX0_become rfl
theorem dX0_become_24 : decode cX0_become 24 = .ok (.aload_n 1, 1) := dq_43 dp_cX0_become rfl
theorem dX0_become_25 : decode cX0_become 25 = .ok (.getfield 20, 3) := dq_180 dp_cX0_become rfl
theorem dX0_become_28 : decode cX0_become 28 = .ok (.iload_n 2, 1) := dq_28 dp_cX0_become rfl
theorem dX0_become_29 : decode cX0_become 29 = .ok (.aaload, 1) := dq_50 dp_cX0_become rfl
theorem dX0_become_30 : decode cX0_become 30 = .ok (.aastore, 1) := dq_83 dp_cX0_become rfl
theorem dX0_become_31 : decode cX0_become 31 = .ok (.iinc 2 1, 3) := dq_132 (v := 1) dp_cX0_become rfl (by decide) rfl
theorem dX0_become_34 : decode cX0_become 34 = .ok (.goto (-21), 3) := dq_167 (v := 65515) dp_cX0_become rfl rfl
theorem dX0_become_37 : decode cX0_become 37 = .ok (.aload_n 1, 1) := dq_43 dp_cX0_become rfl
theorem dX0_become_38 : decode cX0_become 38 = .ok (.getfield 24, 3) := dq_180 dp_cX0_become rfl
theorem dX0_become_41 : decode cX0_become 41 = .ok (.iconst 0, 1) := dq_3 dp_cX0_become rfl
theorem dX0_become_42 : decode cX0_become 42 = .ok (.aload_n 0, 1) := dq_42 dp_cX0_become rfl
theorem dX0_become_43 : decode cX0_become 43 = .ok (.getfield 24, 3) := dq_180 dp_cX0_become rfl
theorem dX0_become_46 : decode cX0_become 46 = .ok (.iconst 0, 1) := dq_3 dp_cX0_become rfl
theorem dX0_become_47 : decode cX0_become 47 = .ok (.iconst 3, 1) := dq_6 dp_cX0_become rfl
theorem dX0_become_48 : decode cX0_become 48 = .ok (.invokestatic 51, 3) := dq_184 dp_cX0_become rfl
theorem dX0_become_51 : decode cX0_become 51 = .ok (.aload_n 0, 1) := dq_42 dp_cX0_become rfl
theorem dX0_become_52 : decode cX0_become 52 = .ok (.aload_n 1, 1) := dq_43 dp_cX0_become rfl
theorem dX0_become_53 : decode cX0_become 53 = .ok (.getfield 28, 3) := dq_180 dp_cX0_become rfl
theorem dX0_become_56 : decode cX0_become 56 = .ok (.putfield 28, 3) := dq_181 dp_cX0_become rfl
theorem dX0_become_59 : decode cX0_become 59 = .ok (.aload_n 0, 1) := dq_42 dp_cX0_become rfl
theorem dX0_become_60 : decode cX0_become 60 = .ok (.aload_n 1, 1) := dq_43 dp_cX0_become rfl
theorem dX0_become_61 : decode cX0_become 61 = .ok (.getfield 32, 3) := dq_180 dp_cX0_become rfl
theorem dX0_become_64 : decode cX0_become 64 = .ok (.putfield 32, 3) := dq_181 dp_cX0_become rfl
theorem dX0_become_67 : decode cX0_become 67 = .ok (.aload_n 0, 1) := dq_42 dp_cX0_become rfl
theorem dX0_become_68 : decode cX0_become 68 = .ok (.aload_n 1, 1) := dq_43 dp_cX0_become rfl
theorem dX0_become_69 : decode cX0_become 69 = .ok (.getfield 35, 3) := dq_180 dp_cX0_become rfl
theorem dX0_become_72 : decode cX0_become 72 = .ok (.putfield 35, 3) := dq_181 dp_cX0_become rfl
theorem dX0_become_75 : decode cX0_become 75 = .ok (.aload_n 0, 1) := dq_42 dp_cX0_become rfl
theorem dX0_become_76 : decode cX0_become 76 = .ok (.aload_n 1, 1) := dq_43 dp_cX0_become rfl
theorem dX0_become_77 : decode cX0_become 77 = .ok (.getfield 38, 3) := dq_180 dp_cX0_become rfl
theorem dX0_become_80 : decode cX0_become 80 = .ok (.putfield 38, 3) := dq_181 dp_cX0_become rfl
theorem dX0_become_83 : decode cX0_become 83 = .ok (.aload_n 0, 1) := dq_42 dp_cX0_become rfl
theorem dX0_become_84 : decode cX0_become 84 = .ok (.aload_n 1, 1) := dq_43 dp_cX0_become rfl
theorem dX0_become_85 : decode cX0_become 85 = .ok (.getfield 41, 3) := dq_180 dp_cX0_become rfl
theorem dX0_become_88 : decode cX0_become 88 = .ok (.putfield 41, 3) := dq_181 dp_cX0_become rfl
theorem dX0_become_91 : decode cX0_become 91 = .ok (.aload_n 0, 1) := dq_42 dp_cX0_become rfl
theorem dX0_become_92 : decode cX0_become 92 = .ok (.aload_n 1, 1) := dq_43 dp_cX0_become rfl
theorem dX0_become_93 : decode cX0_become 93 = .ok (.getfield 44, 3) := dq_180 dp_cX0_become rfl
theorem dX0_become_96 : decode cX0_become 96 = .ok (.putfield 44, 3) := dq_181 dp_cX0_become rfl
theorem dX0_become_99 : decode cX0_become 99 = .ok (.return_, 1) := dq_177 dp_cX0_become rfl
set_option maxRecDepth 20000 in
theorem gl_X0_addPull_X20 : GoodIn wsX0_addPull wsX20 := (dg_t (dg_t (dg_t (dg_t (dg_t (dg_t (dg_t (dg_t (dg_t (dg_t (dg_t (dg_t (dg_t (dg_t (dg_t (dg_r gw_wsX20))))))))))))))))
theorem ggX0_addPull_X2_init : GoodIn wsX0_addPull wsX2_init := (dg_c 8 rfl rfl (dg_c 9 rfl rfl (dg_c 10 rfl rfl (dg_c 11 rfl rfl (dg_c 12 rfl rfl (dg_c 13 rfl rfl (dg_c 14 rfl rfl gl_X0_addPull_X20)))))))
set_option maxRecDepth 20000 in
theorem gX0_addPull_X2_init : GoodIn wsX0_addPull (wsX2_init) := ggX0_addPull_X2_init
theorem dX0_addPull_0 : decode cX0_addPull 0 = .ok (.aload_n 0, 1) := dq_42 dp_cX0_addPull rfl
theorem dX0_addPull_1 : decode cX0_addPull 1 = .ok (.getfield 28, 3) := dq_180 dp_cX0_addPull rfl
theorem dX0_addPull_4 : decode cX0_addPull 4 = .ok (.bipush 8, 2) := dq_16 (v := 8) dp_cX0_addPull rfl rfl
theorem dX0_addPull_6 : decode cX0_addPull 6 = .ok (.if_icmp .lt 5, 3) := dq_161 (v := 5) dp_cX0_addPull rfl rfl
theorem dX0_addPull_9 : decode cX0_addPull 9 = .ok (.iconst (-1), 1) := dq_2 dp_cX0_addPull rfl
theorem dX0_addPull_10 : decode cX0_addPull 10 = .ok (.ireturn, 1) := dq_172 dp_cX0_addPull rfl
theorem dX0_addPull_11 : decode cX0_addPull 11 = .ok (.aload_n 0, 1) := dq_42 dp_cX0_addPull rfl
theorem dX0_addPull_12 : decode cX0_addPull 12 = .ok (.getfield 20, 3) := dq_180 dp_cX0_addPull rfl
theorem dX0_addPull_15 : decode cX0_addPull 15 = .ok (.aload_n 0, 1) := dq_42 dp_cX0_addPull rfl
theorem dX0_addPull_16 : decode cX0_addPull 16 = .ok (.getfield 28, 3) := dq_180 dp_cX0_addPull rfl
theorem dX0_addPull_19 : decode cX0_addPull 19 = .ok (.new 18, 3) := dq_187 dp_cX0_addPull rfl
theorem dX0_addPull_22 : decode cX0_addPull 22 = .ok (.dup, 1) := dq_89 dp_cX0_addPull rfl
theorem dX0_addPull_23 : decode cX0_addPull 23 = .ok (.iload_n 1, 1) := dq_27 dp_cX0_addPull rfl
theorem dX0_addPull_24 : decode cX0_addPull 24 = .ok (.iload_n 2, 1) := dq_28 dp_cX0_addPull rfl
theorem dX0_addPull_25 : decode cX0_addPull 25 = .ok (.iload_n 3, 1) := dq_29 dp_cX0_addPull rfl
theorem dX0_addPull_26 : decode cX0_addPull 26 = .ok (.invokespecial 70, 3) := dq_183 dp_cX0_addPull rfl
theorem dX0_addPull_29 : decode cX0_addPull 29 = .ok (.aastore, 1) := dq_83 dp_cX0_addPull rfl
theorem dX0_addPull_30 : decode cX0_addPull 30 = .ok (.aload_n 0, 1) := dq_42 dp_cX0_addPull rfl
theorem dX0_addPull_31 : decode cX0_addPull 31 = .ok (.dup, 1) := dq_89 dp_cX0_addPull rfl
theorem dX0_addPull_32 : decode cX0_addPull 32 = .ok (.getfield 28, 3) := dq_180 dp_cX0_addPull rfl
theorem dX0_addPull_35 : decode cX0_addPull 35 = .ok (.dup_x1, 1) := dq_90 dp_cX0_addPull rfl
theorem dX0_addPull_36 : decode cX0_addPull 36 = .ok (.iconst 1, 1) := dq_4 dp_cX0_addPull rfl
theorem dX0_addPull_37 : decode cX0_addPull 37 = .ok (.iadd, 1) := dq_96 dp_cX0_addPull rfl
theorem dX0_addPull_38 : decode cX0_addPull 38 = .ok (.putfield 28, 3) := dq_181 dp_cX0_addPull rfl
theorem dX0_addPull_41 : decode cX0_addPull 41 = .ok (.ireturn, 1) := dq_172 dp_cX0_addPull rfl
theorem dX2_init_0 : decode cX2_init 0 = .ok (.aload_n 0, 1) := dq_42 dp_cX2_init rfl
theorem dX2_init_1 : decode cX2_init 1 = .ok (.invokespecial 3, 3) := dq_183 dp_cX2_init rfl
theorem dX2_init_4 : decode cX2_init 4 = .ok (.aload_n 0, 1) := dq_42 dp_cX2_init rfl
theorem dX2_init_5 : decode cX2_init 5 = .ok (.iload_n 1, 1) := dq_27 dp_cX2_init rfl
theorem dX2_init_6 : decode cX2_init 6 = .ok (.putfield 9, 3) := dq_181 dp_cX2_init rfl
theorem dX2_init_9 : decode cX2_init 9 = .ok (.aload_n 0, 1) := dq_42 dp_cX2_init rfl
theorem dX2_init_10 : decode cX2_init 10 = .ok (.iload_n 2, 1) := dq_28 dp_cX2_init rfl
theorem dX2_init_11 : decode cX2_init 11 = .ok (.putfield 15, 3) := dq_181 dp_cX2_init rfl
theorem dX2_init_14 : decode cX2_init 14 = .ok (.aload_n 0, 1) := dq_42 dp_cX2_init rfl
theorem dX2_init_15 : decode cX2_init 15 = .ok (.iload_n 3, 1) := dq_29 dp_cX2_init rfl
theorem dX2_init_16 : decode cX2_init 16 = .ok (.putfield 18, 3) := dq_181 dp_cX2_init rfl
theorem dX2_init_19 : decode cX2_init 19 = .ok (.return_, 1) := dq_177 dp_cX2_init rfl
set_option maxRecDepth 20000 in
theorem gl_X3_read_X40 : GoodIn wsX3_read wsX40 := (dg_t (dg_r gw_wsX40))
theorem gl_X3_read_X30 : GoodIn wsX3_read wsX30 := (dg_t (dg_l (dg_r gw_wsX30)))
theorem ggX3_read_X3_takeLetters : GoodIn wsX3_read wsX3_takeLetters := (dg_c 11 rfl rfl (dg_c 12 rfl rfl (dg_c 13 rfl rfl (dg_c 14 rfl rfl (dg_c 15 rfl rfl (dg_c 16 rfl rfl (dg_c 6 rfl rfl (dg_c 17 rfl rfl (dg_c 18 rfl rfl (dg_c 19 rfl rfl (dg_c 20 rfl rfl (dg_c 21 rfl rfl (dg_c 22 rfl rfl (dg_c 23 rfl rfl (dg_c 24 rfl rfl (dg_c 25 rfl rfl (dg_c 26 rfl rfl (dg_c 27 rfl rfl (dg_c 28 rfl rfl (goodIn_app gl_X3_read_X40 gl_X3_read_X30))))))))))))))))))))
set_option maxRecDepth 20000 in
theorem gX3_read_X3_takeLetters : GoodIn wsX3_read (wsV RX3 37 RX3 yX3_takeLetters wsX3_takeLetters) := goodIn_app (dg_c 7 rfl rfl (dg_c 8 rfl rfl (dg_c 9 rfl rfl (dg_c 10 rfl rfl dg_0)))) ggX3_read_X3_takeLetters
set_option maxRecDepth 20000 in
theorem ggX3_read_X3_readItem : GoodIn wsX3_read wsX3_readItem := (dg_c 32 rfl rfl (goodIn_app (goodIn_app (dg_c 33 rfl rfl (dg_c 4 rfl rfl (dg_c 1 rfl rfl (dg_c 2 rfl rfl (dg_c 34 rfl rfl (dg_c 35 rfl rfl (dg_c 36 rfl rfl (dg_c 10 rfl rfl (dg_c 37 rfl rfl (dg_c 38 rfl rfl (dg_c 39 rfl rfl (dg_c 15 rfl rfl (dg_c 40 rfl rfl (dg_c 3 rfl rfl (dg_c 41 rfl rfl (dg_c 42 rfl rfl (dg_c 43 rfl rfl (dg_c 44 rfl rfl (dg_c 45 rfl rfl (dg_c 46 rfl rfl (dg_c 47 rfl rfl (dg_c 48 rfl rfl (dg_c 49 rfl rfl (dg_c 50 rfl rfl dg_0)))))))))))))))))))))))) (goodIn_app (dg_c 51 rfl rfl (dg_c 52 rfl rfl (dg_c 53 rfl rfl (dg_c 54 rfl rfl (dg_c 55 rfl rfl (dg_c 56 rfl rfl (dg_c 57 rfl rfl (dg_c 58 rfl rfl (dg_c 59 rfl rfl (dg_c 60 rfl rfl (dg_c 61 rfl rfl (dg_c 62 rfl rfl (dg_c 63 rfl rfl (dg_c 64 rfl rfl (dg_c 65 rfl rfl (dg_c 66 rfl rfl (dg_c 67 rfl rfl (dg_c 68 rfl rfl (dg_c 69 rfl rfl (dg_c 70 rfl rfl (dg_c 71 rfl rfl (dg_c 72 rfl rfl (dg_c 73 rfl rfl (dg_c 74 rfl rfl dg_0)))))))))))))))))))))))) (goodIn_app (dg_c 75 rfl rfl (dg_c 76 rfl rfl (dg_c 77 rfl rfl (dg_c 78 rfl rfl (dg_c 79 rfl rfl (dg_c 80 rfl rfl (dg_c 81 rfl rfl (dg_c 82 rfl rfl (dg_c 83 rfl rfl (dg_c 84 rfl rfl (dg_c 85 rfl rfl (dg_c 86 rfl rfl (dg_c 87 rfl rfl (dg_c 88 rfl rfl (dg_c 89 rfl rfl (dg_c 90 rfl rfl (dg_c 91 rfl rfl (dg_c 92 rfl rfl (dg_c 93 rfl rfl (dg_c 94 rfl rfl (dg_c 95 rfl rfl (dg_c 96 rfl rfl (dg_c 97 rfl rfl (dg_c 98 rfl rfl dg_0)))))))))))))))))))))))) (goodIn_app (dg_c 99 rfl rfl (dg_c 100 rfl rfl (dg_c 6 rfl rfl (dg_c 17 rfl rfl (dg_c 101 rfl rfl (dg_c 102 rfl rfl (dg_c 103 rfl rfl (dg_c 104 rfl rfl (dg_c 105 rfl rfl (dg_c 106 rfl rfl (dg_c 107 rfl rfl (dg_c 108 rfl rfl (dg_c 109 rfl rfl (dg_c 110 rfl rfl (dg_c 111 rfl rfl (dg_c 112 rfl rfl (dg_c 113 rfl rfl (dg_c 114 rfl rfl (dg_c 115 rfl rfl (dg_c 116 rfl rfl (dg_c 117 rfl rfl (dg_c 118 rfl rfl (dg_c 119 rfl rfl (dg_c 120 rfl rfl dg_0)))))))))))))))))))))))) (dg_c 121 rfl rfl (dg_c 122 rfl rfl (dg_c 123 rfl rfl (dg_c 124 rfl rfl (dg_c 125 rfl rfl (dg_c 126 rfl rfl (dg_c 127 rfl rfl (dg_c 128 rfl rfl dg_0)))))))))))) gl_X3_read_X30))
set_option maxRecDepth 20000 in
theorem gX3_read_X3_readItem : GoodIn wsX3_read (wsV RX3 41 RX3 yX3_readItem wsX3_readItem) := goodIn_app (dg_c 29 rfl rfl (dg_c 30 rfl rfl (dg_c 31 rfl rfl (dg_c 10 rfl rfl dg_0)))) ggX3_read_X3_readItem
set_option maxRecDepth 20000 in
theorem ggX3_read_X3_expect : GoodIn wsX3_read wsX3_expect := (dg_c 111 rfl rfl (dg_c 3 rfl rfl (dg_c 4 rfl rfl (dg_c 97 rfl rfl (dg_c 98 rfl rfl (dg_c 99 rfl rfl (dg_c 10 rfl rfl (dg_c 100 rfl rfl (dg_c 6 rfl rfl (dg_c 17 rfl rfl gl_X3_read_X30))))))))))
set_option maxRecDepth 20000 in
theorem gX3_read_X3_expect : GoodIn wsX3_read (wsV RX3 45 RX3 yX3_expect wsX3_expect) := goodIn_app (dg_c 108 rfl rfl (dg_c 109 rfl rfl (dg_c 110 rfl rfl (dg_c 10 rfl rfl dg_0)))) ggX3_read_X3_expect
theorem dX3_read_0 : decode cX3_read 0 = .ok (.aload_n 0, 1) := dq_42 dp_cX3_read rfl
theorem dX3_read_1 : decode cX3_read 1 = .ok (.aload_n 1, 1) := dq_43 dp_cX3_read rfl
theorem dX3_read_2 : decode cX3_read 2 = .ok (.invokevirtual 37, 3) := dq_182 dp_cX3_read rfl
theorem dX3_read_5 : decode cX3_read 5 = .ok (.aload_n 0, 1) := dq_42 dp_cX3_read rfl
theorem dX3_read_6 : decode cX3_read 6 = .ok (.iload_n 2, 1) := dq_28 dp_cX3_read rfl
theorem dX3_read_7 : decode cX3_read 7 = .ok (.putfield 31, 3) := dq_181 dp_cX3_read rfl
theorem dX3_read_10 : decode cX3_read 10 = .ok (.aload_n 0, 1) := dq_42 dp_cX3_read rfl
theorem dX3_read_11 : decode cX3_read 11 = .ok (.iload_n 3, 1) := dq_29 dp_cX3_read rfl
theorem dX3_read_12 : decode cX3_read 12 = .ok (.putfield 34, 3) := dq_181 dp_cX3_read rfl
theorem dX3_read_15 : decode cX3_read 15 = .ok (.aload_n 0, 1) := dq_42 dp_cX3_read rfl
theorem dX3_read_16 : decode cX3_read 16 = .ok (.iconst 0, 1) := dq_3 dp_cX3_read rfl
theorem dX3_read_17 : decode cX3_read 17 = .ok (.putfield 25, 3) := dq_181 dp_cX3_read rfl
theorem dX3_read_20 : decode cX3_read 20 = .ok (.aload_n 0, 1) := dq_42 dp_cX3_read rfl
theorem dX3_read_21 : decode cX3_read 21 = .ok (.iconst (-1), 1) := dq_2 dp_cX3_read rfl
theorem dX3_read_22 : decode cX3_read 22 = .ok (.putfield 28, 3) := dq_181 dp_cX3_read rfl
theorem dX3_read_25 : decode cX3_read 25 = .ok (.iconst 1, 1) := dq_4 dp_cX3_read rfl
theorem dX3_read_26 : decode cX3_read 26 = .ok (.istore 4, 2) := dq_54 dp_cX3_read rfl
theorem dX3_read_28 : decode cX3_read 28 = .ok (.aload_n 0, 1) := dq_42 dp_cX3_read rfl
theorem dX3_read_29 : decode cX3_read 29 = .ok (.iconst 0, 1) := dq_3 dp_cX3_read rfl
theorem dX3_read_30 : decode cX3_read 30 = .ok (.putfield 22, 3) := dq_181 dp_cX3_read rfl
theorem dX3_read_33 : decode cX3_read 33 = .ok (.iload 4, 2) := dq_21 dp_cX3_read rfl
theorem dX3_read_35 : decode cX3_read 35 = .ok (.ifCond .eq 87, 3) := dq_153 (v := 87) dp_cX3_read rfl rfl
theorem dX3_read_38 : decode cX3_read 38 = .ok (.aload_n 0, 1) := dq_42 dp_cX3_read rfl
theorem dX3_read_39 : decode cX3_read 39 = .ok (.getfield 22, 3) := dq_180 dp_cX3_read rfl
theorem dX3_read_42 : decode cX3_read 42 = .ok (.bipush 33, 2) := dq_16 (v := 33) dp_cX3_read rfl rfl
theorem dX3_read_44 : decode cX3_read 44 = .ok (.if_icmp .ge 78, 3) := dq_162 (v := 78) dp_cX3_read rfl rfl
theorem dX3_read_47 : decode cX3_read 47 = .ok (.aload_n 0, 1) := dq_42 dp_cX3_read rfl
theorem dX3_read_48 : decode cX3_read 48 = .ok (.aload_n 0, 1) := dq_42 dp_cX3_read rfl
theorem dX3_read_49 : decode cX3_read 49 = .ok (.getfield 22, 3) := dq_180 dp_cX3_read rfl
theorem dX3_read_52 : decode cX3_read 52 = .ok (.iconst 4, 1) := dq_7 dp_cX3_read rfl
theorem dX3_read_53 : decode cX3_read 53 = .ok (.imul, 1) := dq_104 dp_cX3_read rfl
theorem dX3_read_54 : decode cX3_read 54 = .ok (.invokevirtual 41, 3) := dq_182 dp_cX3_read rfl
theorem dX3_read_57 : decode cX3_read 57 = .ok (.aload_n 0, 1) := dq_42 dp_cX3_read rfl
theorem dX3_read_58 : decode cX3_read 58 = .ok (.getfield 28, 3) := dq_180 dp_cX3_read rfl
theorem dX3_read_61 : decode cX3_read 61 = .ok (.iconst (-1), 1) := dq_2 dp_cX3_read rfl
theorem dX3_read_62 : decode cX3_read 62 = .ok (.if_icmp .ne 18, 3) := dq_160 (v := 18) dp_cX3_read rfl rfl
theorem dX3_read_65 : decode cX3_read 65 = .ok (.aload_n 0, 1) := dq_42 dp_cX3_read rfl
theorem dX3_read_66 : decode cX3_read 66 = .ok (.getfield 25, 3) := dq_180 dp_cX3_read rfl
theorem dX3_read_69 : decode cX3_read 69 = .ok (.aload_n 0, 1) := dq_42 dp_cX3_read rfl
theorem dX3_read_70 : decode cX3_read 70 = .ok (.getfield 18, 3) := dq_180 dp_cX3_read rfl
theorem dX3_read_73 : decode cX3_read 73 = .ok (.if_icmp .ge 7, 3) := dq_162 (v := 7) dp_cX3_read rfl rfl
theorem dX3_read_76 : decode cX3_read 76 = .ok (.iconst 1, 1) := dq_4 dp_cX3_read rfl
theorem dX3_read_77 : decode cX3_read 77 = .ok (.goto 4, 3) := dq_167 (v := 4) dp_cX3_read rfl rfl
theorem dX3_read_80 : decode cX3_read 80 = .ok (.iconst 0, 1) := dq_3 dp_cX3_read rfl
theorem dX3_read_81 : decode cX3_read 81 = .ok (.istore 4, 2) := dq_54 dp_cX3_read rfl
theorem dX3_read_83 : decode cX3_read 83 = .ok (.iload 4, 2) := dq_21 dp_cX3_read rfl
theorem dX3_read_85 : decode cX3_read 85 = .ok (.ifCond .eq 24, 3) := dq_153 (v := 24) dp_cX3_read rfl rfl
theorem dX3_read_88 : decode cX3_read 88 = .ok (.aload_n 0, 1) := dq_42 dp_cX3_read rfl
theorem dX3_read_89 : decode cX3_read 89 = .ok (.bipush 59, 2) := dq_16 (v := 59) dp_cX3_read rfl rfl
theorem dX3_read_91 : decode cX3_read 91 = .ok (.invokevirtual 45, 3) := dq_182 dp_cX3_read rfl
theorem dX3_read_94 : decode cX3_read 94 = .ok (.aload_n 0, 1) := dq_42 dp_cX3_read rfl
theorem dX3_read_95 : decode cX3_read 95 = .ok (.getfield 28, 3) := dq_180 dp_cX3_read rfl
theorem dX3_read_98 : decode cX3_read 98 = .ok (.iconst (-1), 1) := dq_2 dp_cX3_read rfl
theorem dX3_read_99 : decode cX3_read 99 = .ok (.if_icmp .ne 7, 3) := dq_160 (v := 7) dp_cX3_read rfl rfl
theorem dX3_read_102 : decode cX3_read 102 = .ok (.iconst 1, 1) := dq_4 dp_cX3_read rfl
theorem dX3_read_103 : decode cX3_read 103 = .ok (.goto 4, 3) := dq_167 (v := 4) dp_cX3_read rfl rfl
theorem dX3_read_106 : decode cX3_read 106 = .ok (.iconst 0, 1) := dq_3 dp_cX3_read rfl
theorem dX3_read_107 : decode cX3_read 107 = .ok (.istore 4, 2) := dq_54 dp_cX3_read rfl
theorem dX3_read_109 : decode cX3_read 109 = .ok (.aload_n 0, 1) := dq_42 dp_cX3_read rfl
theorem dX3_read_110 : decode cX3_read 110 = .ok (.dup, 1) := dq_89 dp_cX3_read rfl
theorem dX3_read_111 : decode cX3_read 111 = .ok (.getfield 22, 3) := dq_180 dp_cX3_read rfl
theorem dX3_read_114 : decode cX3_read 114 = .ok (.iconst 1, 1) := dq_4 dp_cX3_read rfl
theorem dX3_read_115 : decode cX3_read 115 = .ok (.iadd, 1) := dq_96 dp_cX3_read rfl
theorem dX3_read_116 : decode cX3_read 116 = .ok (.putfield 22, 3) := dq_181 dp_cX3_read rfl
theorem dX3_read_119 : decode cX3_read 119 = .ok (.goto (-86), 3) := dq_167 (v := 65450) dp_cX3_read rfl rfl
theorem dX3_read_122 : decode cX3_read 122 = .ok (.aload_n 0, 1) := dq_42 dp_cX3_read rfl
theorem dX3_read_123 : decode cX3_read 123 = .ok (.getfield 28, 3) := dq_180 dp_cX3_read rfl
theorem dX3_read_126 : decode cX3_read 126 = .ok (.ireturn, 1) := dq_172 dp_cX3_read rfl
set_option maxRecDepth 20000 in
theorem gl_X3_takeLetters_X40 : GoodIn wsX3_takeLetters wsX40 := (dg_t (dg_t (dg_t (dg_t (dg_t (dg_t (dg_t (dg_t (dg_t (dg_t (dg_t (dg_t (dg_t (dg_t (dg_t (dg_t (dg_t (dg_t (dg_t (dg_l gw_wsX40))))))))))))))))))))
theorem ggX3_takeLetters_X4_tells : GoodIn wsX3_takeLetters wsX4_tells := (dg_c 12 rfl rfl (dg_c 13 rfl rfl (dg_c 14 rfl rfl (dg_c 15 rfl rfl (dg_c 16 rfl rfl (dg_c 11 rfl rfl (dg_c 17 rfl rfl (dg_c 18 rfl rfl gl_X3_takeLetters_X40))))))))
set_option maxRecDepth 20000 in
theorem gX3_takeLetters_X4_tells : GoodIn wsX3_takeLetters (wsV RX3 58 RX4 yX4_tells wsX4_tells) := goodIn_app (dg_c 8 rfl rfl (dg_c 9 rfl rfl (dg_c 10 rfl rfl (dg_c 11 rfl rfl dg_0)))) ggX3_takeLetters_X4_tells
theorem dX3_takeLetters_0 : decode cX3_takeLetters 0 = .ok (.aload_n 0, 1) := dq_42 dp_cX3_takeLetters rfl
theorem dX3_takeLetters_1 : decode cX3_takeLetters 1 = .ok (.aload_n 1, 1) := dq_43 dp_cX3_takeLetters rfl
theorem dX3_takeLetters_2 : decode cX3_takeLetters 2 = .ok (.getfield 49, 3) := dq_180 dp_cX3_takeLetters rfl
theorem dX3_takeLetters_5 : decode cX3_takeLetters 5 = .ok (.sipush 160, 3) := dq_17 (v := 160) dp_cX3_takeLetters rfl rfl
theorem dX3_takeLetters_8 : decode cX3_takeLetters 8 = .ok (.invokestatic 52, 3) := dq_184 dp_cX3_takeLetters rfl
theorem dX3_takeLetters_11 : decode cX3_takeLetters 11 = .ok (.putfield 18, 3) := dq_181 dp_cX3_takeLetters rfl
theorem dX3_takeLetters_14 : decode cX3_takeLetters 14 = .ok (.iconst 0, 1) := dq_3 dp_cX3_takeLetters rfl
theorem dX3_takeLetters_15 : decode cX3_takeLetters 15 = .ok (.istore_n 2, 1) := dq_61 dp_cX3_takeLetters rfl
theorem dX3_takeLetters_16 : decode cX3_takeLetters 16 = .ok (.iload_n 2, 1) := dq_28 dp_cX3_takeLetters rfl
theorem dX3_takeLetters_17 : decode cX3_takeLetters 17 = .ok (.aload_n 0, 1) := dq_42 dp_cX3_takeLetters rfl
theorem dX3_takeLetters_18 : decode cX3_takeLetters 18 = .ok (.getfield 18, 3) := dq_180 dp_cX3_takeLetters rfl
theorem dX3_takeLetters_21 : decode cX3_takeLetters 21 = .ok (.if_icmp .ge 20, 3) := dq_162 (v := 20) dp_cX3_takeLetters rfl rfl
theorem dX3_takeLetters_24 : decode cX3_takeLetters 24 = .ok (.aload_n 0, 1) := dq_42 dp_cX3_takeLetters rfl
theorem dX3_takeLetters_25 : decode cX3_takeLetters 25 = .ok (.getfield 15, 3) := dq_180 dp_cX3_takeLetters rfl
theorem dX3_takeLetters_28 : decode cX3_takeLetters 28 = .ok (.iload_n 2, 1) := dq_28 dp_cX3_takeLetters rfl
theorem dX3_takeLetters_29 : decode cX3_takeLetters 29 = .ok (.aload_n 1, 1) := dq_43 dp_cX3_takeLetters rfl
theorem dX3_takeLetters_30 : decode cX3_takeLetters 30 = .ok (.iload_n 2, 1) := dq_28 dp_cX3_takeLetters rfl
theorem dX3_takeLetters_31 : decode cX3_takeLetters 31 = .ok (.invokevirtual 58, 3) := dq_182 dp_cX3_takeLetters rfl
theorem dX3_takeLetters_34 : decode cX3_takeLetters 34 = .ok (.iastore, 1) := dq_79 dp_cX3_takeLetters rfl
theorem dX3_takeLetters_35 : decode cX3_takeLetters 35 = .ok (.iinc 2 1, 3) := dq_132 (v := 1) dp_cX3_takeLetters rfl (by decide) rfl
theorem dX3_takeLetters_38 : decode cX3_takeLetters 38 = .ok (.goto (-22), 3) := dq_167 (v := 65514) dp_cX3_takeLetters rfl rfl
theorem dX3_takeLetters_41 : decode cX3_takeLetters 41 = .ok (.return_, 1) := dq_177 dp_cX3_takeLetters rfl
set_option maxRecDepth 20000 in
theorem gl_X3_readItem_X30 : GoodIn wsX3_readItem wsX30 := (dg_t (dg_r gw_wsX30))
theorem ggX3_readItem_X3_readWord : GoodIn wsX3_readItem wsX3_readWord := (dg_c 9 rfl rfl (goodIn_app (goodIn_app (dg_c 10 rfl rfl (dg_c 11 rfl rfl (dg_c 12 rfl rfl (dg_c 13 rfl rfl (dg_c 14 rfl rfl (dg_c 2 rfl rfl (dg_c 15 rfl rfl (dg_c 16 rfl rfl (dg_c 8 rfl rfl (dg_c 17 rfl rfl (dg_c 18 rfl rfl (dg_c 19 rfl rfl (dg_c 20 rfl rfl (dg_c 21 rfl rfl (dg_c 22 rfl rfl (dg_c 23 rfl rfl (dg_c 24 rfl rfl (dg_c 25 rfl rfl (dg_c 26 rfl rfl (dg_c 27 rfl rfl (dg_c 28 rfl rfl (dg_c 29 rfl rfl (dg_c 30 rfl rfl (dg_c 31 rfl rfl dg_0)))))))))))))))))))))))) (goodIn_app (dg_c 32 rfl rfl (dg_c 33 rfl rfl (dg_c 34 rfl rfl (dg_c 35 rfl rfl (dg_c 36 rfl rfl (dg_c 37 rfl rfl (dg_c 38 rfl rfl (dg_c 39 rfl rfl (dg_c 40 rfl rfl (dg_c 41 rfl rfl (dg_c 42 rfl rfl (dg_c 43 rfl rfl (dg_c 44 rfl rfl (dg_c 45 rfl rfl (dg_c 46 rfl rfl (dg_c 47 rfl rfl (dg_c 48 rfl rfl (dg_c 49 rfl rfl (dg_c 50 rfl rfl (dg_c 51 rfl rfl (dg_c 52 rfl rfl (dg_c 53 rfl rfl (dg_c 54 rfl rfl (dg_c 55 rfl rfl dg_0)))))))))))))))))))))))) (goodIn_app (dg_c 56 rfl rfl (dg_c 57 rfl rfl (dg_c 58 rfl rfl (dg_c 59 rfl rfl (dg_c 60 rfl rfl (dg_c 61 rfl rfl (dg_c 62 rfl rfl (dg_c 63 rfl rfl (dg_c 64 rfl rfl (dg_c 65 rfl rfl (dg_c 66 rfl rfl (dg_c 67 rfl rfl (dg_c 68 rfl rfl (dg_c 69 rfl rfl (dg_c 70 rfl rfl (dg_c 71 rfl rfl (dg_c 72 rfl rfl (dg_c 73 rfl rfl (dg_c 74 rfl rfl (dg_c 75 rfl rfl (dg_c 76 rfl rfl (dg_c 77 rfl rfl (dg_c 78 rfl rfl (dg_c 79 rfl rfl dg_0)))))))))))))))))))))))) (dg_c 80 rfl rfl (dg_c 4 rfl rfl dg_0))))) gl_X3_readItem_X30))
set_option maxRecDepth 20000 in
theorem gX3_readItem_X3_readWord : GoodIn wsX3_readItem (wsV RX3 62 RX3 yX3_readWord wsX3_readWord) := goodIn_app (dg_c 5 rfl rfl (dg_c 6 rfl rfl (dg_c 7 rfl rfl (dg_c 8 rfl rfl dg_0)))) ggX3_readItem_X3_readWord
set_option maxRecDepth 20000 in
theorem ggX3_readItem_X3_numbersOf : GoodIn wsX3_readItem wsX3_numbersOf := (dg_c 83 rfl rfl dg_0)
set_option maxRecDepth 20000 in
theorem gX3_readItem_X3_numbersOf : GoodIn wsX3_readItem (va_wsS RX3 66 yX3_numbersOf wsX3_numbersOf) := goodIn_app (dg_c 81 rfl rfl (dg_c 82 rfl rfl (dg_c 8 rfl rfl dg_0))) ggX3_readItem_X3_numbersOf
set_option maxRecDepth 20000 in
theorem ggX3_readItem_X3_expect : GoodIn wsX3_readItem wsX3_expect := (dg_c 87 rfl rfl (dg_c 14 rfl rfl (dg_c 2 rfl rfl (dg_c 71 rfl rfl (dg_c 72 rfl rfl (dg_c 73 rfl rfl (dg_c 8 rfl rfl (dg_c 74 rfl rfl (dg_c 75 rfl rfl (dg_c 76 rfl rfl gl_X3_readItem_X30))))))))))
set_option maxRecDepth 20000 in
theorem gX3_readItem_X3_expect : GoodIn wsX3_readItem (wsV RX3 45 RX3 yX3_expect wsX3_expect) := goodIn_app (dg_c 84 rfl rfl (dg_c 85 rfl rfl (dg_c 86 rfl rfl (dg_c 8 rfl rfl dg_0)))) ggX3_readItem_X3_expect
set_option maxRecDepth 20000 in
theorem ggX3_readItem_X3_leastOf : GoodIn wsX3_readItem wsX3_leastOf := (dg_c 90 rfl rfl dg_0)
set_option maxRecDepth 20000 in
theorem gX3_readItem_X3_leastOf : GoodIn wsX3_readItem (va_wsS RX3 69 yX3_leastOf wsX3_leastOf) := goodIn_app (dg_c 88 rfl rfl (dg_c 89 rfl rfl (dg_c 8 rfl rfl dg_0))) ggX3_readItem_X3_leastOf
set_option maxRecDepth 20000 in
theorem ggX3_readItem_X3_mostOf : GoodIn wsX3_readItem wsX3_mostOf := (dg_c 94 rfl rfl (dg_c 3 rfl rfl gl_X3_readItem_X30))
set_option maxRecDepth 20000 in
theorem gX3_readItem_X3_mostOf : GoodIn wsX3_readItem (wsV RX3 72 RX3 yX3_mostOf wsX3_mostOf) := goodIn_app (dg_c 91 rfl rfl (dg_c 92 rfl rfl (dg_c 93 rfl rfl (dg_c 8 rfl rfl dg_0)))) ggX3_readItem_X3_mostOf
set_option maxRecDepth 20000 in
theorem ggX3_readItem_X3_readNumber : GoodIn wsX3_readItem wsX3_readNumber := (dg_c 98 rfl rfl (dg_c 14 rfl rfl (dg_c 75 rfl rfl (dg_c 76 rfl rfl (dg_c 2 rfl rfl (dg_c 99 rfl rfl (dg_c 100 rfl rfl (dg_c 8 rfl rfl (dg_c 101 rfl rfl (dg_c 102 rfl rfl (dg_c 103 rfl rfl (dg_c 104 rfl rfl gl_X3_readItem_X30))))))))))))
set_option maxRecDepth 20000 in
theorem gX3_readItem_X3_readNumber : GoodIn wsX3_readItem (wsV RX3 75 RX3 yX3_readNumber wsX3_readNumber) := goodIn_app (dg_c 95 rfl rfl (dg_c 96 rfl rfl (dg_c 97 rfl rfl (dg_c 8 rfl rfl dg_0)))) ggX3_readItem_X3_readNumber
theorem dX3_readItem_0 : decode cX3_readItem 0 = .ok (.aload_n 0, 1) := dq_42 dp_cX3_readItem rfl
theorem dX3_readItem_1 : decode cX3_readItem 1 = .ok (.invokevirtual 62, 3) := dq_182 dp_cX3_readItem rfl
theorem dX3_readItem_4 : decode cX3_readItem 4 = .ok (.istore_n 2, 1) := dq_61 dp_cX3_readItem rfl
theorem dX3_readItem_5 : decode cX3_readItem 5 = .ok (.iload_n 2, 1) := dq_28 dp_cX3_readItem rfl
theorem dX3_readItem_6 : decode cX3_readItem 6 = .ok (.iconst (-1), 1) := dq_2 dp_cX3_readItem rfl
theorem dX3_readItem_7 : decode cX3_readItem 7 = .ok (.if_icmp .ne 4, 3) := dq_160 (v := 4) dp_cX3_readItem rfl rfl
theorem dX3_readItem_10 : decode cX3_readItem 10 = .ok (.return_, 1) := dq_177 dp_cX3_readItem rfl
theorem dX3_readItem_11 : decode cX3_readItem 11 = .ok (.aload_n 0, 1) := dq_42 dp_cX3_readItem rfl
theorem dX3_readItem_12 : decode cX3_readItem 12 = .ok (.getfield 11, 3) := dq_180 dp_cX3_readItem rfl
theorem dX3_readItem_15 : decode cX3_readItem 15 = .ok (.iload_n 1, 1) := dq_27 dp_cX3_readItem rfl
theorem dX3_readItem_16 : decode cX3_readItem 16 = .ok (.iload_n 2, 1) := dq_28 dp_cX3_readItem rfl
theorem dX3_readItem_17 : decode cX3_readItem 17 = .ok (.iastore, 1) := dq_79 dp_cX3_readItem rfl
theorem dX3_readItem_18 : decode cX3_readItem 18 = .ok (.iconst 0, 1) := dq_3 dp_cX3_readItem rfl
theorem dX3_readItem_19 : decode cX3_readItem 19 = .ok (.istore_n 3, 1) := dq_62 dp_cX3_readItem rfl
theorem dX3_readItem_20 : decode cX3_readItem 20 = .ok (.iload_n 3, 1) := dq_29 dp_cX3_readItem rfl
theorem dX3_readItem_21 : decode cX3_readItem 21 = .ok (.iload_n 2, 1) := dq_28 dp_cX3_readItem rfl
theorem dX3_readItem_22 : decode cX3_readItem 22 = .ok (.invokestatic 66, 3) := dq_184 dp_cX3_readItem rfl
theorem dX3_readItem_25 : decode cX3_readItem 25 = .ok (.if_icmp .ge 57, 3) := dq_162 (v := 57) dp_cX3_readItem rfl rfl
theorem dX3_readItem_28 : decode cX3_readItem 28 = .ok (.aload_n 0, 1) := dq_42 dp_cX3_readItem rfl
theorem dX3_readItem_29 : decode cX3_readItem 29 = .ok (.bipush 32, 2) := dq_16 (v := 32) dp_cX3_readItem rfl rfl
theorem dX3_readItem_31 : decode cX3_readItem 31 = .ok (.invokevirtual 45, 3) := dq_182 dp_cX3_readItem rfl
theorem dX3_readItem_34 : decode cX3_readItem 34 = .ok (.aload_n 0, 1) := dq_42 dp_cX3_readItem rfl
theorem dX3_readItem_35 : decode cX3_readItem 35 = .ok (.getfield 28, 3) := dq_180 dp_cX3_readItem rfl
theorem dX3_readItem_38 : decode cX3_readItem 38 = .ok (.iconst (-1), 1) := dq_2 dp_cX3_readItem rfl
theorem dX3_readItem_39 : decode cX3_readItem 39 = .ok (.if_icmp .ne 28, 3) := dq_160 (v := 28) dp_cX3_readItem rfl rfl
theorem dX3_readItem_42 : decode cX3_readItem 42 = .ok (.aload_n 0, 1) := dq_42 dp_cX3_readItem rfl
theorem dX3_readItem_43 : decode cX3_readItem 43 = .ok (.getfield 11, 3) := dq_180 dp_cX3_readItem rfl
theorem dX3_readItem_46 : decode cX3_readItem 46 = .ok (.iload_n 1, 1) := dq_27 dp_cX3_readItem rfl
theorem dX3_readItem_47 : decode cX3_readItem 47 = .ok (.iconst 1, 1) := dq_4 dp_cX3_readItem rfl
theorem dX3_readItem_48 : decode cX3_readItem 48 = .ok (.iadd, 1) := dq_96 dp_cX3_readItem rfl
theorem dX3_readItem_49 : decode cX3_readItem 49 = .ok (.iload_n 3, 1) := dq_29 dp_cX3_readItem rfl
theorem dX3_readItem_50 : decode cX3_readItem 50 = .ok (.iadd, 1) := dq_96 dp_cX3_readItem rfl
theorem dX3_readItem_51 : decode cX3_readItem 51 = .ok (.aload_n 0, 1) := dq_42 dp_cX3_readItem rfl
theorem dX3_readItem_52 : decode cX3_readItem 52 = .ok (.iload_n 2, 1) := dq_28 dp_cX3_readItem rfl
theorem dX3_readItem_53 : decode cX3_readItem 53 = .ok (.iload_n 3, 1) := dq_29 dp_cX3_readItem rfl
theorem dX3_readItem_54 : decode cX3_readItem 54 = .ok (.invokestatic 69, 3) := dq_184 dp_cX3_readItem rfl
theorem dX3_readItem_57 : decode cX3_readItem 57 = .ok (.aload_n 0, 1) := dq_42 dp_cX3_readItem rfl
theorem dX3_readItem_58 : decode cX3_readItem 58 = .ok (.iload_n 2, 1) := dq_28 dp_cX3_readItem rfl
theorem dX3_readItem_59 : decode cX3_readItem 59 = .ok (.iload_n 3, 1) := dq_29 dp_cX3_readItem rfl
theorem dX3_readItem_60 : decode cX3_readItem 60 = .ok (.invokevirtual 72, 3) := dq_182 dp_cX3_readItem rfl
theorem dX3_readItem_63 : decode cX3_readItem 63 = .ok (.invokevirtual 75, 3) := dq_182 dp_cX3_readItem rfl
theorem dX3_readItem_66 : decode cX3_readItem 66 = .ok (.iastore, 1) := dq_79 dp_cX3_readItem rfl
theorem dX3_readItem_67 : decode cX3_readItem 67 = .ok (.aload_n 0, 1) := dq_42 dp_cX3_readItem rfl
theorem dX3_readItem_68 : decode cX3_readItem 68 = .ok (.getfield 28, 3) := dq_180 dp_cX3_readItem rfl
theorem dX3_readItem_71 : decode cX3_readItem 71 = .ok (.iconst (-1), 1) := dq_2 dp_cX3_readItem rfl
theorem dX3_readItem_72 : decode cX3_readItem 72 = .ok (.if_icmp .eq 4, 3) := dq_159 (v := 4) dp_cX3_readItem rfl rfl
theorem dX3_readItem_75 : decode cX3_readItem 75 = .ok (.return_, 1) := dq_177 dp_cX3_readItem rfl
theorem dX3_readItem_76 : decode cX3_readItem 76 = .ok (.iinc 3 1, 3) := dq_132 (v := 1) dp_cX3_readItem rfl (by decide) rfl
theorem dX3_readItem_79 : decode cX3_readItem 79 = .ok (.goto (-59), 3) := dq_167 (v := 65477) dp_cX3_readItem rfl rfl
theorem dX3_readItem_82 : decode cX3_readItem 82 = .ok (.iload_n 2, 1) := dq_28 dp_cX3_readItem rfl
theorem dX3_readItem_83 : decode cX3_readItem 83 = .ok (.ifCond .ne 18, 3) := dq_154 (v := 18) dp_cX3_readItem rfl rfl
theorem dX3_readItem_86 : decode cX3_readItem 86 = .ok (.aload_n 0, 1) := dq_42 dp_cX3_readItem rfl
theorem dX3_readItem_87 : decode cX3_readItem 87 = .ok (.aload_n 0, 1) := dq_42 dp_cX3_readItem rfl
theorem dX3_readItem_88 : decode cX3_readItem 88 = .ok (.getfield 11, 3) := dq_180 dp_cX3_readItem rfl
theorem dX3_readItem_91 : decode cX3_readItem 91 = .ok (.iload_n 1, 1) := dq_27 dp_cX3_readItem rfl
theorem dX3_readItem_92 : decode cX3_readItem 92 = .ok (.iconst 1, 1) := dq_4 dp_cX3_readItem rfl
theorem dX3_readItem_93 : decode cX3_readItem 93 = .ok (.iadd, 1) := dq_96 dp_cX3_readItem rfl
theorem dX3_readItem_94 : decode cX3_readItem 94 = .ok (.iaload, 1) := dq_46 dp_cX3_readItem rfl
theorem dX3_readItem_95 : decode cX3_readItem 95 = .ok (.putfield 31, 3) := dq_181 dp_cX3_readItem rfl
theorem dX3_readItem_98 : decode cX3_readItem 98 = .ok (.goto 18, 3) := dq_167 (v := 18) dp_cX3_readItem rfl rfl
theorem dX3_readItem_101 : decode cX3_readItem 101 = .ok (.iload_n 2, 1) := dq_28 dp_cX3_readItem rfl
theorem dX3_readItem_102 : decode cX3_readItem 102 = .ok (.iconst 3, 1) := dq_6 dp_cX3_readItem rfl
theorem dX3_readItem_103 : decode cX3_readItem 103 = .ok (.if_icmp .ne 13, 3) := dq_160 (v := 13) dp_cX3_readItem rfl rfl
theorem dX3_readItem_106 : decode cX3_readItem 106 = .ok (.aload_n 0, 1) := dq_42 dp_cX3_readItem rfl
theorem dX3_readItem_107 : decode cX3_readItem 107 = .ok (.dup, 1) := dq_89 dp_cX3_readItem rfl
theorem dX3_readItem_108 : decode cX3_readItem 108 = .ok (.getfield 34, 3) := dq_180 dp_cX3_readItem rfl
theorem dX3_readItem_111 : decode cX3_readItem 111 = .ok (.iconst 1, 1) := dq_4 dp_cX3_readItem rfl
theorem dX3_readItem_112 : decode cX3_readItem 112 = .ok (.iadd, 1) := dq_96 dp_cX3_readItem rfl
theorem dX3_readItem_113 : decode cX3_readItem 113 = .ok (.putfield 34, 3) := dq_181 dp_cX3_readItem rfl
theorem dX3_readItem_116 : decode cX3_readItem 116 = .ok (.return_, 1) := dq_177 dp_cX3_readItem rfl
theorem dX3_stands_0 : decode cX3_stands 0 = .ok (.iload_n 1, 1) := dq_27 dp_cX3_stands rfl
theorem dX3_stands_1 : decode cX3_stands 1 = .ok (.ifCond .lt 25, 3) := dq_155 (v := 25) dp_cX3_stands rfl rfl
theorem dX3_stands_4 : decode cX3_stands 4 = .ok (.iload_n 1, 1) := dq_27 dp_cX3_stands rfl
theorem dX3_stands_5 : decode cX3_stands 5 = .ok (.aload_n 0, 1) := dq_42 dp_cX3_stands rfl
theorem dX3_stands_6 : decode cX3_stands 6 = .ok (.getfield 18, 3) := dq_180 dp_cX3_stands rfl
theorem dX3_stands_9 : decode cX3_stands 9 = .ok (.if_icmp .ge 17, 3) := dq_162 (v := 17) dp_cX3_stands rfl rfl
theorem dX3_stands_12 : decode cX3_stands 12 = .ok (.aload_n 0, 1) := dq_42 dp_cX3_stands rfl
theorem dX3_stands_13 : decode cX3_stands 13 = .ok (.getfield 15, 3) := dq_180 dp_cX3_stands rfl
theorem dX3_stands_16 : decode cX3_stands 16 = .ok (.iload_n 1, 1) := dq_27 dp_cX3_stands rfl
theorem dX3_stands_17 : decode cX3_stands 17 = .ok (.iaload, 1) := dq_46 dp_cX3_stands rfl
theorem dX3_stands_18 : decode cX3_stands 18 = .ok (.iload_n 2, 1) := dq_28 dp_cX3_stands rfl
theorem dX3_stands_19 : decode cX3_stands 19 = .ok (.if_icmp .ne 7, 3) := dq_160 (v := 7) dp_cX3_stands rfl rfl
theorem dX3_stands_22 : decode cX3_stands 22 = .ok (.iconst 1, 1) := dq_4 dp_cX3_stands rfl
theorem dX3_stands_23 : decode cX3_stands 23 = .ok (.goto 4, 3) := dq_167 (v := 4) dp_cX3_stands rfl rfl
theorem dX3_stands_26 : decode cX3_stands 26 = .ok (.iconst 0, 1) := dq_3 dp_cX3_stands rfl
theorem dX3_stands_27 : decode cX3_stands 27 = .ok (.ireturn, 1) := dq_172 dp_cX3_stands rfl
set_option maxRecDepth 20000 in
theorem gl_X3_expect_X30 : GoodIn wsX3_expect wsX30 := (dg_t (dg_t (dg_t (dg_t (dg_t (dg_t (dg_t (dg_t (dg_t (dg_t gw_wsX30))))))))))
theorem ggX3_expect_X3_stands : GoodIn wsX3_expect wsX3_stands := (dg_c 7 rfl rfl (dg_c 8 rfl rfl (dg_c 9 rfl rfl gl_X3_expect_X30)))
set_option maxRecDepth 20000 in
theorem gX3_expect_X3_stands : GoodIn wsX3_expect (wsV RX3 78 RX3 yX3_stands wsX3_stands) := goodIn_app (dg_c 3 rfl rfl (dg_c 4 rfl rfl (dg_c 5 rfl rfl (dg_c 6 rfl rfl dg_0)))) ggX3_expect_X3_stands
theorem dX3_expect_0 : decode cX3_expect 0 = .ok (.aload_n 0, 1) := dq_42 dp_cX3_expect rfl
theorem dX3_expect_1 : decode cX3_expect 1 = .ok (.aload_n 0, 1) := dq_42 dp_cX3_expect rfl
theorem dX3_expect_2 : decode cX3_expect 2 = .ok (.getfield 25, 3) := dq_180 dp_cX3_expect rfl
theorem dX3_expect_5 : decode cX3_expect 5 = .ok (.iload_n 1, 1) := dq_27 dp_cX3_expect rfl
theorem dX3_expect_6 : decode cX3_expect 6 = .ok (.invokevirtual 78, 3) := dq_182 dp_cX3_expect rfl
theorem dX3_expect_9 : decode cX3_expect 9 = .ok (.ifCond .eq 16, 3) := dq_153 (v := 16) dp_cX3_expect rfl rfl
theorem dX3_expect_12 : decode cX3_expect 12 = .ok (.aload_n 0, 1) := dq_42 dp_cX3_expect rfl
theorem dX3_expect_13 : decode cX3_expect 13 = .ok (.dup, 1) := dq_89 dp_cX3_expect rfl
theorem dX3_expect_14 : decode cX3_expect 14 = .ok (.getfield 25, 3) := dq_180 dp_cX3_expect rfl
theorem dX3_expect_17 : decode cX3_expect 17 = .ok (.iconst 1, 1) := dq_4 dp_cX3_expect rfl
theorem dX3_expect_18 : decode cX3_expect 18 = .ok (.iadd, 1) := dq_96 dp_cX3_expect rfl
theorem dX3_expect_19 : decode cX3_expect 19 = .ok (.putfield 25, 3) := dq_181 dp_cX3_expect rfl
theorem dX3_expect_22 : decode cX3_expect 22 = .ok (.goto 11, 3) := dq_167 (v := 11) dp_cX3_expect rfl rfl
theorem dX3_expect_25 : decode cX3_expect 25 = .ok (.aload_n 0, 1) := dq_42 dp_cX3_expect rfl
theorem dX3_expect_26 : decode cX3_expect 26 = .ok (.aload_n 0, 1) := dq_42 dp_cX3_expect rfl
theorem dX3_expect_27 : decode cX3_expect 27 = .ok (.getfield 25, 3) := dq_180 dp_cX3_expect rfl
theorem dX3_expect_30 : decode cX3_expect 30 = .ok (.putfield 28, 3) := dq_181 dp_cX3_expect rfl
theorem dX3_expect_33 : decode cX3_expect 33 = .ok (.return_, 1) := dq_177 dp_cX3_expect rfl
set_option maxRecDepth 20000 in
theorem ggX3_readWord_X3_wordAt : GoodIn wsX3_readWord wsX3_wordAt := (dg_c 10 rfl rfl dg_0)
set_option maxRecDepth 20000 in
theorem gX3_readWord_X3_wordAt : GoodIn wsX3_readWord (va_wsS RX3 82 yX3_wordAt wsX3_wordAt) := goodIn_app (dg_c 7 rfl rfl (dg_c 8 rfl rfl (dg_c 9 rfl rfl dg_0))) ggX3_readWord_X3_wordAt
set_option maxRecDepth 20000 in
theorem gl_X3_readWord_X30 : GoodIn wsX3_readWord wsX30 := (dg_t (dg_r gw_wsX30))
theorem ggX3_readWord_X3_lettersStanding : GoodIn wsX3_readWord wsX3_lettersStanding := (dg_c 14 rfl rfl (goodIn_app (goodIn_app (dg_c 5 rfl rfl (dg_c 15 rfl rfl (dg_c 16 rfl rfl (dg_c 17 rfl rfl (dg_c 18 rfl rfl (dg_c 19 rfl rfl (dg_c 20 rfl rfl (dg_c 21 rfl rfl (dg_c 22 rfl rfl (dg_c 23 rfl rfl (dg_c 24 rfl rfl (dg_c 25 rfl rfl (dg_c 26 rfl rfl (dg_c 27 rfl rfl (dg_c 28 rfl rfl (dg_c 29 rfl rfl (dg_c 30 rfl rfl (dg_c 31 rfl rfl (dg_c 32 rfl rfl (dg_c 33 rfl rfl (dg_c 34 rfl rfl (dg_c 35 rfl rfl (dg_c 36 rfl rfl (dg_c 37 rfl rfl dg_0)))))))))))))))))))))))) (goodIn_app (dg_c 38 rfl rfl (dg_c 39 rfl rfl (dg_c 40 rfl rfl (dg_c 41 rfl rfl (dg_c 42 rfl rfl (dg_c 43 rfl rfl (dg_c 44 rfl rfl (dg_c 45 rfl rfl (dg_c 46 rfl rfl (dg_c 47 rfl rfl (dg_c 48 rfl rfl (dg_c 49 rfl rfl (dg_c 50 rfl rfl (dg_c 51 rfl rfl (dg_c 52 rfl rfl (dg_c 53 rfl rfl (dg_c 54 rfl rfl (dg_c 55 rfl rfl (dg_c 56 rfl rfl (dg_c 57 rfl rfl (dg_c 58 rfl rfl (dg_c 59 rfl rfl (dg_c 60 rfl rfl (dg_c 61 rfl rfl dg_0)))))))))))))))))))))))) (dg_c 62 rfl rfl (dg_c 63 rfl rfl (dg_c 64 rfl rfl (dg_c 65 rfl rfl (dg_c 66 rfl rfl (dg_c 9 rfl rfl (dg_c 67 rfl rfl (dg_c 68 rfl rfl (dg_c 69 rfl rfl dg_0))))))))))) gl_X3_readWord_X30))
set_option maxRecDepth 20000 in
theorem gX3_readWord_X3_lettersStanding : GoodIn wsX3_readWord (wsV RX3 86 RX3 yX3_lettersStanding wsX3_lettersStanding) := goodIn_app (dg_c 11 rfl rfl (dg_c 12 rfl rfl (dg_c 13 rfl rfl (dg_c 9 rfl rfl dg_0)))) ggX3_readWord_X3_lettersStanding
set_option maxRecDepth 20000 in
theorem ggX3_readWord_J0_length_8abf5 : GoodIn wsX3_readWord wsJ0_length_8abf5 := (dg_c 19 rfl rfl (dg_c 20 rfl rfl (dg_c 21 rfl rfl (dg_c 22 rfl rfl (dg_c 23 rfl rfl (dg_c 18 rfl rfl (dg_c 24 rfl rfl (dg_c 25 rfl rfl (dg_c 26 rfl rfl dg_0)))))))))
set_option maxRecDepth 20000 in
theorem gX3_readWord_J0_length_8abf5 : GoodIn wsX3_readWord (wsV RX3 90 RJ0 yJ0_length_8abf5 wsJ0_length_8abf5) := goodIn_app (dg_c 15 rfl rfl (dg_c 16 rfl rfl (dg_c 17 rfl rfl (dg_c 18 rfl rfl dg_0)))) ggX3_readWord_J0_length_8abf5
set_option maxRecDepth 20000 in
theorem ggX3_readWord_X3_takeWord : GoodIn wsX3_readWord wsX3_takeWord := (dg_c 73 rfl rfl (dg_c 74 rfl rfl (dg_c 5 rfl rfl (dg_c 6 rfl rfl gl_X3_readWord_X30))))
set_option maxRecDepth 20000 in
theorem gX3_readWord_X3_takeWord : GoodIn wsX3_readWord (wsV RX3 95 RX3 yX3_takeWord wsX3_takeWord) := goodIn_app (dg_c 70 rfl rfl (dg_c 71 rfl rfl (dg_c 72 rfl rfl (dg_c 9 rfl rfl dg_0)))) ggX3_readWord_X3_takeWord
theorem dX3_readWord_0 : decode cX3_readWord 0 = .ok (.iconst 0, 1) := dq_3 dp_cX3_readWord rfl
theorem dX3_readWord_1 : decode cX3_readWord 1 = .ok (.istore_n 1, 1) := dq_60 dp_cX3_readWord rfl
theorem dX3_readWord_2 : decode cX3_readWord 2 = .ok (.iconst 0, 1) := dq_3 dp_cX3_readWord rfl
theorem dX3_readWord_3 : decode cX3_readWord 3 = .ok (.istore_n 2, 1) := dq_61 dp_cX3_readWord rfl
theorem dX3_readWord_4 : decode cX3_readWord 4 = .ok (.iload_n 2, 1) := dq_28 dp_cX3_readWord rfl
theorem dX3_readWord_5 : decode cX3_readWord 5 = .ok (.bipush 10, 2) := dq_16 (v := 10) dp_cX3_readWord rfl rfl
theorem dX3_readWord_7 : decode cX3_readWord 7 = .ok (.if_icmp .ge 45, 3) := dq_162 (v := 45) dp_cX3_readWord rfl rfl
theorem dX3_readWord_10 : decode cX3_readWord 10 = .ok (.iload_n 2, 1) := dq_28 dp_cX3_readWord rfl
theorem dX3_readWord_11 : decode cX3_readWord 11 = .ok (.invokestatic 82, 3) := dq_184 dp_cX3_readWord rfl
theorem dX3_readWord_14 : decode cX3_readWord 14 = .ok (.astore_n 3, 1) := dq_78 dp_cX3_readWord rfl
theorem dX3_readWord_15 : decode cX3_readWord 15 = .ok (.aload_n 0, 1) := dq_42 dp_cX3_readWord rfl
theorem dX3_readWord_16 : decode cX3_readWord 16 = .ok (.aload_n 3, 1) := dq_45 dp_cX3_readWord rfl
theorem dX3_readWord_17 : decode cX3_readWord 17 = .ok (.invokevirtual 86, 3) := dq_182 dp_cX3_readWord rfl
theorem dX3_readWord_20 : decode cX3_readWord 20 = .ok (.istore 4, 2) := dq_54 dp_cX3_readWord rfl
theorem dX3_readWord_22 : decode cX3_readWord 22 = .ok (.iload 4, 2) := dq_21 dp_cX3_readWord rfl
theorem dX3_readWord_24 : decode cX3_readWord 24 = .ok (.aload_n 3, 1) := dq_45 dp_cX3_readWord rfl
theorem dX3_readWord_25 : decode cX3_readWord 25 = .ok (.invokevirtual 90, 3) := dq_182 dp_cX3_readWord rfl
theorem dX3_readWord_28 : decode cX3_readWord 28 = .ok (.if_icmp .ne 11, 3) := dq_160 (v := 11) dp_cX3_readWord rfl rfl
theorem dX3_readWord_31 : decode cX3_readWord 31 = .ok (.aload_n 0, 1) := dq_42 dp_cX3_readWord rfl
theorem dX3_readWord_32 : decode cX3_readWord 32 = .ok (.iload_n 2, 1) := dq_28 dp_cX3_readWord rfl
theorem dX3_readWord_33 : decode cX3_readWord 33 = .ok (.iload 4, 2) := dq_21 dp_cX3_readWord rfl
theorem dX3_readWord_35 : decode cX3_readWord 35 = .ok (.invokevirtual 95, 3) := dq_182 dp_cX3_readWord rfl
theorem dX3_readWord_38 : decode cX3_readWord 38 = .ok (.ireturn, 1) := dq_172 dp_cX3_readWord rfl
theorem dX3_readWord_39 : decode cX3_readWord 39 = .ok (.iload_n 1, 1) := dq_27 dp_cX3_readWord rfl
theorem dX3_readWord_40 : decode cX3_readWord 40 = .ok (.iload 4, 2) := dq_21 dp_cX3_readWord rfl
theorem dX3_readWord_42 : decode cX3_readWord 42 = .ok (.invokestatic 98, 3) := dq_184 dp_cX3_readWord rfl
theorem dX3_readWord_45 : decode cX3_readWord 45 = .ok (.istore_n 1, 1) := dq_60 dp_cX3_readWord rfl
theorem dX3_readWord_46 : decode cX3_readWord 46 = .ok (.iinc 2 1, 3) := dq_132 (v := 1) dp_cX3_readWord rfl (by decide) rfl
theorem dX3_readWord_49 : decode cX3_readWord 49 = .ok (.goto (-45), 3) := dq_167 (v := 65491) dp_cX3_readWord rfl rfl
theorem dX3_readWord_52 : decode cX3_readWord 52 = .ok (.aload_n 0, 1) := dq_42 dp_cX3_readWord rfl
theorem dX3_readWord_53 : decode cX3_readWord 53 = .ok (.aload_n 0, 1) := dq_42 dp_cX3_readWord rfl
theorem dX3_readWord_54 : decode cX3_readWord 54 = .ok (.getfield 25, 3) := dq_180 dp_cX3_readWord rfl
theorem dX3_readWord_57 : decode cX3_readWord 57 = .ok (.iload_n 1, 1) := dq_27 dp_cX3_readWord rfl
theorem dX3_readWord_58 : decode cX3_readWord 58 = .ok (.iadd, 1) := dq_96 dp_cX3_readWord rfl
theorem dX3_readWord_59 : decode cX3_readWord 59 = .ok (.putfield 28, 3) := dq_181 dp_cX3_readWord rfl
theorem dX3_readWord_62 : decode cX3_readWord 62 = .ok (.iconst (-1), 1) := dq_2 dp_cX3_readWord rfl
theorem dX3_readWord_63 : decode cX3_readWord 63 = .ok (.ireturn, 1) := dq_172 dp_cX3_readWord rfl
theorem dX3_takeWord_0 : decode cX3_takeWord 0 = .ok (.iload_n 1, 1) := dq_27 dp_cX3_takeWord rfl
theorem dX3_takeWord_1 : decode cX3_takeWord 1 = .ok (.iconst 3, 1) := dq_6 dp_cX3_takeWord rfl
theorem dX3_takeWord_2 : decode cX3_takeWord 2 = .ok (.if_icmp .ne 22, 3) := dq_160 (v := 22) dp_cX3_takeWord rfl rfl
theorem dX3_takeWord_5 : decode cX3_takeWord 5 = .ok (.aload_n 0, 1) := dq_42 dp_cX3_takeWord rfl
theorem dX3_takeWord_6 : decode cX3_takeWord 6 = .ok (.getfield 34, 3) := dq_180 dp_cX3_takeWord rfl
theorem dX3_takeWord_9 : decode cX3_takeWord 9 = .ok (.bipush 8, 2) := dq_16 (v := 8) dp_cX3_takeWord rfl rfl
theorem dX3_takeWord_11 : decode cX3_takeWord 11 = .ok (.if_icmp .lt 13, 3) := dq_161 (v := 13) dp_cX3_takeWord rfl rfl
theorem dX3_takeWord_14 : decode cX3_takeWord 14 = .ok (.aload_n 0, 1) := dq_42 dp_cX3_takeWord rfl
theorem dX3_takeWord_15 : decode cX3_takeWord 15 = .ok (.aload_n 0, 1) := dq_42 dp_cX3_takeWord rfl
theorem dX3_takeWord_16 : decode cX3_takeWord 16 = .ok (.getfield 25, 3) := dq_180 dp_cX3_takeWord rfl
theorem dX3_takeWord_19 : decode cX3_takeWord 19 = .ok (.putfield 28, 3) := dq_181 dp_cX3_takeWord rfl
theorem dX3_takeWord_22 : decode cX3_takeWord 22 = .ok (.iconst (-1), 1) := dq_2 dp_cX3_takeWord rfl
theorem dX3_takeWord_23 : decode cX3_takeWord 23 = .ok (.ireturn, 1) := dq_172 dp_cX3_takeWord rfl
theorem dX3_takeWord_24 : decode cX3_takeWord 24 = .ok (.aload_n 0, 1) := dq_42 dp_cX3_takeWord rfl
theorem dX3_takeWord_25 : decode cX3_takeWord 25 = .ok (.dup, 1) := dq_89 dp_cX3_takeWord rfl
theorem dX3_takeWord_26 : decode cX3_takeWord 26 = .ok (.getfield 25, 3) := dq_180 dp_cX3_takeWord rfl
theorem dX3_takeWord_29 : decode cX3_takeWord 29 = .ok (.iload_n 2, 1) := dq_28 dp_cX3_takeWord rfl
theorem dX3_takeWord_30 : decode cX3_takeWord 30 = .ok (.iadd, 1) := dq_96 dp_cX3_takeWord rfl
theorem dX3_takeWord_31 : decode cX3_takeWord 31 = .ok (.putfield 25, 3) := dq_181 dp_cX3_takeWord rfl
theorem dX3_takeWord_34 : decode cX3_takeWord 34 = .ok (.iload_n 1, 1) := dq_27 dp_cX3_takeWord rfl
theorem dX3_takeWord_35 : decode cX3_takeWord 35 = .ok (.ireturn, 1) := dq_172 dp_cX3_takeWord rfl
set_option maxRecDepth 20000 in
theorem ggX3_lettersStanding_J0_length_8abf5 : GoodIn wsX3_lettersStanding wsJ0_length_8abf5 := (dg_c 6 rfl rfl (dg_c 7 rfl rfl (dg_c 8 rfl rfl (dg_c 9 rfl rfl (dg_c 10 rfl rfl (dg_c 5 rfl rfl (dg_c 11 rfl rfl (dg_c 12 rfl rfl (dg_c 13 rfl rfl dg_0)))))))))
set_option maxRecDepth 20000 in
theorem gX3_lettersStanding_J0_length_8abf5 : GoodIn wsX3_lettersStanding (wsV RX3 90 RJ0 yJ0_length_8abf5 wsJ0_length_8abf5) := goodIn_app (dg_c 2 rfl rfl (dg_c 3 rfl rfl (dg_c 4 rfl rfl (dg_c 5 rfl rfl dg_0)))) ggX3_lettersStanding_J0_length_8abf5
set_option maxRecDepth 20000 in
theorem ggX3_lettersStanding_J0_charAt_5068e : GoodIn wsX3_lettersStanding wsJ0_charAt_5068e := (dg_c 17 rfl rfl (goodIn_app (dg_c 7 rfl rfl (dg_c 18 rfl rfl (dg_c 19 rfl rfl (dg_c 20 rfl rfl (dg_c 5 rfl rfl (dg_c 21 rfl rfl (dg_c 12 rfl rfl (dg_c 13 rfl rfl (dg_c 22 rfl rfl (dg_c 23 rfl rfl (dg_c 24 rfl rfl (dg_c 25 rfl rfl (dg_c 26 rfl rfl (dg_c 27 rfl rfl (dg_c 28 rfl rfl (dg_c 29 rfl rfl (dg_c 30 rfl rfl (dg_c 31 rfl rfl (dg_c 32 rfl rfl (dg_c 33 rfl rfl (dg_c 34 rfl rfl (dg_c 35 rfl rfl (dg_c 36 rfl rfl (dg_c 37 rfl rfl dg_0)))))))))))))))))))))))) (dg_c 38 rfl rfl (dg_c 39 rfl rfl (dg_c 40 rfl rfl (dg_c 41 rfl rfl (dg_c 42 rfl rfl (dg_c 43 rfl rfl (dg_c 44 rfl rfl (dg_c 45 rfl rfl (dg_c 46 rfl rfl (dg_c 47 rfl rfl (dg_c 48 rfl rfl (dg_c 49 rfl rfl (dg_c 50 rfl rfl dg_0)))))))))))))))
set_option maxRecDepth 20000 in
theorem gX3_lettersStanding_J0_charAt_5068e : GoodIn wsX3_lettersStanding (wsV RX3 101 RJ0 yJ0_charAt_5068e wsJ0_charAt_5068e) := goodIn_app (dg_c 14 rfl rfl (dg_c 15 rfl rfl (dg_c 16 rfl rfl (dg_c 5 rfl rfl dg_0)))) ggX3_lettersStanding_J0_charAt_5068e
set_option maxRecDepth 20000 in
theorem gl_X3_lettersStanding_X30 : GoodIn wsX3_lettersStanding wsX30 := (dg_t (dg_r gw_wsX30))
theorem ggX3_lettersStanding_X3_stands : GoodIn wsX3_lettersStanding wsX3_stands := (dg_c 55 rfl rfl (dg_c 56 rfl rfl (dg_c 57 rfl rfl gl_X3_lettersStanding_X30)))
set_option maxRecDepth 20000 in
theorem gX3_lettersStanding_X3_stands : GoodIn wsX3_lettersStanding (wsV RX3 78 RX3 yX3_stands wsX3_stands) := goodIn_app (dg_c 51 rfl rfl (dg_c 52 rfl rfl (dg_c 53 rfl rfl (dg_c 54 rfl rfl dg_0)))) ggX3_lettersStanding_X3_stands
theorem dX3_lettersStanding_0 : decode cX3_lettersStanding 0 = .ok (.iconst 0, 1) := dq_3 dp_cX3_lettersStanding rfl
theorem dX3_lettersStanding_1 : decode cX3_lettersStanding 1 = .ok (.istore_n 2, 1) := dq_61 dp_cX3_lettersStanding rfl
theorem dX3_lettersStanding_2 : decode cX3_lettersStanding 2 = .ok (.iload_n 2, 1) := dq_28 dp_cX3_lettersStanding rfl
theorem dX3_lettersStanding_3 : decode cX3_lettersStanding 3 = .ok (.aload_n 1, 1) := dq_43 dp_cX3_lettersStanding rfl
theorem dX3_lettersStanding_4 : decode cX3_lettersStanding 4 = .ok (.invokevirtual 90, 3) := dq_182 dp_cX3_lettersStanding rfl
theorem dX3_lettersStanding_7 : decode cX3_lettersStanding 7 = .ok (.if_icmp .ge 27, 3) := dq_162 (v := 27) dp_cX3_lettersStanding rfl rfl
theorem dX3_lettersStanding_10 : decode cX3_lettersStanding 10 = .ok (.aload_n 0, 1) := dq_42 dp_cX3_lettersStanding rfl
theorem dX3_lettersStanding_11 : decode cX3_lettersStanding 11 = .ok (.aload_n 0, 1) := dq_42 dp_cX3_lettersStanding rfl
theorem dX3_lettersStanding_12 : decode cX3_lettersStanding 12 = .ok (.getfield 25, 3) := dq_180 dp_cX3_lettersStanding rfl
theorem dX3_lettersStanding_15 : decode cX3_lettersStanding 15 = .ok (.iload_n 2, 1) := dq_28 dp_cX3_lettersStanding rfl
theorem dX3_lettersStanding_16 : decode cX3_lettersStanding 16 = .ok (.iadd, 1) := dq_96 dp_cX3_lettersStanding rfl
theorem dX3_lettersStanding_17 : decode cX3_lettersStanding 17 = .ok (.aload_n 1, 1) := dq_43 dp_cX3_lettersStanding rfl
theorem dX3_lettersStanding_18 : decode cX3_lettersStanding 18 = .ok (.iload_n 2, 1) := dq_28 dp_cX3_lettersStanding rfl
theorem dX3_lettersStanding_19 : decode cX3_lettersStanding 19 = .ok (.invokevirtual 101, 3) := dq_182 dp_cX3_lettersStanding rfl
theorem dX3_lettersStanding_22 : decode cX3_lettersStanding 22 = .ok (.invokevirtual 78, 3) := dq_182 dp_cX3_lettersStanding rfl
theorem dX3_lettersStanding_25 : decode cX3_lettersStanding 25 = .ok (.ifCond .eq 9, 3) := dq_153 (v := 9) dp_cX3_lettersStanding rfl rfl
theorem dX3_lettersStanding_28 : decode cX3_lettersStanding 28 = .ok (.iinc 2 1, 3) := dq_132 (v := 1) dp_cX3_lettersStanding rfl (by decide) rfl
theorem dX3_lettersStanding_31 : decode cX3_lettersStanding 31 = .ok (.goto (-29), 3) := dq_167 (v := 65507) dp_cX3_lettersStanding rfl rfl
theorem dX3_lettersStanding_34 : decode cX3_lettersStanding 34 = .ok (.iload_n 2, 1) := dq_28 dp_cX3_lettersStanding rfl
theorem dX3_lettersStanding_35 : decode cX3_lettersStanding 35 = .ok (.ireturn, 1) := dq_172 dp_cX3_lettersStanding rfl
set_option maxRecDepth 20000 in
theorem ggX3_readNumber_X3_isDigit : GoodIn wsX3_readNumber wsX3_isDigit := (dg_c 8 rfl rfl dg_0)
set_option maxRecDepth 20000 in
theorem gX3_readNumber_X3_isDigit : GoodIn wsX3_readNumber (va_wsS RX3 105 yX3_isDigit wsX3_isDigit) := goodIn_app (dg_c 5 rfl rfl (dg_c 6 rfl rfl (dg_c 7 rfl rfl dg_0))) ggX3_readNumber_X3_isDigit
set_option maxRecDepth 20000 in
theorem ggX3_readNumber_X7_within : GoodIn wsX3_readNumber wsX7_within := (dg_c 11 rfl rfl dg_0)
set_option maxRecDepth 20000 in
theorem gX3_readNumber_X7_within_n109 : GoodIn wsX3_readNumber (wsX7_within) := ggX3_readNumber_X7_within
theorem dX3_readNumber_0 : decode cX3_readNumber 0 = .ok (.aload_n 0, 1) := dq_42 dp_cX3_readNumber rfl
theorem dX3_readNumber_1 : decode cX3_readNumber 1 = .ok (.getfield 25, 3) := dq_180 dp_cX3_readNumber rfl
theorem dX3_readNumber_4 : decode cX3_readNumber 4 = .ok (.istore_n 3, 1) := dq_62 dp_cX3_readNumber rfl
theorem dX3_readNumber_5 : decode cX3_readNumber 5 = .ok (.iconst 0, 1) := dq_3 dp_cX3_readNumber rfl
theorem dX3_readNumber_6 : decode cX3_readNumber 6 = .ok (.istore 4, 2) := dq_54 dp_cX3_readNumber rfl
theorem dX3_readNumber_8 : decode cX3_readNumber 8 = .ok (.aload_n 0, 1) := dq_42 dp_cX3_readNumber rfl
theorem dX3_readNumber_9 : decode cX3_readNumber 9 = .ok (.getfield 25, 3) := dq_180 dp_cX3_readNumber rfl
theorem dX3_readNumber_12 : decode cX3_readNumber 12 = .ok (.aload_n 0, 1) := dq_42 dp_cX3_readNumber rfl
theorem dX3_readNumber_13 : decode cX3_readNumber 13 = .ok (.getfield 18, 3) := dq_180 dp_cX3_readNumber rfl
theorem dX3_readNumber_16 : decode cX3_readNumber 16 = .ok (.if_icmp .ge 61, 3) := dq_162 (v := 61) dp_cX3_readNumber rfl rfl
theorem dX3_readNumber_19 : decode cX3_readNumber 19 = .ok (.aload_n 0, 1) := dq_42 dp_cX3_readNumber rfl
theorem dX3_readNumber_20 : decode cX3_readNumber 20 = .ok (.getfield 25, 3) := dq_180 dp_cX3_readNumber rfl
theorem dX3_readNumber_23 : decode cX3_readNumber 23 = .ok (.iload_n 3, 1) := dq_29 dp_cX3_readNumber rfl
theorem dX3_readNumber_24 : decode cX3_readNumber 24 = .ok (.iconst 3, 1) := dq_6 dp_cX3_readNumber rfl
theorem dX3_readNumber_25 : decode cX3_readNumber 25 = .ok (.iadd, 1) := dq_96 dp_cX3_readNumber rfl
theorem dX3_readNumber_26 : decode cX3_readNumber 26 = .ok (.if_icmp .ge 51, 3) := dq_162 (v := 51) dp_cX3_readNumber rfl rfl
theorem dX3_readNumber_29 : decode cX3_readNumber 29 = .ok (.aload_n 0, 1) := dq_42 dp_cX3_readNumber rfl
theorem dX3_readNumber_30 : decode cX3_readNumber 30 = .ok (.getfield 15, 3) := dq_180 dp_cX3_readNumber rfl
theorem dX3_readNumber_33 : decode cX3_readNumber 33 = .ok (.aload_n 0, 1) := dq_42 dp_cX3_readNumber rfl
theorem dX3_readNumber_34 : decode cX3_readNumber 34 = .ok (.getfield 25, 3) := dq_180 dp_cX3_readNumber rfl
theorem dX3_readNumber_37 : decode cX3_readNumber 37 = .ok (.iaload, 1) := dq_46 dp_cX3_readNumber rfl
theorem dX3_readNumber_38 : decode cX3_readNumber 38 = .ok (.invokestatic 105, 3) := dq_184 dp_cX3_readNumber rfl
theorem dX3_readNumber_41 : decode cX3_readNumber 41 = .ok (.ifCond .eq 36, 3) := dq_153 (v := 36) dp_cX3_readNumber rfl rfl
theorem dX3_readNumber_44 : decode cX3_readNumber 44 = .ok (.iload 4, 2) := dq_21 dp_cX3_readNumber rfl
theorem dX3_readNumber_46 : decode cX3_readNumber 46 = .ok (.bipush 10, 2) := dq_16 (v := 10) dp_cX3_readNumber rfl rfl
theorem dX3_readNumber_48 : decode cX3_readNumber 48 = .ok (.imul, 1) := dq_104 dp_cX3_readNumber rfl
theorem dX3_readNumber_49 : decode cX3_readNumber 49 = .ok (.aload_n 0, 1) := dq_42 dp_cX3_readNumber rfl
theorem dX3_readNumber_50 : decode cX3_readNumber 50 = .ok (.getfield 15, 3) := dq_180 dp_cX3_readNumber rfl
theorem dX3_readNumber_53 : decode cX3_readNumber 53 = .ok (.aload_n 0, 1) := dq_42 dp_cX3_readNumber rfl
theorem dX3_readNumber_54 : decode cX3_readNumber 54 = .ok (.getfield 25, 3) := dq_180 dp_cX3_readNumber rfl
theorem dX3_readNumber_57 : decode cX3_readNumber 57 = .ok (.iaload, 1) := dq_46 dp_cX3_readNumber rfl
theorem dX3_readNumber_58 : decode cX3_readNumber 58 = .ok (.iadd, 1) := dq_96 dp_cX3_readNumber rfl
theorem dX3_readNumber_59 : decode cX3_readNumber 59 = .ok (.bipush 48, 2) := dq_16 (v := 48) dp_cX3_readNumber rfl rfl
theorem dX3_readNumber_61 : decode cX3_readNumber 61 = .ok (.isub, 1) := dq_100 dp_cX3_readNumber rfl
theorem dX3_readNumber_62 : decode cX3_readNumber 62 = .ok (.istore 4, 2) := dq_54 dp_cX3_readNumber rfl
theorem dX3_readNumber_64 : decode cX3_readNumber 64 = .ok (.aload_n 0, 1) := dq_42 dp_cX3_readNumber rfl
theorem dX3_readNumber_65 : decode cX3_readNumber 65 = .ok (.dup, 1) := dq_89 dp_cX3_readNumber rfl
theorem dX3_readNumber_66 : decode cX3_readNumber 66 = .ok (.getfield 25, 3) := dq_180 dp_cX3_readNumber rfl
theorem dX3_readNumber_69 : decode cX3_readNumber 69 = .ok (.iconst 1, 1) := dq_4 dp_cX3_readNumber rfl
theorem dX3_readNumber_70 : decode cX3_readNumber 70 = .ok (.iadd, 1) := dq_96 dp_cX3_readNumber rfl
theorem dX3_readNumber_71 : decode cX3_readNumber 71 = .ok (.putfield 25, 3) := dq_181 dp_cX3_readNumber rfl
theorem dX3_readNumber_74 : decode cX3_readNumber 74 = .ok (.goto (-66), 3) := dq_167 (v := 65470) dp_cX3_readNumber rfl rfl
theorem dX3_readNumber_77 : decode cX3_readNumber 77 = .ok (.aload_n 0, 1) := dq_42 dp_cX3_readNumber rfl
theorem dX3_readNumber_78 : decode cX3_readNumber 78 = .ok (.getfield 25, 3) := dq_180 dp_cX3_readNumber rfl
theorem dX3_readNumber_81 : decode cX3_readNumber 81 = .ok (.iload_n 3, 1) := dq_29 dp_cX3_readNumber rfl
theorem dX3_readNumber_82 : decode cX3_readNumber 82 = .ok (.if_icmp .eq 13, 3) := dq_159 (v := 13) dp_cX3_readNumber rfl rfl
theorem dX3_readNumber_85 : decode cX3_readNumber 85 = .ok (.iload 4, 2) := dq_21 dp_cX3_readNumber rfl
theorem dX3_readNumber_87 : decode cX3_readNumber 87 = .ok (.iload_n 1, 1) := dq_27 dp_cX3_readNumber rfl
theorem dX3_readNumber_88 : decode cX3_readNumber 88 = .ok (.iload_n 2, 1) := dq_28 dp_cX3_readNumber rfl
theorem dX3_readNumber_89 : decode cX3_readNumber 89 = .ok (.invokestatic 109, 3) := dq_184 dp_cX3_readNumber rfl
theorem dX3_readNumber_92 : decode cX3_readNumber 92 = .ok (.ifCond .ne 8, 3) := dq_154 (v := 8) dp_cX3_readNumber rfl rfl
theorem dX3_readNumber_95 : decode cX3_readNumber 95 = .ok (.aload_n 0, 1) := dq_42 dp_cX3_readNumber rfl
theorem dX3_readNumber_96 : decode cX3_readNumber 96 = .ok (.iload_n 3, 1) := dq_29 dp_cX3_readNumber rfl
theorem dX3_readNumber_97 : decode cX3_readNumber 97 = .ok (.putfield 28, 3) := dq_181 dp_cX3_readNumber rfl
theorem dX3_readNumber_100 : decode cX3_readNumber 100 = .ok (.iload 4, 2) := dq_21 dp_cX3_readNumber rfl
theorem dX3_readNumber_102 : decode cX3_readNumber 102 = .ok (.ireturn, 1) := dq_172 dp_cX3_readNumber rfl
theorem dX3_isDigit_0 : decode cX3_isDigit 0 = .ok (.iload_n 0, 1) := dq_26 dp_cX3_isDigit rfl
theorem dX3_isDigit_1 : decode cX3_isDigit 1 = .ok (.bipush 48, 2) := dq_16 (v := 48) dp_cX3_isDigit rfl rfl
theorem dX3_isDigit_3 : decode cX3_isDigit 3 = .ok (.if_icmp .lt 13, 3) := dq_161 (v := 13) dp_cX3_isDigit rfl rfl
theorem dX3_isDigit_6 : decode cX3_isDigit 6 = .ok (.iload_n 0, 1) := dq_26 dp_cX3_isDigit rfl
theorem dX3_isDigit_7 : decode cX3_isDigit 7 = .ok (.bipush 57, 2) := dq_16 (v := 57) dp_cX3_isDigit rfl rfl
theorem dX3_isDigit_9 : decode cX3_isDigit 9 = .ok (.if_icmp .gt 7, 3) := dq_163 (v := 7) dp_cX3_isDigit rfl rfl
theorem dX3_isDigit_12 : decode cX3_isDigit 12 = .ok (.iconst 1, 1) := dq_4 dp_cX3_isDigit rfl
theorem dX3_isDigit_13 : decode cX3_isDigit 13 = .ok (.goto 4, 3) := dq_167 (v := 4) dp_cX3_isDigit rfl rfl
theorem dX3_isDigit_16 : decode cX3_isDigit 16 = .ok (.iconst 0, 1) := dq_3 dp_cX3_isDigit rfl
theorem dX3_isDigit_17 : decode cX3_isDigit 17 = .ok (.ireturn, 1) := dq_172 dp_cX3_isDigit rfl
theorem dX3_wordAt_0 : decode cX3_wordAt 0 = .ok (.iload_n 0, 1) := dq_26 dp_cX3_wordAt rfl
theorem dX3_wordAt_1 : decode cX3_wordAt 1 = .ok (.tableswitch 78 0 8 #[51, 54, 57, 60, 63, 66, 69, 72, 75], 51) := by decide +kernel
theorem dX3_wordAt_52 : decode cX3_wordAt 52 = .ok (.ldc 113, 2) := dq_18 dp_cX3_wordAt rfl
theorem dX3_wordAt_54 : decode cX3_wordAt 54 = .ok (.areturn, 1) := dq_176 dp_cX3_wordAt rfl
theorem dX3_wordAt_55 : decode cX3_wordAt 55 = .ok (.ldc 114, 2) := dq_18 dp_cX3_wordAt rfl
theorem dX3_wordAt_57 : decode cX3_wordAt 57 = .ok (.areturn, 1) := dq_176 dp_cX3_wordAt rfl
theorem dX3_wordAt_58 : decode cX3_wordAt 58 = .ok (.ldc 116, 2) := dq_18 dp_cX3_wordAt rfl
theorem dX3_wordAt_60 : decode cX3_wordAt 60 = .ok (.areturn, 1) := dq_176 dp_cX3_wordAt rfl
theorem dX3_wordAt_61 : decode cX3_wordAt 61 = .ok (.ldc 118, 2) := dq_18 dp_cX3_wordAt rfl
theorem dX3_wordAt_63 : decode cX3_wordAt 63 = .ok (.areturn, 1) := dq_176 dp_cX3_wordAt rfl
theorem dX3_wordAt_64 : decode cX3_wordAt 64 = .ok (.ldc 120, 2) := dq_18 dp_cX3_wordAt rfl
theorem dX3_wordAt_66 : decode cX3_wordAt 66 = .ok (.areturn, 1) := dq_176 dp_cX3_wordAt rfl
theorem dX3_wordAt_67 : decode cX3_wordAt 67 = .ok (.ldc 122, 2) := dq_18 dp_cX3_wordAt rfl
theorem dX3_wordAt_69 : decode cX3_wordAt 69 = .ok (.areturn, 1) := dq_176 dp_cX3_wordAt rfl
theorem dX3_wordAt_70 : decode cX3_wordAt 70 = .ok (.ldc 124, 2) := dq_18 dp_cX3_wordAt rfl
theorem dX3_wordAt_72 : decode cX3_wordAt 72 = .ok (.areturn, 1) := dq_176 dp_cX3_wordAt rfl
theorem dX3_wordAt_73 : decode cX3_wordAt 73 = .ok (.ldc 126, 2) := dq_18 dp_cX3_wordAt rfl
theorem dX3_wordAt_75 : decode cX3_wordAt 75 = .ok (.areturn, 1) := dq_176 dp_cX3_wordAt rfl
theorem dX3_wordAt_76 : decode cX3_wordAt 76 = .ok (.ldc 128, 2) := dq_18 dp_cX3_wordAt rfl
theorem dX3_wordAt_78 : decode cX3_wordAt 78 = .ok (.areturn, 1) := dq_176 dp_cX3_wordAt rfl
theorem dX3_wordAt_79 : decode cX3_wordAt 79 = .ok (.ldc 130, 2) := dq_18 dp_cX3_wordAt rfl
theorem dX3_wordAt_81 : decode cX3_wordAt 81 = .ok (.areturn, 1) := dq_176 dp_cX3_wordAt rfl
theorem dX3_numbersOf_0 : decode cX3_numbersOf 0 = .ok (.iload_n 0, 1) := dq_26 dp_cX3_numbersOf rfl
theorem dX3_numbersOf_1 : decode cX3_numbersOf 1 = .ok (.lookupswitch 39 #[(2, 37), (3, 35), (8, 37)], 35) := by decide +kernel
theorem dX3_numbersOf_36 : decode cX3_numbersOf 36 = .ok (.iconst 3, 1) := dq_6 dp_cX3_numbersOf rfl
theorem dX3_numbersOf_37 : decode cX3_numbersOf 37 = .ok (.ireturn, 1) := dq_172 dp_cX3_numbersOf rfl
theorem dX3_numbersOf_38 : decode cX3_numbersOf 38 = .ok (.iconst 2, 1) := dq_5 dp_cX3_numbersOf rfl
theorem dX3_numbersOf_39 : decode cX3_numbersOf 39 = .ok (.ireturn, 1) := dq_172 dp_cX3_numbersOf rfl
theorem dX3_numbersOf_40 : decode cX3_numbersOf 40 = .ok (.iconst 1, 1) := dq_4 dp_cX3_numbersOf rfl
theorem dX3_numbersOf_41 : decode cX3_numbersOf 41 = .ok (.ireturn, 1) := dq_172 dp_cX3_numbersOf rfl
theorem dX3_leastOf_0 : decode cX3_leastOf 0 = .ok (.iload_n 0, 1) := dq_26 dp_cX3_leastOf rfl
theorem dX3_leastOf_1 : decode cX3_leastOf 1 = .ok (.ifCond .ne 5, 3) := dq_154 (v := 5) dp_cX3_leastOf rfl rfl
theorem dX3_leastOf_4 : decode cX3_leastOf 4 = .ok (.iconst 4, 1) := dq_7 dp_cX3_leastOf rfl
theorem dX3_leastOf_5 : decode cX3_leastOf 5 = .ok (.ireturn, 1) := dq_172 dp_cX3_leastOf rfl
theorem dX3_leastOf_6 : decode cX3_leastOf 6 = .ok (.iload_n 0, 1) := dq_26 dp_cX3_leastOf rfl
theorem dX3_leastOf_7 : decode cX3_leastOf 7 = .ok (.bipush 7, 2) := dq_16 (v := 7) dp_cX3_leastOf rfl rfl
theorem dX3_leastOf_9 : decode cX3_leastOf 9 = .ok (.if_icmp .eq 13, 3) := dq_159 (v := 13) dp_cX3_leastOf rfl rfl
theorem dX3_leastOf_12 : decode cX3_leastOf 12 = .ok (.iload_n 0, 1) := dq_26 dp_cX3_leastOf rfl
theorem dX3_leastOf_13 : decode cX3_leastOf 13 = .ok (.iconst 3, 1) := dq_6 dp_cX3_leastOf rfl
theorem dX3_leastOf_14 : decode cX3_leastOf 14 = .ok (.if_icmp .ne 12, 3) := dq_160 (v := 12) dp_cX3_leastOf rfl rfl
theorem dX3_leastOf_17 : decode cX3_leastOf 17 = .ok (.iload_n 1, 1) := dq_27 dp_cX3_leastOf rfl
theorem dX3_leastOf_18 : decode cX3_leastOf 18 = .ok (.iconst 2, 1) := dq_5 dp_cX3_leastOf rfl
theorem dX3_leastOf_19 : decode cX3_leastOf 19 = .ok (.if_icmp .ne 7, 3) := dq_160 (v := 7) dp_cX3_leastOf rfl rfl
theorem dX3_leastOf_22 : decode cX3_leastOf 22 = .ok (.iconst 1, 1) := dq_4 dp_cX3_leastOf rfl
theorem dX3_leastOf_23 : decode cX3_leastOf 23 = .ok (.goto 4, 3) := dq_167 (v := 4) dp_cX3_leastOf rfl rfl
theorem dX3_leastOf_26 : decode cX3_leastOf 26 = .ok (.iconst 0, 1) := dq_3 dp_cX3_leastOf rfl
theorem dX3_leastOf_27 : decode cX3_leastOf 27 = .ok (.ireturn, 1) := dq_172 dp_cX3_leastOf rfl
theorem dX3_mostOf_0 : decode cX3_mostOf 0 = .ok (.iload_n 1, 1) := dq_27 dp_cX3_mostOf rfl
theorem dX3_mostOf_1 : decode cX3_mostOf 1 = .ok (.tableswitch 123 0 8 #[51, 54, 61, 77, 99, 102, 106, 109, 112], 51) := by decide +kernel
theorem dX3_mostOf_52 : decode cX3_mostOf 52 = .ok (.bipush 40, 2) := dq_16 (v := 40) dp_cX3_mostOf rfl rfl
theorem dX3_mostOf_54 : decode cX3_mostOf 54 = .ok (.ireturn, 1) := dq_172 dp_cX3_mostOf rfl
theorem dX3_mostOf_55 : decode cX3_mostOf 55 = .ok (.aload_n 0, 1) := dq_42 dp_cX3_mostOf rfl
theorem dX3_mostOf_56 : decode cX3_mostOf 56 = .ok (.getfield 31, 3) := dq_180 dp_cX3_mostOf rfl
theorem dX3_mostOf_59 : decode cX3_mostOf 59 = .ok (.iconst 1, 1) := dq_4 dp_cX3_mostOf rfl
theorem dX3_mostOf_60 : decode cX3_mostOf 60 = .ok (.isub, 1) := dq_100 dp_cX3_mostOf rfl
theorem dX3_mostOf_61 : decode cX3_mostOf 61 = .ok (.ireturn, 1) := dq_172 dp_cX3_mostOf rfl
theorem dX3_mostOf_62 : decode cX3_mostOf 62 = .ok (.iload_n 2, 1) := dq_28 dp_cX3_mostOf rfl
theorem dX3_mostOf_63 : decode cX3_mostOf 63 = .ok (.ifCond .ne 12, 3) := dq_154 (v := 12) dp_cX3_mostOf rfl rfl
theorem dX3_mostOf_66 : decode cX3_mostOf 66 = .ok (.aload_n 0, 1) := dq_42 dp_cX3_mostOf rfl
theorem dX3_mostOf_67 : decode cX3_mostOf 67 = .ok (.getfield 31, 3) := dq_180 dp_cX3_mostOf rfl
theorem dX3_mostOf_70 : decode cX3_mostOf 70 = .ok (.iconst 1, 1) := dq_4 dp_cX3_mostOf rfl
theorem dX3_mostOf_71 : decode cX3_mostOf 71 = .ok (.isub, 1) := dq_100 dp_cX3_mostOf rfl
theorem dX3_mostOf_72 : decode cX3_mostOf 72 = .ok (.goto 5, 3) := dq_167 (v := 5) dp_cX3_mostOf rfl rfl
theorem dX3_mostOf_75 : decode cX3_mostOf 75 = .ok (.bipush 9, 2) := dq_16 (v := 9) dp_cX3_mostOf rfl rfl
theorem dX3_mostOf_77 : decode cX3_mostOf 77 = .ok (.ireturn, 1) := dq_172 dp_cX3_mostOf rfl
theorem dX3_mostOf_78 : decode cX3_mostOf 78 = .ok (.iload_n 2, 1) := dq_28 dp_cX3_mostOf rfl
theorem dX3_mostOf_79 : decode cX3_mostOf 79 = .ok (.ifCond .ne 8, 3) := dq_154 (v := 8) dp_cX3_mostOf rfl rfl
theorem dX3_mostOf_82 : decode cX3_mostOf 82 = .ok (.bipush 6, 2) := dq_16 (v := 6) dp_cX3_mostOf rfl rfl
theorem dX3_mostOf_84 : decode cX3_mostOf 84 = .ok (.goto 15, 3) := dq_167 (v := 15) dp_cX3_mostOf rfl rfl
theorem dX3_mostOf_87 : decode cX3_mostOf 87 = .ok (.iload_n 2, 1) := dq_28 dp_cX3_mostOf rfl
theorem dX3_mostOf_88 : decode cX3_mostOf 88 = .ok (.iconst 1, 1) := dq_4 dp_cX3_mostOf rfl
theorem dX3_mostOf_89 : decode cX3_mostOf 89 = .ok (.if_icmp .ne 8, 3) := dq_160 (v := 8) dp_cX3_mostOf rfl rfl
theorem dX3_mostOf_92 : decode cX3_mostOf 92 = .ok (.bipush 9, 2) := dq_16 (v := 9) dp_cX3_mostOf rfl rfl
theorem dX3_mostOf_94 : decode cX3_mostOf 94 = .ok (.goto 5, 3) := dq_167 (v := 5) dp_cX3_mostOf rfl rfl
theorem dX3_mostOf_97 : decode cX3_mostOf 97 = .ok (.bipush 60, 2) := dq_16 (v := 60) dp_cX3_mostOf rfl rfl
theorem dX3_mostOf_99 : decode cX3_mostOf 99 = .ok (.ireturn, 1) := dq_172 dp_cX3_mostOf rfl
theorem dX3_mostOf_100 : decode cX3_mostOf 100 = .ok (.bipush 24, 2) := dq_16 (v := 24) dp_cX3_mostOf rfl rfl
theorem dX3_mostOf_102 : decode cX3_mostOf 102 = .ok (.ireturn, 1) := dq_172 dp_cX3_mostOf rfl
theorem dX3_mostOf_103 : decode cX3_mostOf 103 = .ok (.sipush 300, 3) := dq_17 (v := 300) dp_cX3_mostOf rfl rfl
theorem dX3_mostOf_106 : decode cX3_mostOf 106 = .ok (.ireturn, 1) := dq_172 dp_cX3_mostOf rfl
theorem dX3_mostOf_107 : decode cX3_mostOf 107 = .ok (.bipush 9, 2) := dq_16 (v := 9) dp_cX3_mostOf rfl rfl
theorem dX3_mostOf_109 : decode cX3_mostOf 109 = .ok (.ireturn, 1) := dq_172 dp_cX3_mostOf rfl
theorem dX3_mostOf_110 : decode cX3_mostOf 110 = .ok (.bipush 9, 2) := dq_16 (v := 9) dp_cX3_mostOf rfl rfl
theorem dX3_mostOf_112 : decode cX3_mostOf 112 = .ok (.ireturn, 1) := dq_172 dp_cX3_mostOf rfl
theorem dX3_mostOf_113 : decode cX3_mostOf 113 = .ok (.iload_n 2, 1) := dq_28 dp_cX3_mostOf rfl
theorem dX3_mostOf_114 : decode cX3_mostOf 114 = .ok (.ifCond .ne 7, 3) := dq_154 (v := 7) dp_cX3_mostOf rfl rfl
theorem dX3_mostOf_117 : decode cX3_mostOf 117 = .ok (.iconst 2, 1) := dq_5 dp_cX3_mostOf rfl
theorem dX3_mostOf_118 : decode cX3_mostOf 118 = .ok (.goto 5, 3) := dq_167 (v := 5) dp_cX3_mostOf rfl rfl
theorem dX3_mostOf_121 : decode cX3_mostOf 121 = .ok (.bipush 99, 2) := dq_16 (v := 99) dp_cX3_mostOf rfl rfl
theorem dX3_mostOf_123 : decode cX3_mostOf 123 = .ok (.ireturn, 1) := dq_172 dp_cX3_mostOf rfl
theorem dX3_mostOf_124 : decode cX3_mostOf 124 = .ok (.aload_n 0, 1) := dq_42 dp_cX3_mostOf rfl
theorem dX3_mostOf_125 : decode cX3_mostOf 125 = .ok (.getfield 31, 3) := dq_180 dp_cX3_mostOf rfl
theorem dX3_mostOf_128 : decode cX3_mostOf 128 = .ok (.ireturn, 1) := dq_172 dp_cX3_mostOf rfl
set_option maxRecDepth 20000 in
theorem gl_X3_tell_X30 : GoodIn wsX3_tell wsX30 := (dg_t (dg_l (dg_l (dg_l (dg_r gw_wsX30)))))
theorem gl_X3_tell_X00 : GoodIn wsX3_tell wsX00 := (dg_t (dg_l (dg_l (dg_r gw_wsX00))))
theorem gl_X3_tell_X60 : GoodIn wsX3_tell wsX60 := (dg_t (dg_l (dg_r gw_wsX60)))
theorem gl_X3_tell_X20 : GoodIn wsX3_tell wsX20 := (dg_t (dg_r gw_wsX20))
theorem ggX3_tell_X3_tellItem : GoodIn wsX3_tell wsX3_tellItem := (dg_c 6 rfl rfl (goodIn_app (goodIn_app (goodIn_app (goodIn_app (goodIn_app (dg_c 7 rfl rfl (dg_c 8 rfl rfl (dg_c 9 rfl rfl (dg_c 10 rfl rfl (dg_c 11 rfl rfl (dg_c 12 rfl rfl (dg_c 13 rfl rfl (dg_c 14 rfl rfl (dg_c 15 rfl rfl (dg_c 16 rfl rfl (dg_c 17 rfl rfl (dg_c 18 rfl rfl (dg_c 19 rfl rfl (dg_c 20 rfl rfl (dg_c 21 rfl rfl (dg_c 22 rfl rfl (dg_c 23 rfl rfl (dg_c 24 rfl rfl (dg_c 25 rfl rfl (dg_c 26 rfl rfl (dg_c 27 rfl rfl (dg_c 28 rfl rfl (dg_c 29 rfl rfl (dg_c 30 rfl rfl dg_0)))))))))))))))))))))))) (dg_c 31 rfl rfl (dg_c 32 rfl rfl (dg_c 33 rfl rfl (dg_c 34 rfl rfl (dg_c 35 rfl rfl (dg_c 36 rfl rfl (dg_c 37 rfl rfl (dg_c 38 rfl rfl (dg_c 39 rfl rfl (dg_c 40 rfl rfl (dg_c 41 rfl rfl (dg_c 42 rfl rfl (dg_c 43 rfl rfl (dg_c 44 rfl rfl (dg_c 45 rfl rfl (dg_c 46 rfl rfl (dg_c 47 rfl rfl (dg_c 48 rfl rfl (dg_c 49 rfl rfl (dg_c 50 rfl rfl (dg_c 51 rfl rfl (dg_c 52 rfl rfl (dg_c 53 rfl rfl (dg_c 54 rfl rfl dg_0))))))))))))))))))))))))) gl_X3_tell_X30) gl_X3_tell_X00) gl_X3_tell_X60) gl_X3_tell_X20))
set_option maxRecDepth 20000 in
theorem gX3_tell_X3_tellItem : GoodIn wsX3_tell (wsV RX3 132 RX3 yX3_tellItem wsX3_tellItem) := goodIn_app (dg_c 2 rfl rfl (dg_c 3 rfl rfl (dg_c 4 rfl rfl (dg_c 5 rfl rfl dg_0)))) ggX3_tell_X3_tellItem
theorem dX3_tell_0 : decode cX3_tell 0 = .ok (.iconst 0, 1) := dq_3 dp_cX3_tell rfl
theorem dX3_tell_1 : decode cX3_tell 1 = .ok (.istore_n 2, 1) := dq_61 dp_cX3_tell rfl
theorem dX3_tell_2 : decode cX3_tell 2 = .ok (.iload_n 2, 1) := dq_28 dp_cX3_tell rfl
theorem dX3_tell_3 : decode cX3_tell 3 = .ok (.aload_n 0, 1) := dq_42 dp_cX3_tell rfl
theorem dX3_tell_4 : decode cX3_tell 4 = .ok (.getfield 22, 3) := dq_180 dp_cX3_tell rfl
theorem dX3_tell_7 : decode cX3_tell 7 = .ok (.if_icmp .ge 17, 3) := dq_162 (v := 17) dp_cX3_tell rfl rfl
theorem dX3_tell_10 : decode cX3_tell 10 = .ok (.aload_n 0, 1) := dq_42 dp_cX3_tell rfl
theorem dX3_tell_11 : decode cX3_tell 11 = .ok (.aload_n 1, 1) := dq_43 dp_cX3_tell rfl
theorem dX3_tell_12 : decode cX3_tell 12 = .ok (.iload_n 2, 1) := dq_28 dp_cX3_tell rfl
theorem dX3_tell_13 : decode cX3_tell 13 = .ok (.iconst 4, 1) := dq_7 dp_cX3_tell rfl
theorem dX3_tell_14 : decode cX3_tell 14 = .ok (.imul, 1) := dq_104 dp_cX3_tell rfl
theorem dX3_tell_15 : decode cX3_tell 15 = .ok (.invokevirtual 132, 3) := dq_182 dp_cX3_tell rfl
theorem dX3_tell_18 : decode cX3_tell 18 = .ok (.iinc 2 1, 3) := dq_132 (v := 1) dp_cX3_tell rfl (by decide) rfl
theorem dX3_tell_21 : decode cX3_tell 21 = .ok (.goto (-19), 3) := dq_167 (v := 65517) dp_cX3_tell rfl rfl
theorem dX3_tell_24 : decode cX3_tell 24 = .ok (.return_, 1) := dq_177 dp_cX3_tell rfl
set_option maxRecDepth 20000 in
theorem gl_X3_tellItem_X60 : GoodIn wsX3_tellItem wsX60 := (dg_t (dg_l (dg_r gw_wsX60)))
theorem ggX3_tellItem_X6_renew : GoodIn wsX3_tellItem wsX6_renew := (dg_c 11 rfl rfl (dg_c 12 rfl rfl (dg_c 13 rfl rfl (dg_c 14 rfl rfl (dg_c 15 rfl rfl gl_X3_tellItem_X60)))))
set_option maxRecDepth 20000 in
theorem gX3_tellItem_X6_renew : GoodIn wsX3_tellItem (wsV RX3 142 RX6 yX6_renew wsX6_renew) := goodIn_app (dg_c 7 rfl rfl (dg_c 8 rfl rfl (dg_c 9 rfl rfl (dg_c 10 rfl rfl dg_0)))) ggX3_tellItem_X6_renew
set_option maxRecDepth 20000 in
theorem gl_X3_tellItem_X00 : GoodIn wsX3_tellItem wsX00 := (dg_t (dg_l (dg_l (dg_r gw_wsX00))))
theorem gl_X3_tellItem_X20 : GoodIn wsX3_tellItem wsX20 := (dg_t (dg_r gw_wsX20))
theorem ggX3_tellItem_X0_addPull : GoodIn wsX3_tellItem wsX0_addPull := (dg_c 20 rfl rfl (dg_c 21 rfl rfl (dg_c 22 rfl rfl (dg_c 23 rfl rfl (dg_c 24 rfl rfl (dg_c 25 rfl rfl (dg_c 26 rfl rfl (dg_c 27 rfl rfl (dg_c 28 rfl rfl (dg_c 29 rfl rfl (dg_c 30 rfl rfl (dg_c 31 rfl rfl (dg_c 32 rfl rfl (dg_c 33 rfl rfl (dg_c 34 rfl rfl (goodIn_app gl_X3_tellItem_X00 gl_X3_tellItem_X20))))))))))))))))
set_option maxRecDepth 20000 in
theorem gX3_tellItem_X0_addPull : GoodIn wsX3_tellItem (wsV RX3 154 RX0 yX0_addPull wsX0_addPull) := goodIn_app (dg_c 16 rfl rfl (dg_c 17 rfl rfl (dg_c 18 rfl rfl (dg_c 19 rfl rfl dg_0)))) ggX3_tellItem_X0_addPull
set_option maxRecDepth 20000 in
theorem ggX3_tellItem_X0_setNumber : GoodIn wsX3_tellItem wsX0_setNumber := (dg_c 38 rfl rfl (dg_c 39 rfl rfl (dg_c 40 rfl rfl (dg_c 41 rfl rfl (dg_c 42 rfl rfl (dg_c 43 rfl rfl (dg_c 44 rfl rfl (dg_c 45 rfl rfl (dg_c 46 rfl rfl (dg_c 47 rfl rfl (dg_c 48 rfl rfl (goodIn_app gl_X3_tellItem_X00 gl_X3_tellItem_X60))))))))))))
set_option maxRecDepth 20000 in
theorem gX3_tellItem_X0_setNumber : GoodIn wsX3_tellItem (wsV RX3 163 RX0 yX0_setNumber wsX0_setNumber) := goodIn_app (dg_c 35 rfl rfl (dg_c 36 rfl rfl (dg_c 37 rfl rfl (dg_c 19 rfl rfl dg_0)))) ggX3_tellItem_X0_setNumber
theorem dX3_tellItem_0 : decode cX3_tellItem 0 = .ok (.aload_n 0, 1) := dq_42 dp_cX3_tellItem rfl
theorem dX3_tellItem_1 : decode cX3_tellItem 1 = .ok (.getfield 11, 3) := dq_180 dp_cX3_tellItem rfl
theorem dX3_tellItem_4 : decode cX3_tellItem 4 = .ok (.iload_n 2, 1) := dq_28 dp_cX3_tellItem rfl
theorem dX3_tellItem_5 : decode cX3_tellItem 5 = .ok (.iconst 1, 1) := dq_4 dp_cX3_tellItem rfl
theorem dX3_tellItem_6 : decode cX3_tellItem 6 = .ok (.iadd, 1) := dq_96 dp_cX3_tellItem rfl
theorem dX3_tellItem_7 : decode cX3_tellItem 7 = .ok (.iaload, 1) := dq_46 dp_cX3_tellItem rfl
theorem dX3_tellItem_8 : decode cX3_tellItem 8 = .ok (.istore_n 3, 1) := dq_62 dp_cX3_tellItem rfl
theorem dX3_tellItem_9 : decode cX3_tellItem 9 = .ok (.aload_n 0, 1) := dq_42 dp_cX3_tellItem rfl
theorem dX3_tellItem_10 : decode cX3_tellItem 10 = .ok (.getfield 11, 3) := dq_180 dp_cX3_tellItem rfl
theorem dX3_tellItem_13 : decode cX3_tellItem 13 = .ok (.iload_n 2, 1) := dq_28 dp_cX3_tellItem rfl
theorem dX3_tellItem_14 : decode cX3_tellItem 14 = .ok (.iconst 2, 1) := dq_5 dp_cX3_tellItem rfl
theorem dX3_tellItem_15 : decode cX3_tellItem 15 = .ok (.iadd, 1) := dq_96 dp_cX3_tellItem rfl
theorem dX3_tellItem_16 : decode cX3_tellItem 16 = .ok (.iaload, 1) := dq_46 dp_cX3_tellItem rfl
theorem dX3_tellItem_17 : decode cX3_tellItem 17 = .ok (.istore 4, 2) := dq_54 dp_cX3_tellItem rfl
theorem dX3_tellItem_19 : decode cX3_tellItem 19 = .ok (.aload_n 0, 1) := dq_42 dp_cX3_tellItem rfl
theorem dX3_tellItem_20 : decode cX3_tellItem 20 = .ok (.getfield 11, 3) := dq_180 dp_cX3_tellItem rfl
theorem dX3_tellItem_23 : decode cX3_tellItem 23 = .ok (.iload_n 2, 1) := dq_28 dp_cX3_tellItem rfl
theorem dX3_tellItem_24 : decode cX3_tellItem 24 = .ok (.iaload, 1) := dq_46 dp_cX3_tellItem rfl
theorem dX3_tellItem_25 : decode cX3_tellItem 25 = .ok (.tableswitch 134 0 9 #[55, 66, 79, 93, 134, 134, 134, 134, 112, 123], 55) := by decide +kernel
theorem dX3_tellItem_80 : decode cX3_tellItem 80 = .ok (.aload_n 1, 1) := dq_43 dp_cX3_tellItem rfl
theorem dX3_tellItem_81 : decode cX3_tellItem 81 = .ok (.getfield 136, 3) := dq_180 dp_cX3_tellItem rfl
theorem dX3_tellItem_84 : decode cX3_tellItem 84 = .ok (.iload_n 3, 1) := dq_29 dp_cX3_tellItem rfl
theorem dX3_tellItem_85 : decode cX3_tellItem 85 = .ok (.invokevirtual 142, 3) := dq_182 dp_cX3_tellItem rfl
theorem dX3_tellItem_88 : decode cX3_tellItem 88 = .ok (.goto 84, 3) := dq_167 (v := 84) dp_cX3_tellItem rfl rfl
theorem dX3_tellItem_91 : decode cX3_tellItem 91 = .ok (.aload_n 1, 1) := dq_43 dp_cX3_tellItem rfl
theorem dX3_tellItem_92 : decode cX3_tellItem 92 = .ok (.getfield 136, 3) := dq_180 dp_cX3_tellItem rfl
theorem dX3_tellItem_95 : decode cX3_tellItem 95 = .ok (.getfield 147, 3) := dq_180 dp_cX3_tellItem rfl
theorem dX3_tellItem_98 : decode cX3_tellItem 98 = .ok (.iload_n 3, 1) := dq_29 dp_cX3_tellItem rfl
theorem dX3_tellItem_99 : decode cX3_tellItem 99 = .ok (.iconst 1, 1) := dq_4 dp_cX3_tellItem rfl
theorem dX3_tellItem_100 : decode cX3_tellItem 100 = .ok (.bastore, 1) := dq_84 dp_cX3_tellItem rfl
theorem dX3_tellItem_101 : decode cX3_tellItem 101 = .ok (.goto 71, 3) := dq_167 (v := 71) dp_cX3_tellItem rfl rfl
theorem dX3_tellItem_104 : decode cX3_tellItem 104 = .ok (.aload_n 1, 1) := dq_43 dp_cX3_tellItem rfl
theorem dX3_tellItem_105 : decode cX3_tellItem 105 = .ok (.getfield 136, 3) := dq_180 dp_cX3_tellItem rfl
theorem dX3_tellItem_108 : decode cX3_tellItem 108 = .ok (.getfield 151, 3) := dq_180 dp_cX3_tellItem rfl
theorem dX3_tellItem_111 : decode cX3_tellItem 111 = .ok (.iload_n 3, 1) := dq_29 dp_cX3_tellItem rfl
theorem dX3_tellItem_112 : decode cX3_tellItem 112 = .ok (.iload 4, 2) := dq_21 dp_cX3_tellItem rfl
theorem dX3_tellItem_114 : decode cX3_tellItem 114 = .ok (.iastore, 1) := dq_79 dp_cX3_tellItem rfl
theorem dX3_tellItem_115 : decode cX3_tellItem 115 = .ok (.goto 57, 3) := dq_167 (v := 57) dp_cX3_tellItem rfl rfl
theorem dX3_tellItem_118 : decode cX3_tellItem 118 = .ok (.aload_n 1, 1) := dq_43 dp_cX3_tellItem rfl
theorem dX3_tellItem_119 : decode cX3_tellItem 119 = .ok (.iload_n 3, 1) := dq_29 dp_cX3_tellItem rfl
theorem dX3_tellItem_120 : decode cX3_tellItem 120 = .ok (.iload 4, 2) := dq_21 dp_cX3_tellItem rfl
theorem dX3_tellItem_122 : decode cX3_tellItem 122 = .ok (.aload_n 0, 1) := dq_42 dp_cX3_tellItem rfl
theorem dX3_tellItem_123 : decode cX3_tellItem 123 = .ok (.getfield 11, 3) := dq_180 dp_cX3_tellItem rfl
theorem dX3_tellItem_126 : decode cX3_tellItem 126 = .ok (.iload_n 2, 1) := dq_28 dp_cX3_tellItem rfl
theorem dX3_tellItem_127 : decode cX3_tellItem 127 = .ok (.iconst 3, 1) := dq_6 dp_cX3_tellItem rfl
theorem dX3_tellItem_128 : decode cX3_tellItem 128 = .ok (.iadd, 1) := dq_96 dp_cX3_tellItem rfl
theorem dX3_tellItem_129 : decode cX3_tellItem 129 = .ok (.iaload, 1) := dq_46 dp_cX3_tellItem rfl
theorem dX3_tellItem_130 : decode cX3_tellItem 130 = .ok (.invokevirtual 154, 3) := dq_182 dp_cX3_tellItem rfl
theorem dX3_tellItem_133 : decode cX3_tellItem 133 = .ok (.pop, 1) := dq_87 dp_cX3_tellItem rfl
theorem dX3_tellItem_134 : decode cX3_tellItem 134 = .ok (.goto 38, 3) := dq_167 (v := 38) dp_cX3_tellItem rfl rfl
theorem dX3_tellItem_137 : decode cX3_tellItem 137 = .ok (.aload_n 1, 1) := dq_43 dp_cX3_tellItem rfl
theorem dX3_tellItem_138 : decode cX3_tellItem 138 = .ok (.getfield 158, 3) := dq_180 dp_cX3_tellItem rfl
theorem dX3_tellItem_141 : decode cX3_tellItem 141 = .ok (.iload_n 3, 1) := dq_29 dp_cX3_tellItem rfl
theorem dX3_tellItem_142 : decode cX3_tellItem 142 = .ok (.iload 4, 2) := dq_21 dp_cX3_tellItem rfl
theorem dX3_tellItem_144 : decode cX3_tellItem 144 = .ok (.iastore, 1) := dq_79 dp_cX3_tellItem rfl
theorem dX3_tellItem_145 : decode cX3_tellItem 145 = .ok (.goto 27, 3) := dq_167 (v := 27) dp_cX3_tellItem rfl rfl
theorem dX3_tellItem_148 : decode cX3_tellItem 148 = .ok (.aload_n 1, 1) := dq_43 dp_cX3_tellItem rfl
theorem dX3_tellItem_149 : decode cX3_tellItem 149 = .ok (.getfield 136, 3) := dq_180 dp_cX3_tellItem rfl
theorem dX3_tellItem_152 : decode cX3_tellItem 152 = .ok (.iload_n 3, 1) := dq_29 dp_cX3_tellItem rfl
theorem dX3_tellItem_153 : decode cX3_tellItem 153 = .ok (.putfield 161, 3) := dq_181 dp_cX3_tellItem rfl
theorem dX3_tellItem_156 : decode cX3_tellItem 156 = .ok (.goto 16, 3) := dq_167 (v := 16) dp_cX3_tellItem rfl rfl
theorem dX3_tellItem_159 : decode cX3_tellItem 159 = .ok (.aload_n 1, 1) := dq_43 dp_cX3_tellItem rfl
theorem dX3_tellItem_160 : decode cX3_tellItem 160 = .ok (.aload_n 0, 1) := dq_42 dp_cX3_tellItem rfl
theorem dX3_tellItem_161 : decode cX3_tellItem 161 = .ok (.getfield 11, 3) := dq_180 dp_cX3_tellItem rfl
theorem dX3_tellItem_164 : decode cX3_tellItem 164 = .ok (.iload_n 2, 1) := dq_28 dp_cX3_tellItem rfl
theorem dX3_tellItem_165 : decode cX3_tellItem 165 = .ok (.iaload, 1) := dq_46 dp_cX3_tellItem rfl
theorem dX3_tellItem_166 : decode cX3_tellItem 166 = .ok (.iconst 4, 1) := dq_7 dp_cX3_tellItem rfl
theorem dX3_tellItem_167 : decode cX3_tellItem 167 = .ok (.isub, 1) := dq_100 dp_cX3_tellItem rfl
theorem dX3_tellItem_168 : decode cX3_tellItem 168 = .ok (.iload_n 3, 1) := dq_29 dp_cX3_tellItem rfl
theorem dX3_tellItem_169 : decode cX3_tellItem 169 = .ok (.invokevirtual 163, 3) := dq_182 dp_cX3_tellItem rfl
theorem dX3_tellItem_172 : decode cX3_tellItem 172 = .ok (.return_, 1) := dq_177 dp_cX3_tellItem rfl
set_option maxRecDepth 20000 in
theorem ggJ0_length_8abf5_J0_coder_7d493 : GoodIn wsJ0_length_8abf5 wsJ0_coder_7d493 := (dg_c 6 rfl rfl (dg_c 7 rfl rfl (dg_c 8 rfl rfl dg_0)))
set_option maxRecDepth 20000 in
theorem gJ0_length_8abf5_J0_coder_7d493 : GoodIn wsJ0_length_8abf5 (wsV RJ0 335 RJ0 yJ0_coder_7d493 wsJ0_coder_7d493) := goodIn_app (dg_c 2 rfl rfl (dg_c 3 rfl rfl (dg_c 4 rfl rfl (dg_c 5 rfl rfl dg_0)))) ggJ0_length_8abf5_J0_coder_7d493
theorem dJ0_length_8abf5_0 : decode cJ0_length_8abf5 0 = .ok (.aload_n 0, 1) := dq_42 dp_cJ0_length_8abf5 rfl
theorem dJ0_length_8abf5_1 : decode cJ0_length_8abf5 1 = .ok (.getfield 9, 3) := dq_180 dp_cJ0_length_8abf5 rfl
theorem dJ0_length_8abf5_4 : decode cJ0_length_8abf5 4 = .ok (.arraylength, 1) := dq_190 dp_cJ0_length_8abf5 rfl
theorem dJ0_length_8abf5_5 : decode cJ0_length_8abf5 5 = .ok (.aload_n 0, 1) := dq_42 dp_cJ0_length_8abf5 rfl
theorem dJ0_length_8abf5_6 : decode cJ0_length_8abf5 6 = .ok (.invokevirtual 335, 3) := dq_182 dp_cJ0_length_8abf5 rfl
theorem dJ0_length_8abf5_9 : decode cJ0_length_8abf5 9 = .ok (.ishr, 1) := dq_122 dp_cJ0_length_8abf5 rfl
theorem dJ0_length_8abf5_10 : decode cJ0_length_8abf5 10 = .ok (.ireturn, 1) := dq_172 dp_cJ0_length_8abf5 rfl
set_option maxRecDepth 20000 in
theorem ggJ0_charAt_5068e_J0_isLatin1_aae02 : GoodIn wsJ0_charAt_5068e wsJ0_isLatin1_aae02 := (dg_c 6 rfl rfl (dg_c 7 rfl rfl (dg_c 8 rfl rfl dg_0)))
set_option maxRecDepth 20000 in
theorem gJ0_charAt_5068e_J0_isLatin1_aae02 : GoodIn wsJ0_charAt_5068e (wsV RJ0 492 RJ0 yJ0_isLatin1_aae02 wsJ0_isLatin1_aae02) := goodIn_app (dg_c 2 rfl rfl (dg_c 3 rfl rfl (dg_c 4 rfl rfl (dg_c 5 rfl rfl dg_0)))) ggJ0_charAt_5068e_J0_isLatin1_aae02
set_option maxRecDepth 20000 in
theorem ggJ0_charAt_5068e_J1_charAt_3b067 : GoodIn wsJ0_charAt_5068e wsJ1_charAt_3b067 := (dg_c 12 rfl rfl (dg_c 13 rfl rfl (dg_c 14 rfl rfl (dg_c 5 rfl rfl (dg_c 15 rfl rfl (dg_c 16 rfl rfl (dg_c 17 rfl rfl (dg_c 18 rfl rfl (dg_c 19 rfl rfl (dg_c 20 rfl rfl dg_0))))))))))
set_option maxRecDepth 20000 in
theorem gJ0_charAt_5068e_J1_charAt_3b067 : GoodIn wsJ0_charAt_5068e (va_wsS RJ0 495 yJ1_charAt_3b067 wsJ1_charAt_3b067) := goodIn_app (dg_c 9 rfl rfl (dg_c 10 rfl rfl (dg_c 11 rfl rfl dg_0))) ggJ0_charAt_5068e_J1_charAt_3b067
theorem dJ0_charAt_5068e_0 : decode cJ0_charAt_5068e 0 = .ok (.aload_n 0, 1) := dq_42 dp_cJ0_charAt_5068e rfl
theorem dJ0_charAt_5068e_1 : decode cJ0_charAt_5068e 1 = .ok (.invokevirtual 492, 3) := dq_182 dp_cJ0_charAt_5068e rfl
theorem dJ0_charAt_5068e_4 : decode cJ0_charAt_5068e 4 = .ok (.ifCond .eq 12, 3) := dq_153 (v := 12) dp_cJ0_charAt_5068e rfl rfl
theorem dJ0_charAt_5068e_7 : decode cJ0_charAt_5068e 7 = .ok (.aload_n 0, 1) := dq_42 dp_cJ0_charAt_5068e rfl
theorem dJ0_charAt_5068e_8 : decode cJ0_charAt_5068e 8 = .ok (.getfield 9, 3) := dq_180 dp_cJ0_charAt_5068e rfl
theorem dJ0_charAt_5068e_11 : decode cJ0_charAt_5068e 11 = .ok (.iload_n 1, 1) := dq_27 dp_cJ0_charAt_5068e rfl
theorem dJ0_charAt_5068e_12 : decode cJ0_charAt_5068e 12 = .ok (.invokestatic 495, 3) := dq_184 dp_cJ0_charAt_5068e rfl
theorem dJ0_charAt_5068e_15 : decode cJ0_charAt_5068e 15 = .ok (.ireturn, 1) := dq_172 dp_cJ0_charAt_5068e rfl
theorem dJ0_coder_7d493_0 : decode cJ0_coder_7d493 0 = .ok (.getstatic 38, 3) := dq_178 dp_cJ0_coder_7d493 rfl
theorem dJ0_coder_7d493_3 : decode cJ0_coder_7d493 3 = .ok (.ifCond .eq 10, 3) := dq_153 (v := 10) dp_cJ0_coder_7d493 rfl rfl
theorem dJ0_coder_7d493_6 : decode cJ0_coder_7d493 6 = .ok (.aload_n 0, 1) := dq_42 dp_cJ0_coder_7d493 rfl
theorem dJ0_coder_7d493_7 : decode cJ0_coder_7d493 7 = .ok (.getfield 15, 3) := dq_180 dp_cJ0_coder_7d493 rfl
theorem dJ0_coder_7d493_10 : decode cJ0_coder_7d493 10 = .ok (.goto 4, 3) := dq_167 (v := 4) dp_cJ0_coder_7d493 rfl rfl
theorem dJ0_coder_7d493_14 : decode cJ0_coder_7d493 14 = .ok (.ireturn, 1) := dq_172 dp_cJ0_coder_7d493 rfl
theorem dJ0_isLatin1_aae02_0 : decode cJ0_isLatin1_aae02 0 = .ok (.getstatic 38, 3) := dq_178 dp_cJ0_isLatin1_aae02 rfl
theorem dJ0_isLatin1_aae02_3 : decode cJ0_isLatin1_aae02 3 = .ok (.ifCond .eq 14, 3) := dq_153 (v := 14) dp_cJ0_isLatin1_aae02 rfl rfl
theorem dJ0_isLatin1_aae02_6 : decode cJ0_isLatin1_aae02 6 = .ok (.aload_n 0, 1) := dq_42 dp_cJ0_isLatin1_aae02 rfl
theorem dJ0_isLatin1_aae02_7 : decode cJ0_isLatin1_aae02 7 = .ok (.getfield 15, 3) := dq_180 dp_cJ0_isLatin1_aae02 rfl
theorem dJ0_isLatin1_aae02_10 : decode cJ0_isLatin1_aae02 10 = .ok (.ifCond .ne 7, 3) := dq_154 (v := 7) dp_cJ0_isLatin1_aae02 rfl rfl
theorem dJ0_isLatin1_aae02_13 : decode cJ0_isLatin1_aae02 13 = .ok (.iconst 1, 1) := dq_4 dp_cJ0_isLatin1_aae02 rfl
theorem dJ0_isLatin1_aae02_14 : decode cJ0_isLatin1_aae02 14 = .ok (.goto 4, 3) := dq_167 (v := 4) dp_cJ0_isLatin1_aae02 rfl rfl
theorem dJ0_isLatin1_aae02_18 : decode cJ0_isLatin1_aae02 18 = .ok (.ireturn, 1) := dq_172 dp_cJ0_isLatin1_aae02 rfl
set_option maxRecDepth 20000 in
theorem ggJ0_checkIndex_df160_J3_checkIndex_8e157 : GoodIn wsJ0_checkIndex_df160 wsJ3_checkIndex_8e157 := (dg_c 5 rfl rfl dg_0)
set_option maxRecDepth 20000 in
theorem gJ0_checkIndex_df160_J3_checkIndex_8e157 : GoodIn wsJ0_checkIndex_df160 (va_wsS RJ0 1059 yJ3_checkIndex_8e157 wsJ3_checkIndex_8e157) := goodIn_app (dg_c 2 rfl rfl (dg_c 3 rfl rfl (dg_c 4 rfl rfl dg_0))) ggJ0_checkIndex_df160_J3_checkIndex_8e157
theorem dJ0_checkIndex_df160_0 : decode cJ0_checkIndex_df160 0 = .ok (.iload_n 0, 1) := dq_26 dp_cJ0_checkIndex_df160 rfl
theorem dJ0_checkIndex_df160_1 : decode cJ0_checkIndex_df160 1 = .ok (.iload_n 1, 1) := dq_27 dp_cJ0_checkIndex_df160 rfl
theorem dJ0_checkIndex_df160_2 : decode cJ0_checkIndex_df160 2 = .ok (.getstatic 1053, 3) := dq_178 dp_cJ0_checkIndex_df160 rfl
theorem dJ0_checkIndex_df160_5 : decode cJ0_checkIndex_df160 5 = .ok (.invokestatic 1059, 3) := dq_184 dp_cJ0_checkIndex_df160 rfl
theorem dJ0_checkIndex_df160_8 : decode cJ0_checkIndex_df160 8 = .ok (.pop, 1) := dq_87 dp_cJ0_checkIndex_df160 rfl
theorem dJ0_checkIndex_df160_9 : decode cJ0_checkIndex_df160 9 = .ok (.return_, 1) := dq_177 dp_cJ0_checkIndex_df160 rfl
set_option maxRecDepth 20000 in
theorem ggJ1_charAt_3b067_J0_checkIndex_df160 : GoodIn wsJ1_charAt_3b067 wsJ0_checkIndex_df160 := (dg_c 4 rfl rfl (dg_c 5 rfl rfl (dg_c 6 rfl rfl (dg_c 7 rfl rfl (dg_c 8 rfl rfl (dg_c 9 rfl rfl dg_0))))))
set_option maxRecDepth 20000 in
theorem gJ1_charAt_3b067_J0_checkIndex_df160 : GoodIn wsJ1_charAt_3b067 (va_wsS RJ1 9 yJ0_checkIndex_df160 wsJ0_checkIndex_df160) := goodIn_app (dg_c 1 rfl rfl (dg_c 2 rfl rfl (dg_c 3 rfl rfl dg_0))) ggJ1_charAt_3b067_J0_checkIndex_df160
theorem dJ1_charAt_3b067_0 : decode cJ1_charAt_3b067 0 = .ok (.iload_n 1, 1) := dq_27 dp_cJ1_charAt_3b067 rfl
theorem dJ1_charAt_3b067_1 : decode cJ1_charAt_3b067 1 = .ok (.aload_n 0, 1) := dq_42 dp_cJ1_charAt_3b067 rfl
theorem dJ1_charAt_3b067_2 : decode cJ1_charAt_3b067 2 = .ok (.arraylength, 1) := dq_190 dp_cJ1_charAt_3b067 rfl
theorem dJ1_charAt_3b067_3 : decode cJ1_charAt_3b067 3 = .ok (.invokestatic 9, 3) := dq_184 dp_cJ1_charAt_3b067 rfl
theorem dJ1_charAt_3b067_6 : decode cJ1_charAt_3b067 6 = .ok (.aload_n 0, 1) := dq_42 dp_cJ1_charAt_3b067 rfl
theorem dJ1_charAt_3b067_7 : decode cJ1_charAt_3b067 7 = .ok (.iload_n 1, 1) := dq_27 dp_cJ1_charAt_3b067 rfl
theorem dJ1_charAt_3b067_8 : decode cJ1_charAt_3b067 8 = .ok (.baload, 1) := dq_51 dp_cJ1_charAt_3b067 rfl
theorem dJ1_charAt_3b067_9 : decode cJ1_charAt_3b067 9 = .ok (.sipush 255, 3) := dq_17 (v := 255) dp_cJ1_charAt_3b067 rfl rfl
theorem dJ1_charAt_3b067_12 : decode cJ1_charAt_3b067 12 = .ok (.iand, 1) := dq_126 dp_cJ1_charAt_3b067 rfl
theorem dJ1_charAt_3b067_13 : decode cJ1_charAt_3b067 13 = .ok (.i2c, 1) := dq_146 dp_cJ1_charAt_3b067 rfl
theorem dJ1_charAt_3b067_14 : decode cJ1_charAt_3b067 14 = .ok (.ireturn, 1) := dq_172 dp_cJ1_charAt_3b067 rfl
theorem dJ3_checkIndex_8e157_0 : decode cJ3_checkIndex_8e157 0 = .ok (.iload_n 0, 1) := dq_26 dp_cJ3_checkIndex_8e157 rfl
theorem dJ3_checkIndex_8e157_1 : decode cJ3_checkIndex_8e157 1 = .ok (.ifCond .lt 8, 3) := dq_155 (v := 8) dp_cJ3_checkIndex_8e157 rfl rfl
theorem dJ3_checkIndex_8e157_4 : decode cJ3_checkIndex_8e157 4 = .ok (.iload_n 0, 1) := dq_26 dp_cJ3_checkIndex_8e157 rfl
theorem dJ3_checkIndex_8e157_5 : decode cJ3_checkIndex_8e157 5 = .ok (.iload_n 1, 1) := dq_27 dp_cJ3_checkIndex_8e157 rfl
theorem dJ3_checkIndex_8e157_6 : decode cJ3_checkIndex_8e157 6 = .ok (.if_icmp .lt 10, 3) := dq_161 (v := 10) dp_cJ3_checkIndex_8e157 rfl rfl
theorem dJ3_checkIndex_8e157_16 : decode cJ3_checkIndex_8e157 16 = .ok (.iload_n 0, 1) := dq_26 dp_cJ3_checkIndex_8e157 rfl
theorem dJ3_checkIndex_8e157_17 : decode cJ3_checkIndex_8e157 17 = .ok (.ireturn, 1) := dq_172 dp_cJ3_checkIndex_8e157 rfl
end
section
set_option maxHeartbeats 4000000 in
set_option maxRecDepth 100000 in
theorem c_S_coder (l : Launch) (D : va_G) (cI cJ cZ cP cS : ClassId) (po : zPool) (i : Nat) (hi : i < 10) : Met l yJ0_coder_7d493 wsJ0_coder_7d493 ({ frames := 0, cells := 0, slots := 0, locals := 0 }) (va_Pc [.ref (po.2.1 i)] (zR D (zKT cI cJ cZ cP cS) po [])) (vp_Si (fun r => r = 0)) 0 0 (fun _ => False) := by
  refine Met.ofW (cc := cJ0_coder_7d493) (maxL := 1) (ret := (some .byte)) (by decide) rfl ?_
  intro p e s m args below meth c s₁ B hml hv
  obtain ⟨rfl, hP, hK, hN, hZ⟩ := hv
  have hx := B.exec
  have hb := B.bytes
  have hr := B.returns
  have hts := atoms_spec (ws := wsJ0_coder_7d493) B.pre
  have hown : s.vm.findClass RJ0 = some m.cls := findClass_of_methodNamed B.named
  have hlocks := B.notSynchronized
  have hl := lv_entry ([.ref (po.2.1 i)]) (n := 1) (Nat.le_of_ble_eq_true rfl)
  rw [lg_entry_eq]
  generalize (lg_sl ([.ref (po.2.1 i)]) ++ List.replicate (1 - (lg_sl ([.ref (po.2.1 i)])).length) Slot.unset).toArray = ls at hl ⊢
  replace hl : lv_has ls 1 [(0, .ref (po.2.1 i))] := hl
  refine va_gets hx hb hZ.2.2.2.2.1 va_S.rf hown (hts (.fieldLink RJ0 38 "java/lang/String" "COMPACT_STRINGS" "Z") (List.mem_of_getElem? (i := 1) rfl)) (fun _ h9 => h9) dJ0_coder_7d493_0 ?_
  refine lv_if_eq (tgt := 13) hx hb dJ0_coder_7d493_3 (by decide) (fun c_1 => ?_) (fun c_1 => ?_)
  · exact absurd c_1 (by decide)
  · refine lv_aload_n hx hb dJ0_coder_7d493_6 rfl (lv_at hl 0 rfl) ?_
    refine vk_getf hx hb (hZ.2.2.1.1 i hi).2.1 va_S.rf hown (hts (.fieldLink RJ0 15 "java/lang/String" "coder" "B") (List.mem_of_getElem? (i := 2) rfl)) (fun _ h9 => h9) dJ0_coder_7d493_7 ?_
    refine lv_goto (tgt := 14) hx hb dJ0_coder_7d493_10 (by decide) ?_
    exact W.zret (v := 0) hx hb hr (by decide) (fun t ht hW => ⟨0, rfl, rfl, ht⟩) (fun q hq => by cases hq) dJ0_coder_7d493_14
set_option maxHeartbeats 4000000 in
set_option maxRecDepth 100000 in
theorem c_S_isLatin (l : Launch) (D : va_G) (cI cJ cZ cP cS : ClassId) (po : zPool) (i : Nat) (hi : i < 10) : Met l yJ0_isLatin1_aae02 wsJ0_isLatin1_aae02 ({ frames := 0, cells := 0, slots := 0, locals := 0 }) (va_Pc [.ref (po.2.1 i)] (zR D (zKT cI cJ cZ cP cS) po [])) (vp_Si (fun r => r = 1)) 0 0 (fun _ => False) := by
  refine Met.ofW (cc := cJ0_isLatin1_aae02) (maxL := 1) (ret := (some .boolean)) (by decide) rfl ?_
  intro p e s m args below meth c s₁ B hml hv
  obtain ⟨rfl, hP, hK, hN, hZ⟩ := hv
  have hx := B.exec
  have hb := B.bytes
  have hr := B.returns
  have hts := atoms_spec (ws := wsJ0_isLatin1_aae02) B.pre
  have hown : s.vm.findClass RJ0 = some m.cls := findClass_of_methodNamed B.named
  have hlocks := B.notSynchronized
  have hl := lv_entry ([.ref (po.2.1 i)]) (n := 1) (Nat.le_of_ble_eq_true rfl)
  rw [lg_entry_eq]
  generalize (lg_sl ([.ref (po.2.1 i)]) ++ List.replicate (1 - (lg_sl ([.ref (po.2.1 i)])).length) Slot.unset).toArray = ls at hl ⊢
  replace hl : lv_has ls 1 [(0, .ref (po.2.1 i))] := hl
  refine va_gets hx hb hZ.2.2.2.2.1 va_S.rf hown (hts (.fieldLink RJ0 38 "java/lang/String" "COMPACT_STRINGS" "Z") (List.mem_of_getElem? (i := 1) rfl)) (fun _ h9 => h9) dJ0_isLatin1_aae02_0 ?_
  refine lv_if_eq (tgt := 17) hx hb dJ0_isLatin1_aae02_3 (by decide) (fun c_1 => ?_) (fun c_1 => ?_)
  · exact absurd c_1 (by decide)
  · refine lv_aload_n hx hb dJ0_isLatin1_aae02_6 rfl (lv_at hl 0 rfl) ?_
    refine vk_getf hx hb (hZ.2.2.1.1 i hi).2.1 va_S.rf hown (hts (.fieldLink RJ0 15 "java/lang/String" "coder" "B") (List.mem_of_getElem? (i := 2) rfl)) (fun _ h9 => h9) dJ0_isLatin1_aae02_7 ?_
    refine lv_if_ne (tgt := 17) hx hb dJ0_isLatin1_aae02_10 (by decide) (fun c_2 => ?_) (fun c_2 => ?_)
    · exact absurd c_2 (by decide)
    · refine lv_iconst (v := 1) hx hb dJ0_isLatin1_aae02_13 (by decide) ?_
      refine lv_goto (tgt := 18) hx hb dJ0_isLatin1_aae02_14 (by decide) ?_
      exact W.zret (v := 1) hx hb hr (by decide) (fun t ht hW => ⟨1, rfl, rfl, ht⟩) (fun q hq => by cases hq) dJ0_isLatin1_aae02_18
set_option maxHeartbeats 4000000 in
set_option maxRecDepth 100000 in
theorem c_S_length (l : Launch) (D : va_G) (cI cJ cZ cP cS : ClassId) (po : zPool) (i : Nat) (hi : i < 10) : Met l yJ0_length_8abf5 wsJ0_length_8abf5 ({ frames := 1, cells := 0, slots := 0, locals := 20 }) (va_Pc [.ref (po.2.1 i)] (zR D (zKT cI cJ cZ cP cS) po [])) (vp_Si (fun r => 2 ≤ r.toInt ∧ r.toInt ≤ 7 ∧ (r.toInt = (zLen.getD i 0 : Nat)))) 0 0 (fun _ => False) := by
  refine Met.ofW (cc := cJ0_length_8abf5) (maxL := 1) (ret := (some .int)) (by decide) rfl ?_
  intro p e s m args below meth c s₁ B hml hv
  obtain ⟨rfl, hP, hK, hN, hZ⟩ := hv
  have hx := B.exec
  have hb := B.bytes
  have hr := B.returns
  have hts := atoms_spec (ws := wsJ0_length_8abf5) B.pre
  have hown : s.vm.findClass RJ0 = some m.cls := findClass_of_methodNamed B.named
  have hlocks := B.notSynchronized
  have hl := lv_entry ([.ref (po.2.1 i)]) (n := 1) (Nat.le_of_ble_eq_true rfl)
  rw [lg_entry_eq]
  generalize (lg_sl ([.ref (po.2.1 i)]) ++ List.replicate (1 - (lg_sl ([.ref (po.2.1 i)])).length) Slot.unset).toArray = ls at hl ⊢
  replace hl : lv_has ls 1 [(0, .ref (po.2.1 i))] := hl
  refine lv_aload_n hx hb dJ0_length_8abf5_0 rfl (lv_at hl 0 rfl) ?_
  refine vk_getf hx hb (hZ.2.2.1.1 i hi).2.2.1 va_S.rf hown (hts (.fieldLink RJ0 9 "java/lang/String" "value" "[B") (List.mem_of_getElem? (i := 1) rfl)) (fun _ h9 => h9) dJ0_length_8abf5_1 ?_
  refine va_tlen hx hb (hZ.2.2.1.1 i hi).2.2.2 va_S.rf rfl dJ0_length_8abf5_4 ?_
  refine lv_topi (fun x_1 ex_1 => ?_)
  have bx_1 : x_1.toInt = (zLen.getD i 0 : Nat) ∧ 2 ≤ x_1.toInt ∧ x_1.toInt ≤ 7 := by rw [ex_1]; exact zs_len i hi
  refine lv_aload_n hx hb dJ0_length_8abf5_5 rfl (lv_at hl 0 rfl) ?_
  refine zc_V (As := []) (rest := [.int x_1]) ⟨hx, hb, hml, hown, hts⟩ (c_S_coder l D cI cJ cZ cP cS po i hi) (cwV 0 hts gJ0_length_8abf5_J0_coder_7d493 rfl rfl rfl ⟨rfl, dh_J0_coder_7d493⟩ ⟨Nat.le_of_ble_eq_true rfl, Nat.le_of_ble_eq_true rfl⟩) hK hN hZ hP zP_nil (vk_recv hZ.2.2.1 hi va_S.rf) rfl hl.1 rfl (Nat.le_of_ble_eq_true rfl) dJ0_length_8abf5_6 ⟨Nat.le_of_ble_eq_true rfl, Nat.le_of_ble_eq_true rfl⟩ (fun r_2 hr_2 => ?_)
  obtain rfl := hr_2
  refine lv_ishr hx hb dJ0_length_8abf5_9 ?_
  refine lv_topi (fun x_3 ex_3 => ?_)
  obtain rfl : x_1 = x_3 := (ex_3.trans (zs_shr0 _)).symm
  exact W.iret (v := x_1) hx hb hr (fun t ht hW => ⟨x_1, rfl, ⟨by omega, by omega, (show (x_1 : Int32).toInt = (zLen.getD i 0 : Nat) from by first | assumption | omega)⟩, ht⟩) (fun q hq => by cases hq) dJ0_length_8abf5_10
set_option maxHeartbeats 4000000 in
set_option maxRecDepth 100000 in
theorem c_S_chk3_0 (l : Launch) (D : va_G) (cI cJ cZ cP cS : ClassId) (po : zPool) (k n : Int32) (hy0 : 0 ≤ k.toInt) (hy1 : k.toInt < n.toInt) : Met l yJ3_checkIndex_8e157 wsJ3_checkIndex_8e157 ({ frames := 0, cells := 0, slots := 0, locals := 0 }) (va_Pc [.int k, .int n, .null] (zR D (zKT cI cJ cZ cP cS) po [])) (vp_Si (fun r => r = k)) 0 0 (fun _ => False) := by
  refine Met.ofW (cc := cJ3_checkIndex_8e157) (maxL := 3) (ret := (some .int)) (by decide) rfl ?_
  intro p e s m args below meth c s₁ B hml hv
  obtain ⟨rfl, hP, hK, hN, hZ⟩ := hv
  have hx := B.exec
  have hb := B.bytes
  have hr := B.returns
  have hts := atoms_spec (ws := wsJ3_checkIndex_8e157) B.pre
  have hown : s.vm.findClass RJ3 = some m.cls := findClass_of_methodNamed B.named
  have hlocks := B.notSynchronized
  have hl := lv_entry ([.int k, .int n, .null]) (n := 3) (Nat.le_of_ble_eq_true rfl)
  rw [lg_entry_eq]
  generalize (lg_sl ([.int k, .int n, .null]) ++ List.replicate (3 - (lg_sl ([.int k, .int n, .null])).length) Slot.unset).toArray = ls at hl ⊢
  replace hl : lv_has ls 3 [(0, .int k), (1, .int n), (2, .null)] := hl
  refine lv_iload_n hx hb dJ3_checkIndex_8e157_0 rfl (lv_at hl 0 rfl) ?_
  refine lv_if_lt (tgt := 9) hx hb dJ3_checkIndex_8e157_1 (by decide) (fun c_1 => ?_) (fun c_1 => ?_)
  · exfalso; have fc_1 : k.toInt < 0 := zf_lt c_1 rfl (by decide); omega
  · have fc_1 : 0 ≤ k.toInt := zf_nlt c_1 rfl (by decide)
    refine lv_iload_n hx hb dJ3_checkIndex_8e157_4 rfl (lv_at hl 0 rfl) ?_
    refine lv_iload_n hx hb dJ3_checkIndex_8e157_5 rfl (lv_at hl 1 rfl) ?_
    refine lv_icmp_lt (tgt := 16) hx hb dJ3_checkIndex_8e157_6 (by decide) (fun c_2 => ?_) (fun c_2 => ?_)
    · have fc_2 : k.toInt < n.toInt := zf_lt c_2 rfl rfl
      refine lv_iload_n hx hb dJ3_checkIndex_8e157_16 rfl (lv_at hl 0 rfl) ?_
      exact W.iret (v := k) hx hb hr (fun t ht hW => ⟨k, rfl, rfl, ht⟩) (fun q hq => by cases hq) dJ3_checkIndex_8e157_17
    · exfalso; have fc_2 : n.toInt ≤ k.toInt := zf_nlt c_2 rfl rfl; omega
set_option maxHeartbeats 4000000 in
set_option maxRecDepth 100000 in
theorem c_S_chk3_1 (l : Launch) (D : va_G) (cI cJ cZ cP cS : ClassId) (po : zPool) (k n : Int32) (o : Nat) (hy0 : 0 ≤ k.toInt) (hy1 : k.toInt < n.toInt) : Met l yJ3_checkIndex_8e157 wsJ3_checkIndex_8e157 ({ frames := 0, cells := 0, slots := 0, locals := 0 }) (va_Pc [.int k, .int n, .ref o] (zR D (zKT cI cJ cZ cP cS) po [])) (vp_Si (fun r => r = k)) 0 0 (fun _ => False) := by
  refine Met.ofW (cc := cJ3_checkIndex_8e157) (maxL := 3) (ret := (some .int)) (by decide) rfl ?_
  intro p e s m args below meth c s₁ B hml hv
  obtain ⟨rfl, hP, hK, hN, hZ⟩ := hv
  have hx := B.exec
  have hb := B.bytes
  have hr := B.returns
  have hts := atoms_spec (ws := wsJ3_checkIndex_8e157) B.pre
  have hown : s.vm.findClass RJ3 = some m.cls := findClass_of_methodNamed B.named
  have hlocks := B.notSynchronized
  have hl := lv_entry ([.int k, .int n, .ref o]) (n := 3) (Nat.le_of_ble_eq_true rfl)
  rw [lg_entry_eq]
  generalize (lg_sl ([.int k, .int n, .ref o]) ++ List.replicate (3 - (lg_sl ([.int k, .int n, .ref o])).length) Slot.unset).toArray = ls at hl ⊢
  replace hl : lv_has ls 3 [(0, .int k), (1, .int n), (2, .ref o)] := hl
  refine lv_iload_n hx hb dJ3_checkIndex_8e157_0 rfl (lv_at hl 0 rfl) ?_
  refine lv_if_lt (tgt := 9) hx hb dJ3_checkIndex_8e157_1 (by decide) (fun c_1 => ?_) (fun c_1 => ?_)
  · exfalso; have fc_1 : k.toInt < 0 := zf_lt c_1 rfl (by decide); omega
  · have fc_1 : 0 ≤ k.toInt := zf_nlt c_1 rfl (by decide)
    refine lv_iload_n hx hb dJ3_checkIndex_8e157_4 rfl (lv_at hl 0 rfl) ?_
    refine lv_iload_n hx hb dJ3_checkIndex_8e157_5 rfl (lv_at hl 1 rfl) ?_
    refine lv_icmp_lt (tgt := 16) hx hb dJ3_checkIndex_8e157_6 (by decide) (fun c_2 => ?_) (fun c_2 => ?_)
    · have fc_2 : k.toInt < n.toInt := zf_lt c_2 rfl rfl
      refine lv_iload_n hx hb dJ3_checkIndex_8e157_16 rfl (lv_at hl 0 rfl) ?_
      exact W.iret (v := k) hx hb hr (fun t ht hW => ⟨k, rfl, rfl, ht⟩) (fun q hq => by cases hq) dJ3_checkIndex_8e157_17
    · exfalso; have fc_2 : n.toInt ≤ k.toInt := zf_nlt c_2 rfl rfl; omega
set_option maxHeartbeats 4000000 in
set_option maxRecDepth 100000 in
theorem c_S_chk (l : Launch) (D : va_G) (cI cJ cZ cP cS : ClassId) (po : zPool) (k n : Int32) (hy0 : 0 ≤ k.toInt) (hy1 : k.toInt < n.toInt) (hpz : Nat) : Met l yJ0_checkIndex_df160 wsJ0_checkIndex_df160 ({ frames := 1, cells := 0, slots := 0, locals := 22 }) (va_Pc [.int k, .int n] (zW D (zKT cI cJ cZ cP cS) po [] hpz)) (va_Qv (fun (_ : Unit) => True) (zB D [] hpz (fun (_ : Unit) => [])) (va_A [] hpz)) 0 0 (va_A [] hpz) := by
  refine Met.ofW (cc := cJ0_checkIndex_df160) (maxL := 2) (ret := none) (by decide) rfl ?_
  intro p e s m args below meth c s₁ B hml hv
  obtain ⟨rfl, hsz, hP, hK, hD0, hN, hZ⟩ := hv
  have hx := B.exec
  have hb := B.bytes
  have hr := B.returns
  have hts := atoms_spec (ws := wsJ0_checkIndex_df160) B.pre
  have hown : s.vm.findClass RJ0 = some m.cls := findClass_of_methodNamed B.named
  have hlocks := B.notSynchronized
  subst hsz
  have hD := hD0.self (sz := s.heap.size)
  have hA := zA_of hD
  have hl := lv_entry ([.int k, .int n]) (n := 2) (Nat.le_of_ble_eq_true rfl)
  rw [lg_entry_eq]
  generalize (lg_sl ([.int k, .int n]) ++ List.replicate (2 - (lg_sl ([.int k, .int n])).length) Slot.unset).toArray = ls at hl ⊢
  replace hl : lv_has ls 2 [(0, .int k), (1, .int n)] := hl
  refine zw_begin hP hD (fun H locs hP1 hS => ?_)
  clear hP
  have hP := hP1
  clear hP1
  refine lv_iload_n hx hb dJ0_checkIndex_df160_0 rfl (lv_at hl 0 rfl) ?_
  refine lv_iload_n hx hb dJ0_checkIndex_df160_1 rfl (lv_at hl 1 rfl) ?_
  rcases hZ.2.2.2.2.2 with ho_1 | ⟨o_1, ho_1⟩
  · refine va_gets hx hb ho_1 hS hown (hts (.fieldLink RJ0 1053 "jdk/internal/util/Preconditions" "SIOOBE_FORMATTER" "Ljava/util/function/BiFunction;") (List.mem_of_getElem? (i := 1) rfl)) (fun _ h9 => h9) dJ0_checkIndex_df160_2 ?_
    refine zc_S (As := [.int k, .int n, .null]) (rest := []) ⟨hx, hb, hml, hown, hts⟩ (c_S_chk3_0 l D cI cJ cZ cP cS po (k) (n) hy0 (by omega)) (va_cwS 3 hts gJ0_checkIndex_df160_J3_checkIndex_8e157 rfl rfl rfl dh_J3_checkIndex_8e157 ⟨Nat.le_of_ble_eq_true rfl, Nat.le_of_ble_eq_true rfl⟩) hK hN (hZ.kept hS) rfl hl.1 rfl (Nat.le_of_ble_eq_true rfl) dJ0_checkIndex_df160_5 ⟨Nat.le_of_ble_eq_true rfl, Nat.le_of_ble_eq_true rfl⟩ (fun r_2 hr_2 => ?_)
    have w_3 := hr_2
    obtain rfl : k = r_2 := w_3.symm
    refine lv_pop hx hb dJ0_checkIndex_df160_8 rfl ?_
    exact W.vret hx hb hr (fun t ht hW => ⟨⟨(), rfl, trivial, zRet (wq := fun _ : Unit => []) (u := ()) ht hP hD [] (by decide) rfl⟩, hS.F ht⟩) hS.2.2 dJ0_checkIndex_df160_9
  · refine va_gets hx hb ho_1 hS hown (hts (.fieldLink RJ0 1053 "jdk/internal/util/Preconditions" "SIOOBE_FORMATTER" "Ljava/util/function/BiFunction;") (List.mem_of_getElem? (i := 1) rfl)) (fun _ h9 => h9) dJ0_checkIndex_df160_2 ?_
    refine zc_S (As := [.int k, .int n, .ref o_1]) (rest := []) ⟨hx, hb, hml, hown, hts⟩ (c_S_chk3_1 l D cI cJ cZ cP cS po (k) (n) o_1 hy0 (by omega)) (va_cwS 3 hts gJ0_checkIndex_df160_J3_checkIndex_8e157 rfl rfl rfl dh_J3_checkIndex_8e157 ⟨Nat.le_of_ble_eq_true rfl, Nat.le_of_ble_eq_true rfl⟩) hK hN (hZ.kept hS) rfl hl.1 rfl (Nat.le_of_ble_eq_true rfl) dJ0_checkIndex_df160_5 ⟨Nat.le_of_ble_eq_true rfl, Nat.le_of_ble_eq_true rfl⟩ (fun r_4 hr_4 => ?_)
    have w_5 := hr_4
    obtain rfl : k = r_4 := w_5.symm
    refine lv_pop hx hb dJ0_checkIndex_df160_8 rfl ?_
    exact W.vret hx hb hr (fun t ht hW => ⟨⟨(), rfl, trivial, zRet (wq := fun _ : Unit => []) (u := ()) ht hP hD [] (by decide) rfl⟩, hS.F ht⟩) hS.2.2 dJ0_checkIndex_df160_9
set_option maxHeartbeats 4000000 in
set_option maxRecDepth 100000 in
theorem c_S_char1 (l : Launch) (D : va_G) (cI cJ cZ cP cS : ClassId) (po : zPool) (i : Nat) (k : Int32) (hi : i < 10) (hk : 0 ≤ k.toInt ∧ k.toInt < (zLen.getD i 0 : Nat)) (hpz : Nat) : Met l yJ1_charAt_3b067 wsJ1_charAt_3b067 ({ frames := 2, cells := 0, slots := 0, locals := 43 }) (va_Pc [.ref (po.2.2 i), .int k] (zW D (zKT cI cJ cZ cP cS) po [] hpz)) (va_Qi (fun (r : Int32) (_ : Unit) => (r = (zByt.getD i []).getD k.toNatClampNeg 0) ∧ (True)) (zB D [] hpz (fun (_ : Unit) => [])) (va_A [] hpz)) 0 0 (va_A [] hpz) := by
  refine Met.ofW (cc := cJ1_charAt_3b067) (maxL := 2) (ret := (some .char)) (by decide) rfl ?_
  intro p e s m args below meth c s₁ B hml hv
  obtain ⟨rfl, hsz, hP, hK, hD0, hN, hZ⟩ := hv
  have hx := B.exec
  have hb := B.bytes
  have hr := B.returns
  have hts := atoms_spec (ws := wsJ1_charAt_3b067) B.pre
  have hown : s.vm.findClass RJ1 = some m.cls := findClass_of_methodNamed B.named
  have hlocks := B.notSynchronized
  subst hsz
  have hD := hD0.self (sz := s.heap.size)
  have hA := zA_of hD
  have hl := lv_entry ([.ref (po.2.2 i), .int k]) (n := 2) (Nat.le_of_ble_eq_true rfl)
  rw [lg_entry_eq]
  generalize (lg_sl ([.ref (po.2.2 i), .int k]) ++ List.replicate (2 - (lg_sl ([.ref (po.2.2 i), .int k])).length) Slot.unset).toArray = ls at hl ⊢
  replace hl : lv_has ls 2 [(0, .ref (po.2.2 i)), (1, .int k)] := hl
  refine zw_begin hP hD (fun H locs hP1 hS => ?_)
  clear hP
  have hP := hP1
  clear hP1
  refine lv_iload_n hx hb dJ1_charAt_3b067_0 rfl (lv_at hl 1 rfl) ?_
  refine lv_aload_n hx hb dJ1_charAt_3b067_1 rfl (lv_at hl 0 rfl) ?_
  refine va_tlen hx hb (hZ.2.2.1.1 i hi).2.2.2 hS rfl dJ1_charAt_3b067_2 ?_
  refine lv_topi (fun x_1 ex_1 => ?_)
  have bx_1 : x_1.toInt = (zLen.getD i 0 : Nat) ∧ 2 ≤ x_1.toInt ∧ x_1.toInt ≤ 7 := by rw [ex_1]; exact zs_len i hi
  skip
  refine zw_Sv (As := [.int k, .int x_1]) (rest := []) (wr := []) ⟨hx, hb, hml, hown, hts⟩ (c_S_chk l D cI cJ cZ cP cS po (k) (x_1) (by omega) (by omega) H.size) (va_cwS 2 hts gJ1_charAt_3b067_J0_checkIndex_df160 rfl rfl rfl dh_J0_checkIndex_df160 ⟨Nat.le_of_ble_eq_true rfl, Nat.le_of_ble_eq_true rfl⟩) hK hN (hZ.kept hS) hP hD hS hA [] [] rfl rfl (by decide) (by decide) (by decide) rfl hl.1 rfl (Nat.le_of_ble_eq_true rfl) dJ1_charAt_3b067_3 ⟨Nat.le_of_ble_eq_true rfl, Nat.le_of_ble_eq_true rfl⟩ (fun u_3 H locs hr_2 hP hD hS => ?_)
  have h9R := zRe (ws' := []) hP hD rfl
  clear hP hD
  obtain ⟨hP, hD⟩ := h9R
  refine lv_aload_n hx hb dJ1_charAt_3b067_6 rfl (lv_at hl 0 rfl) ?_
  refine lv_iload_n hx hb dJ1_charAt_3b067_7 rfl (lv_at hl 1 rfl) ?_
  refine va_tb hx hb (hZ.2.2.1.1 i hi).2.2.2 hS (zf_in (by omega) (by omega)) rfl dJ1_charAt_3b067_8 ?_
  refine lv_topi (fun x_4 ex_4 => ?_)
  refine lv_sipush (v := 255) hx hb dJ1_charAt_3b067_9 (by decide) ?_
  refine lv_iand hx hb dJ1_charAt_3b067_12 ?_
  refine lv_topi (fun x_5 ex_5 => ?_)
  refine lv_i2c hx hb dJ1_charAt_3b067_13 rfl ?_
  refine lv_topi (fun x_6 ex_6 => ?_)
  exact W.zret (v := x_6) hx hb hr (by rw [ex_6, ex_5, ex_4, (zs_chr i k.toNatClampNeg hi (by have h1 : k.toNatClampNeg = k.toInt.toNat := rfl; omega)).1]; exact (zs_chr i k.toNatClampNeg hi (by have h1 : k.toNatClampNeg = k.toInt.toNat := rfl; omega)).2) (fun t ht hW => ⟨⟨x_6, (), rfl, ⟨(show (x_6 : Int32) = (zByt.getD i []).getD k.toNatClampNeg 0 from by rw [ex_6, ex_5, ex_4]; exact (zs_chr i k.toNatClampNeg hi (by have h1 : k.toNatClampNeg = k.toInt.toNat := rfl; omega)).1), trivial⟩, zRet (wq := fun _ : Unit => []) (u := ()) ht hP hD [] (by decide) rfl⟩, hS.F ht⟩) hS.2.2 dJ1_charAt_3b067_14
set_option maxHeartbeats 4000000 in
set_option maxRecDepth 100000 in
theorem c_S_charAt (l : Launch) (D : va_G) (cI cJ cZ cP cS : ClassId) (po : zPool) (i : Nat) (k : Int32) (hi : i < 10) (hk : 0 ≤ k.toInt ∧ k.toInt < (zLen.getD i 0 : Nat)) (hpz : Nat) : Met l yJ0_charAt_5068e wsJ0_charAt_5068e ({ frames := 3, cells := 0, slots := 0, locals := 64 }) (va_Pc [.ref (po.2.1 i), .int k] (zW D (zKT cI cJ cZ cP cS) po [] hpz)) (va_Qi (fun (r : Int32) (_ : Unit) => (r = (zByt.getD i []).getD k.toNatClampNeg 0) ∧ (True)) (zB D [] hpz (fun (_ : Unit) => [])) (va_A [] hpz)) 0 0 (va_A [] hpz) := by
  refine Met.ofW (cc := cJ0_charAt_5068e) (maxL := 2) (ret := (some .char)) (by decide) rfl ?_
  intro p e s m args below meth c s₁ B hml hv
  obtain ⟨rfl, hsz, hP, hK, hD0, hN, hZ⟩ := hv
  have hx := B.exec
  have hb := B.bytes
  have hr := B.returns
  have hts := atoms_spec (ws := wsJ0_charAt_5068e) B.pre
  have hown : s.vm.findClass RJ0 = some m.cls := findClass_of_methodNamed B.named
  have hlocks := B.notSynchronized
  subst hsz
  have hD := hD0.self (sz := s.heap.size)
  have hA := zA_of hD
  have hl := lv_entry ([.ref (po.2.1 i), .int k]) (n := 2) (Nat.le_of_ble_eq_true rfl)
  rw [lg_entry_eq]
  generalize (lg_sl ([.ref (po.2.1 i), .int k]) ++ List.replicate (2 - (lg_sl ([.ref (po.2.1 i), .int k])).length) Slot.unset).toArray = ls at hl ⊢
  replace hl : lv_has ls 2 [(0, .ref (po.2.1 i)), (1, .int k)] := hl
  refine zw_begin hP hD (fun H locs hP1 hS => ?_)
  clear hP
  have hP := hP1
  clear hP1
  refine lv_aload_n hx hb dJ0_charAt_5068e_0 rfl (lv_at hl 0 rfl) ?_
  refine zc_V (As := []) (rest := []) ⟨hx, hb, hml, hown, hts⟩ (c_S_isLatin l D cI cJ cZ cP cS po i hi) (cwV 0 hts gJ0_charAt_5068e_J0_isLatin1_aae02 rfl rfl rfl ⟨rfl, dh_J0_isLatin1_aae02⟩ ⟨Nat.le_of_ble_eq_true rfl, Nat.le_of_ble_eq_true rfl⟩) hK hN (hZ.kept hS) hP zP_nil (vk_recv hZ.2.2.1 hi hS) rfl hl.1 rfl (Nat.le_of_ble_eq_true rfl) dJ0_charAt_5068e_1 ⟨Nat.le_of_ble_eq_true rfl, Nat.le_of_ble_eq_true rfl⟩ (fun r_1 hr_1 => ?_)
  obtain rfl := hr_1
  refine lv_if_eq (tgt := 16) hx hb dJ0_charAt_5068e_4 (by decide) (fun c_2 => ?_) (fun c_2 => ?_)
  · exact absurd c_2 (by decide)
  · refine lv_aload_n hx hb dJ0_charAt_5068e_7 rfl (lv_at hl 0 rfl) ?_
    refine vk_getf hx hb (hZ.2.2.1.1 i hi).2.2.1 hS hown (hts (.fieldLink RJ0 9 "java/lang/String" "value" "[B") (List.mem_of_getElem? (i := 1) rfl)) (fun _ h9 => h9) dJ0_charAt_5068e_8 ?_
    refine lv_iload_n hx hb dJ0_charAt_5068e_11 rfl (lv_at hl 1 rfl) ?_
    skip
    refine zw_Si (As := [.ref (po.2.2 i), .int k]) (rest := []) (wr := []) ⟨hx, hb, hml, hown, hts⟩ (c_S_char1 l D cI cJ cZ cP cS po i (k) hi (by first | assumption | omega) H.size) (va_cwS 2 hts gJ0_charAt_5068e_J1_charAt_3b067 rfl rfl rfl dh_J1_charAt_3b067 ⟨Nat.le_of_ble_eq_true rfl, Nat.le_of_ble_eq_true rfl⟩) hK hN (hZ.kept hS) hP hD hS hA [] [] rfl rfl (by decide) (by decide) (by decide) rfl hl.1 rfl (Nat.le_of_ble_eq_true rfl) dJ0_charAt_5068e_12 ⟨Nat.le_of_ble_eq_true rfl, Nat.le_of_ble_eq_true rfl⟩ (fun r_3 u_4 H locs hr_3 hP hD hS => ?_)
    obtain ⟨hsr_3_0, hr_3⟩ := hr_3
    have h9R := zRe (ws' := []) hP hD rfl
    clear hP hD
    obtain ⟨hP, hD⟩ := h9R
    exact W.zret (v := r_3) hx hb hr (by rw [hsr_3_0]; exact (zs_chr i k.toNatClampNeg hi (by have h1 : k.toNatClampNeg = k.toInt.toNat := rfl; omega)).2) (fun t ht hW => ⟨⟨r_3, (), rfl, ⟨(show (r_3 : Int32) = (zByt.getD i []).getD k.toNatClampNeg 0 from by first | assumption | omega), trivial⟩, zRet (wq := fun _ : Unit => []) (u := ()) ht hP hD [] (by decide) rfl⟩, hS.F ht⟩) hS.2.2 dJ0_charAt_5068e_15
end
section
theorem gl_X3_stands_X30 : GoodIn wsX3_stands wsX30 := (dg_t (dg_t (dg_t gw_wsX30)))
theorem hi_X3_stands_3 : ∀ w ∈ u_ws RX3 TX3 8, w ∈ wsX3_stands := fun w h => (gl_X3_stands_X30 w h).1
set_option maxHeartbeats 4000000 in
set_option maxRecDepth 100000 in
theorem c_R_stands (l : Launch) (D : va_G) (cI cJ cZ cP cS : ClassId) (po : zPool) (rd ri rl : Nat) (rz rc rp rf rt ru : Int32) (fl : Nat → Int32) (i ch : Int32) (hy0 : 0 ≤ rz.toInt) (hy1 : rz.toInt ≤ 160) (hy2 : 0 ≤ rc.toInt) (hy3 : rc.toInt ≤ 40) (hy4 : 0 ≤ rp.toInt) (hy5 : rp.toInt ≤ 160) (hy6 : rp.toInt ≤ rz.toInt) (hy7 : (-1) ≤ rf.toInt) (hy8 : rf.toInt ≤ 160) (hy9 : 0 ≤ rt.toInt) (hy10 : rt.toInt ≤ 40) (hy11 : 0 ≤ ru.toInt) (hy12 : ru.toInt ≤ 8) : Met l yX3_stands wsX3_stands ({ frames := 0, cells := 0, slots := 0, locals := 0 }) (va_Pc [.ref rd, .int i, .int ch] (zR D (zKT cI cJ cZ cP cS) po [(rd, .inr (3, [.ref ri, .ref rl, .int rz, .int rc, .int rp, .int rf, .int rt, .int ru])), (rl, .inl (cI, 160, .inl fl))])) (vp_Si (fun r => 0 ≤ r.toInt ∧ r.toInt ≤ 1 ∧ ((r.toInt = 1 → 0 ≤ i.toInt ∧ i.toInt < rz.toInt)) ∧ ((r = 1 ↔ (0 ≤ i.toInt ∧ i.toInt < rz.toInt ∧ fl i.toNatClampNeg = ch))))) 0 0 (fun _ => False) := by
  refine Met.ofW (cc := cX3_stands) (maxL := 3) (ret := (some .boolean)) (by decide) rfl ?_
  intro p e s m args below meth c s₁ B hml hv
  obtain ⟨rfl, hP, hK, hN, hZ⟩ := hv
  have hx := B.exec
  have hb := B.bytes
  have hr := B.returns
  have hts := atoms_spec (ws := wsX3_stands) B.pre
  have hown : s.vm.findClass RX3 = some m.cls := findClass_of_methodNamed B.named
  have hlocks := B.notSynchronized
  have hl := lv_entry ([.ref rd, .int i, .int ch]) (n := 3) (Nat.le_of_ble_eq_true rfl)
  rw [lg_entry_eq]
  generalize (lg_sl ([.ref rd, .int i, .int ch]) ++ List.replicate (3 - (lg_sl ([.ref rd, .int i, .int ch])).length) Slot.unset).toArray = ls at hl ⊢
  replace hl : lv_has ls 3 [(0, .ref rd), (1, .int i), (2, .int ch)] := hl
  refine lv_iload_n hx hb dX3_stands_0 rfl (lv_at hl 1 rfl) ?_
  refine lv_if_lt (tgt := 26) hx hb dX3_stands_1 (by decide) (fun c_1 => ?_) (fun c_1 => ?_)
  · have fc_1 : i.toInt < 0 := zf_lt c_1 rfl (by decide)
    refine lv_iconst (v := 0) hx hb dX3_stands_26 (by decide) ?_
    exact W.zret (v := 0) hx hb hr (by decide) (fun t ht hW => ⟨0, rfl, ⟨by decide, by decide, (show ((0 : Int32).toInt = 1 → 0 ≤ i.toInt ∧ i.toInt < rz.toInt) from by first | omega | exact fun h => absurd h (by decide)), (show ((0 : Int32) = 1 ↔ (0 ≤ i.toInt ∧ i.toInt < rz.toInt ∧ fl i.toNatClampNeg = ch)) from by exact ⟨fun h => absurd h (by decide), fun h => by have h1 := h.1; have h2 := h.2.1; omega⟩)⟩, ht⟩) (fun q hq => by cases hq) dX3_stands_27
  · have fc_1 : 0 ≤ i.toInt := zf_nlt c_1 rfl (by decide)
    refine lv_iload_n hx hb dX3_stands_4 rfl (lv_at hl 1 rfl) ?_
    refine lv_aload_n hx hb dX3_stands_5 rfl (lv_at hl 0 rfl) ?_
    refine va_get (D := D) (ci := 3) (v := .int rz) (C := RX3) (T := TX3) (N := 8) hx hb hts hi_X3_stands_3 hown hK hP 0 rfl rfl 2 (by decide) (hts (.fieldLink RX3 18 "TheLiningsInIt$Reader" "size" "I") (List.mem_of_getElem? (i := 1) rfl)) (fun _ h9 => h9) rfl dX3_stands_6 ?_
    refine lv_icmp_ge (tgt := 26) hx hb dX3_stands_9 (by decide) (fun c_2 => ?_) (fun c_2 => ?_)
    · have fc_2 : rz.toInt ≤ i.toInt := zf_le c_2 rfl rfl
      refine lv_iconst (v := 0) hx hb dX3_stands_26 (by decide) ?_
      exact W.zret (v := 0) hx hb hr (by decide) (fun t ht hW => ⟨0, rfl, ⟨by decide, by decide, (show ((0 : Int32).toInt = 1 → 0 ≤ i.toInt ∧ i.toInt < rz.toInt) from by first | omega | exact fun h => absurd h (by decide)), (show ((0 : Int32) = 1 ↔ (0 ≤ i.toInt ∧ i.toInt < rz.toInt ∧ fl i.toNatClampNeg = ch)) from by exact ⟨fun h => absurd h (by decide), fun h => by have h1 := h.1; have h2 := h.2.1; omega⟩)⟩, ht⟩) (fun q hq => by cases hq) dX3_stands_27
    · have fc_2 : i.toInt < rz.toInt := zf_nle c_2 rfl rfl
      refine lv_aload_n hx hb dX3_stands_12 rfl (lv_at hl 0 rfl) ?_
      refine va_get (D := D) (ci := 3) (v := .ref rl) (C := RX3) (T := TX3) (N := 8) hx hb hts hi_X3_stands_3 hown hK hP 0 rfl rfl 1 (by decide) (hts (.fieldLink RX3 15 "TheLiningsInIt$Reader" "letters" "[I") (List.mem_of_getElem? (i := 2) rfl)) (fun _ h9 => h9) rfl dX3_stands_13 ?_
      refine lv_iload_n hx hb dX3_stands_16 rfl (lv_at hl 1 rfl) ?_
      refine va_iald hx hb hK hP 1 0 rfl rfl (zf_in (by omega) (by omega)) dX3_stands_17 ?_
      refine lv_topi (fun x_3 ex_3 => ?_)
      refine lv_iload_n hx hb dX3_stands_18 rfl (lv_at hl 2 rfl) ?_
      refine lv_icmp_ne (tgt := 26) hx hb dX3_stands_19 (by decide) (fun c_4 => ?_) (fun c_4 => ?_)
      · have fc_4 : x_3.toInt ≠ ch.toInt := zf_ne c_4 rfl rfl
        refine lv_iconst (v := 0) hx hb dX3_stands_26 (by decide) ?_
        exact W.zret (v := 0) hx hb hr (by decide) (fun t ht hW => ⟨0, rfl, ⟨by decide, by decide, (show ((0 : Int32).toInt = 1 → 0 ≤ i.toInt ∧ i.toInt < rz.toInt) from by first | omega | exact fun h => absurd h (by decide)), (show ((0 : Int32) = 1 ↔ (0 ≤ i.toInt ∧ i.toInt < rz.toInt ∧ fl i.toNatClampNeg = ch)) from by exact ⟨fun h => absurd h (by decide), fun h => absurd (ex_3.trans h.2.2) c_4⟩)⟩, ht⟩) (fun q hq => by cases hq) dX3_stands_27
      · have fc_4 : x_3.toInt = ch.toInt := zf_eq c_4 rfl rfl
        refine lv_iconst (v := 1) hx hb dX3_stands_22 (by decide) ?_
        refine lv_goto (tgt := 27) hx hb dX3_stands_23 (by decide) ?_
        exact W.zret (v := 1) hx hb hr (by decide) (fun t ht hW => ⟨1, rfl, ⟨by decide, by decide, (show ((1 : Int32).toInt = 1 → 0 ≤ i.toInt ∧ i.toInt < rz.toInt) from by first | omega | exact fun h => absurd h (by decide)), (show ((1 : Int32) = 1 ↔ (0 ≤ i.toInt ∧ i.toInt < rz.toInt ∧ fl i.toNatClampNeg = ch)) from by exact ⟨fun _ => ⟨by omega, by omega, ex_3.symm.trans (by first | exact c_4 | exact Decidable.not_not.mp c_4)⟩, fun _ => rfl⟩)⟩, ht⟩) (fun q hq => by cases hq) dX3_stands_27
theorem hi_X3_expect_3 : ∀ w ∈ u_ws RX3 TX3 8, w ∈ wsX3_expect := fun w h => (gl_X3_expect_X30 w h).1
theorem hi_X3_lettersStanding_3 : ∀ w ∈ u_ws RX3 TX3 8, w ∈ wsX3_lettersStanding := fun w h => (gl_X3_lettersStanding_X30 w h).1
theorem gl_X3_takeWord_X30 : GoodIn wsX3_takeWord wsX30 := (dg_t (dg_t (dg_t (dg_t gw_wsX30))))
theorem hi_X3_takeWord_3 : ∀ w ∈ u_ws RX3 TX3 8, w ∈ wsX3_takeWord := fun w h => (gl_X3_takeWord_X30 w h).1
set_option maxHeartbeats 4000000 in
set_option maxRecDepth 100000 in
theorem c_R_wordAt (l : Launch) (D : va_G) (cI cJ cZ cP cS : ClassId) (po : zPool) (w : Int32) (hy0 : 0 ≤ w.toInt) (hy1 : w.toInt ≤ 9) : Met l yX3_wordAt wsX3_wordAt ({ frames := 0, cells := 0, slots := 0, locals := 0 }) (va_Pc [.int w] (zR D (zKT cI cJ cZ cP cS) po [])) (va_Sq (fun r => (∃ i : Nat, i < 10 ∧ (i : Int) = w.toInt ∧ r = some (po.2.1 i)))) 0 0 (fun _ => False) := by
  refine Met.ofW (cc := cX3_wordAt) (maxL := 1) (ret := (some (.object "java/lang/String"))) (by decide) rfl ?_
  intro p e s m args below meth c s₁ B hml hv
  obtain ⟨rfl, hP, hK, hN, hZ⟩ := hv
  have hx := B.exec
  have hb := B.bytes
  have hr := B.returns
  have hts := atoms_spec (ws := wsX3_wordAt) B.pre
  have hown : s.vm.findClass RX3 = some m.cls := findClass_of_methodNamed B.named
  have hlocks := B.notSynchronized
  have hl := lv_entry ([.int w]) (n := 1) (Nat.le_of_ble_eq_true rfl)
  rw [lg_entry_eq]
  generalize (lg_sl ([.int w]) ++ List.replicate (1 - (lg_sl ([.int w])).length) Slot.unset).toArray = ls at hl ⊢
  replace hl : lv_has ls 1 [(0, .int w)] := hl
  refine lv_iload_n hx hb dX3_wordAt_0 rfl (lv_at hl 0 rfl) ?_
  have hsp : w = 0 ∨ w = 1 ∨ w = 2 ∨ w = 3 ∨ w = 4 ∨ w = 5 ∨ w = 6 ∨ w = 7 ∨ w = 8 ∨ w = 9 := by
    rcases (show w.toInt = 0 ∨ w.toInt = 1 ∨ w.toInt = 2 ∨ w.toInt = 3 ∨ w.toInt = 4 ∨ w.toInt = 5 ∨ w.toInt = 6 ∨ w.toInt = 7 ∨ w.toInt = 8 ∨ w.toInt = 9 by omega) with h9 | h9 | h9 | h9 | h9 | h9 | h9 | h9 | h9 | h9
    · refine Or.inl ?_; exact zf_val h9 (by decide)
    · refine Or.inr (Or.inl ?_); exact zf_val h9 (by decide)
    · refine Or.inr (Or.inr (Or.inl ?_)); exact zf_val h9 (by decide)
    · refine Or.inr (Or.inr (Or.inr (Or.inl ?_))); exact zf_val h9 (by decide)
    · refine Or.inr (Or.inr (Or.inr (Or.inr (Or.inl ?_)))); exact zf_val h9 (by decide)
    · refine Or.inr (Or.inr (Or.inr (Or.inr (Or.inr (Or.inl ?_))))); exact zf_val h9 (by decide)
    · refine Or.inr (Or.inr (Or.inr (Or.inr (Or.inr (Or.inr (Or.inl ?_)))))); exact zf_val h9 (by decide)
    · refine Or.inr (Or.inr (Or.inr (Or.inr (Or.inr (Or.inr (Or.inr (Or.inl ?_))))))); exact zf_val h9 (by decide)
    · refine Or.inr (Or.inr (Or.inr (Or.inr (Or.inr (Or.inr (Or.inr (Or.inr (Or.inl ?_)))))))); exact zf_val h9 (by decide)
    · refine Or.inr (Or.inr (Or.inr (Or.inr (Or.inr (Or.inr (Or.inr (Or.inr (Or.inr (?_))))))))); exact zf_val h9 (by decide)
  rcases hsp with rfl | rfl | rfl | rfl | rfl | rfl | rfl | rfl | rfl | rfl
  · have kc0 : (0 : Int32).toInt = 0 := by decide
    refine lv_tableIn (tgt := 52) hx hb dX3_wordAt_1 (by decide) (by decide) rfl (by decide) ?_
    refine va_ldcS (own := RX3) (index := 113) hx hb hown (hZ.2.2.2.1 0 (by decide)) dX3_wordAt_52 ?_
    exact W.aret (v := .ref (po.2.1 0)) hx hb hr (Or.inl ⟨_, rfl⟩) (Or.inr ⟨_, rfl⟩) (fun t ht hW => ⟨some (po.2.1 0), rfl, ⟨0, by decide, by decide, rfl⟩, ht⟩) (fun q hq => by cases hq) dX3_wordAt_54
  · have kc1 : (1 : Int32).toInt = 1 := by decide
    refine lv_tableIn (tgt := 55) hx hb dX3_wordAt_1 (by decide) (by decide) rfl (by decide) ?_
    refine va_ldcS (own := RX3) (index := 114) hx hb hown (hZ.2.2.2.1 1 (by decide)) dX3_wordAt_55 ?_
    exact W.aret (v := .ref (po.2.1 1)) hx hb hr (Or.inl ⟨_, rfl⟩) (Or.inr ⟨_, rfl⟩) (fun t ht hW => ⟨some (po.2.1 1), rfl, ⟨1, by decide, by decide, rfl⟩, ht⟩) (fun q hq => by cases hq) dX3_wordAt_57
  · have kc2 : (2 : Int32).toInt = 2 := by decide
    refine lv_tableIn (tgt := 58) hx hb dX3_wordAt_1 (by decide) (by decide) rfl (by decide) ?_
    refine va_ldcS (own := RX3) (index := 116) hx hb hown (hZ.2.2.2.1 2 (by decide)) dX3_wordAt_58 ?_
    exact W.aret (v := .ref (po.2.1 2)) hx hb hr (Or.inl ⟨_, rfl⟩) (Or.inr ⟨_, rfl⟩) (fun t ht hW => ⟨some (po.2.1 2), rfl, ⟨2, by decide, by decide, rfl⟩, ht⟩) (fun q hq => by cases hq) dX3_wordAt_60
  · have kc3 : (3 : Int32).toInt = 3 := by decide
    refine lv_tableIn (tgt := 61) hx hb dX3_wordAt_1 (by decide) (by decide) rfl (by decide) ?_
    refine va_ldcS (own := RX3) (index := 118) hx hb hown (hZ.2.2.2.1 3 (by decide)) dX3_wordAt_61 ?_
    exact W.aret (v := .ref (po.2.1 3)) hx hb hr (Or.inl ⟨_, rfl⟩) (Or.inr ⟨_, rfl⟩) (fun t ht hW => ⟨some (po.2.1 3), rfl, ⟨3, by decide, by decide, rfl⟩, ht⟩) (fun q hq => by cases hq) dX3_wordAt_63
  · have kc4 : (4 : Int32).toInt = 4 := by decide
    refine lv_tableIn (tgt := 64) hx hb dX3_wordAt_1 (by decide) (by decide) rfl (by decide) ?_
    refine va_ldcS (own := RX3) (index := 120) hx hb hown (hZ.2.2.2.1 4 (by decide)) dX3_wordAt_64 ?_
    exact W.aret (v := .ref (po.2.1 4)) hx hb hr (Or.inl ⟨_, rfl⟩) (Or.inr ⟨_, rfl⟩) (fun t ht hW => ⟨some (po.2.1 4), rfl, ⟨4, by decide, by decide, rfl⟩, ht⟩) (fun q hq => by cases hq) dX3_wordAt_66
  · have kc5 : (5 : Int32).toInt = 5 := by decide
    refine lv_tableIn (tgt := 67) hx hb dX3_wordAt_1 (by decide) (by decide) rfl (by decide) ?_
    refine va_ldcS (own := RX3) (index := 122) hx hb hown (hZ.2.2.2.1 5 (by decide)) dX3_wordAt_67 ?_
    exact W.aret (v := .ref (po.2.1 5)) hx hb hr (Or.inl ⟨_, rfl⟩) (Or.inr ⟨_, rfl⟩) (fun t ht hW => ⟨some (po.2.1 5), rfl, ⟨5, by decide, by decide, rfl⟩, ht⟩) (fun q hq => by cases hq) dX3_wordAt_69
  · have kc6 : (6 : Int32).toInt = 6 := by decide
    refine lv_tableIn (tgt := 70) hx hb dX3_wordAt_1 (by decide) (by decide) rfl (by decide) ?_
    refine va_ldcS (own := RX3) (index := 124) hx hb hown (hZ.2.2.2.1 6 (by decide)) dX3_wordAt_70 ?_
    exact W.aret (v := .ref (po.2.1 6)) hx hb hr (Or.inl ⟨_, rfl⟩) (Or.inr ⟨_, rfl⟩) (fun t ht hW => ⟨some (po.2.1 6), rfl, ⟨6, by decide, by decide, rfl⟩, ht⟩) (fun q hq => by cases hq) dX3_wordAt_72
  · have kc7 : (7 : Int32).toInt = 7 := by decide
    refine lv_tableIn (tgt := 73) hx hb dX3_wordAt_1 (by decide) (by decide) rfl (by decide) ?_
    refine va_ldcS (own := RX3) (index := 126) hx hb hown (hZ.2.2.2.1 7 (by decide)) dX3_wordAt_73 ?_
    exact W.aret (v := .ref (po.2.1 7)) hx hb hr (Or.inl ⟨_, rfl⟩) (Or.inr ⟨_, rfl⟩) (fun t ht hW => ⟨some (po.2.1 7), rfl, ⟨7, by decide, by decide, rfl⟩, ht⟩) (fun q hq => by cases hq) dX3_wordAt_75
  · have kc8 : (8 : Int32).toInt = 8 := by decide
    refine lv_tableIn (tgt := 76) hx hb dX3_wordAt_1 (by decide) (by decide) rfl (by decide) ?_
    refine va_ldcS (own := RX3) (index := 128) hx hb hown (hZ.2.2.2.1 8 (by decide)) dX3_wordAt_76 ?_
    exact W.aret (v := .ref (po.2.1 8)) hx hb hr (Or.inl ⟨_, rfl⟩) (Or.inr ⟨_, rfl⟩) (fun t ht hW => ⟨some (po.2.1 8), rfl, ⟨8, by decide, by decide, rfl⟩, ht⟩) (fun q hq => by cases hq) dX3_wordAt_78
  · have kc9 : (9 : Int32).toInt = 9 := by decide
    refine lv_tableOut (tgt := 79) hx hb dX3_wordAt_1 (by decide) (by decide) ?_
    refine va_ldcS (own := RX3) (index := 130) hx hb hown (hZ.2.2.2.1 9 (by decide)) dX3_wordAt_79 ?_
    exact W.aret (v := .ref (po.2.1 9)) hx hb hr (Or.inl ⟨_, rfl⟩) (Or.inr ⟨_, rfl⟩) (fun t ht hW => ⟨some (po.2.1 9), rfl, ⟨9, by decide, by decide, rfl⟩, ht⟩) (fun q hq => by cases hq) dX3_wordAt_81
theorem hi_X3_readWord_3 : ∀ w ∈ u_ws RX3 TX3 8, w ∈ wsX3_readWord := fun w h => (gl_X3_readWord_X30 w h).1
set_option maxHeartbeats 4000000 in
set_option maxRecDepth 100000 in
theorem c_R_isDigit (l : Launch) (D : va_G) (cI cJ cZ cP cS : ClassId) (po : zPool) (i : Int32)  : Met l yX3_isDigit wsX3_isDigit ({ frames := 0, cells := 0, slots := 0, locals := 0 }) (va_Pc [.int i] (zR D (zKT cI cJ cZ cP cS) po [])) (vp_Si (fun r => (r = 0 ∧ i.toInt < 48) ∨ (r = 0 ∧ 48 ≤ i.toInt ∧ 57 < i.toInt) ∨ (r = 1 ∧ 48 ≤ i.toInt ∧ i.toInt ≤ 57))) 0 0 (fun _ => False) := by
  refine Met.ofW (cc := cX3_isDigit) (maxL := 1) (ret := (some .boolean)) (by decide) rfl ?_
  intro p e s m args below meth c s₁ B hml hv
  obtain ⟨rfl, hP, hK, hN, hZ⟩ := hv
  have hx := B.exec
  have hb := B.bytes
  have hr := B.returns
  have hts := atoms_spec (ws := wsX3_isDigit) B.pre
  have hown : s.vm.findClass RX3 = some m.cls := findClass_of_methodNamed B.named
  have hlocks := B.notSynchronized
  have hl := lv_entry ([.int i]) (n := 1) (Nat.le_of_ble_eq_true rfl)
  rw [lg_entry_eq]
  generalize (lg_sl ([.int i]) ++ List.replicate (1 - (lg_sl ([.int i])).length) Slot.unset).toArray = ls at hl ⊢
  replace hl : lv_has ls 1 [(0, .int i)] := hl
  refine lv_iload_n hx hb dX3_isDigit_0 rfl (lv_at hl 0 rfl) ?_
  refine lv_bipush (v := 48) hx hb dX3_isDigit_1 (by decide) ?_
  refine lv_icmp_lt (tgt := 16) hx hb dX3_isDigit_3 (by decide) (fun c_1 => ?_) (fun c_1 => ?_)
  · have fc_1 : i.toInt < 48 := zf_lt c_1 rfl (by decide)
    refine lv_iconst (v := 0) hx hb dX3_isDigit_16 (by decide) ?_
    exact W.zret (v := 0) hx hb hr (by decide) (fun t ht hW => ⟨0, rfl, Or.inl (⟨rfl, (by first | omega | decide)⟩), ht⟩) (fun q hq => by cases hq) dX3_isDigit_17
  · have fc_1 : 48 ≤ i.toInt := zf_nlt c_1 rfl (by decide)
    refine lv_iload_n hx hb dX3_isDigit_6 rfl (lv_at hl 0 rfl) ?_
    refine lv_bipush (v := 57) hx hb dX3_isDigit_7 (by decide) ?_
    refine lv_icmp_gt (tgt := 16) hx hb dX3_isDigit_9 (by decide) (fun c_2 => ?_) (fun c_2 => ?_)
    · have fc_2 : 57 < i.toInt := zf_lt c_2 (by decide) rfl
      refine lv_iconst (v := 0) hx hb dX3_isDigit_16 (by decide) ?_
      exact W.zret (v := 0) hx hb hr (by decide) (fun t ht hW => ⟨0, rfl, Or.inr (Or.inl (⟨rfl, (by first | omega | decide), (by first | omega | decide)⟩)), ht⟩) (fun q hq => by cases hq) dX3_isDigit_17
    · have fc_2 : i.toInt ≤ 57 := zf_nlt c_2 (by decide) rfl
      refine lv_iconst (v := 1) hx hb dX3_isDigit_12 (by decide) ?_
      refine lv_goto (tgt := 17) hx hb dX3_isDigit_13 (by decide) ?_
      exact W.zret (v := 1) hx hb hr (by decide) (fun t ht hW => ⟨1, rfl, Or.inr (Or.inr (⟨rfl, (by first | omega | decide), (by first | omega | decide)⟩)), ht⟩) (fun q hq => by cases hq) dX3_isDigit_17
theorem gl_X3_readNumber_X30 : GoodIn wsX3_readNumber wsX30 := (dg_t (dg_t (dg_t (dg_t (dg_t (dg_t (dg_t (dg_t (dg_t (dg_t (dg_t (dg_t gw_wsX30))))))))))))
theorem hi_X3_readNumber_3 : ∀ w ∈ u_ws RX3 TX3 8, w ∈ wsX3_readNumber := fun w h => (gl_X3_readNumber_X30 w h).1
end
section
set_option maxHeartbeats 4000000 in
set_option maxRecDepth 100000 in
theorem c_R_numbersOf_0 (l : Launch) (D : va_G) (cI cJ cZ cP cS : ClassId) (po : zPool)   : Met l yX3_numbersOf wsX3_numbersOf ({ frames := 0, cells := 0, slots := 0, locals := 0 }) (va_Pc [.int 0] (zR D (zKT cI cJ cZ cP cS) po [])) (vp_Si (fun r => r = 1)) 0 0 (fun _ => False) := by
  refine Met.ofW (cc := cX3_numbersOf) (maxL := 1) (ret := (some .int)) (by decide) rfl ?_
  intro p e s m args below meth c s₁ B hml hv
  obtain ⟨rfl, hP, hK, hN, hZ⟩ := hv
  have hx := B.exec
  have hb := B.bytes
  have hr := B.returns
  have hts := atoms_spec (ws := wsX3_numbersOf) B.pre
  have hown : s.vm.findClass RX3 = some m.cls := findClass_of_methodNamed B.named
  have hlocks := B.notSynchronized
  have hl := lv_entry ([.int 0]) (n := 1) (Nat.le_of_ble_eq_true rfl)
  rw [lg_entry_eq]
  generalize (lg_sl ([.int 0]) ++ List.replicate (1 - (lg_sl ([.int 0])).length) Slot.unset).toArray = ls at hl ⊢
  replace hl : lv_has ls 1 [(0, .int 0)] := hl
  refine lv_iload_n hx hb dX3_numbersOf_0 rfl (lv_at hl 0 rfl) ?_
  refine lv_lookup (off := 39) (tgt := 40) hx hb dX3_numbersOf_1 (by decide) (by decide) (by decide) ?_
  refine lv_iconst (v := 1) hx hb dX3_numbersOf_40 (by decide) ?_
  exact W.iret (v := 1) hx hb hr (fun t ht hW => ⟨1, rfl, rfl, ht⟩) (fun q hq => by cases hq) dX3_numbersOf_41
set_option maxHeartbeats 4000000 in
set_option maxRecDepth 100000 in
theorem c_R_numbersOf_1 (l : Launch) (D : va_G) (cI cJ cZ cP cS : ClassId) (po : zPool)   : Met l yX3_numbersOf wsX3_numbersOf ({ frames := 0, cells := 0, slots := 0, locals := 0 }) (va_Pc [.int 1] (zR D (zKT cI cJ cZ cP cS) po [])) (vp_Si (fun r => r = 1)) 0 0 (fun _ => False) := by
  refine Met.ofW (cc := cX3_numbersOf) (maxL := 1) (ret := (some .int)) (by decide) rfl ?_
  intro p e s m args below meth c s₁ B hml hv
  obtain ⟨rfl, hP, hK, hN, hZ⟩ := hv
  have hx := B.exec
  have hb := B.bytes
  have hr := B.returns
  have hts := atoms_spec (ws := wsX3_numbersOf) B.pre
  have hown : s.vm.findClass RX3 = some m.cls := findClass_of_methodNamed B.named
  have hlocks := B.notSynchronized
  have hl := lv_entry ([.int 1]) (n := 1) (Nat.le_of_ble_eq_true rfl)
  rw [lg_entry_eq]
  generalize (lg_sl ([.int 1]) ++ List.replicate (1 - (lg_sl ([.int 1])).length) Slot.unset).toArray = ls at hl ⊢
  replace hl : lv_has ls 1 [(0, .int 1)] := hl
  refine lv_iload_n hx hb dX3_numbersOf_0 rfl (lv_at hl 0 rfl) ?_
  refine lv_lookup (off := 39) (tgt := 40) hx hb dX3_numbersOf_1 (by decide) (by decide) (by decide) ?_
  refine lv_iconst (v := 1) hx hb dX3_numbersOf_40 (by decide) ?_
  exact W.iret (v := 1) hx hb hr (fun t ht hW => ⟨1, rfl, rfl, ht⟩) (fun q hq => by cases hq) dX3_numbersOf_41
set_option maxHeartbeats 4000000 in
set_option maxRecDepth 100000 in
theorem c_R_numbersOf_2 (l : Launch) (D : va_G) (cI cJ cZ cP cS : ClassId) (po : zPool)   : Met l yX3_numbersOf wsX3_numbersOf ({ frames := 0, cells := 0, slots := 0, locals := 0 }) (va_Pc [.int 2] (zR D (zKT cI cJ cZ cP cS) po [])) (vp_Si (fun r => r = 2)) 0 0 (fun _ => False) := by
  refine Met.ofW (cc := cX3_numbersOf) (maxL := 1) (ret := (some .int)) (by decide) rfl ?_
  intro p e s m args below meth c s₁ B hml hv
  obtain ⟨rfl, hP, hK, hN, hZ⟩ := hv
  have hx := B.exec
  have hb := B.bytes
  have hr := B.returns
  have hts := atoms_spec (ws := wsX3_numbersOf) B.pre
  have hown : s.vm.findClass RX3 = some m.cls := findClass_of_methodNamed B.named
  have hlocks := B.notSynchronized
  have hl := lv_entry ([.int 2]) (n := 1) (Nat.le_of_ble_eq_true rfl)
  rw [lg_entry_eq]
  generalize (lg_sl ([.int 2]) ++ List.replicate (1 - (lg_sl ([.int 2])).length) Slot.unset).toArray = ls at hl ⊢
  replace hl : lv_has ls 1 [(0, .int 2)] := hl
  refine lv_iload_n hx hb dX3_numbersOf_0 rfl (lv_at hl 0 rfl) ?_
  refine lv_lookup (off := 37) (tgt := 38) hx hb dX3_numbersOf_1 (by decide) (by decide) (by decide) ?_
  refine lv_iconst (v := 2) hx hb dX3_numbersOf_38 (by decide) ?_
  exact W.iret (v := 2) hx hb hr (fun t ht hW => ⟨2, rfl, rfl, ht⟩) (fun q hq => by cases hq) dX3_numbersOf_39
set_option maxHeartbeats 4000000 in
set_option maxRecDepth 100000 in
theorem c_R_numbersOf_3 (l : Launch) (D : va_G) (cI cJ cZ cP cS : ClassId) (po : zPool)   : Met l yX3_numbersOf wsX3_numbersOf ({ frames := 0, cells := 0, slots := 0, locals := 0 }) (va_Pc [.int 3] (zR D (zKT cI cJ cZ cP cS) po [])) (vp_Si (fun r => r = 3)) 0 0 (fun _ => False) := by
  refine Met.ofW (cc := cX3_numbersOf) (maxL := 1) (ret := (some .int)) (by decide) rfl ?_
  intro p e s m args below meth c s₁ B hml hv
  obtain ⟨rfl, hP, hK, hN, hZ⟩ := hv
  have hx := B.exec
  have hb := B.bytes
  have hr := B.returns
  have hts := atoms_spec (ws := wsX3_numbersOf) B.pre
  have hown : s.vm.findClass RX3 = some m.cls := findClass_of_methodNamed B.named
  have hlocks := B.notSynchronized
  have hl := lv_entry ([.int 3]) (n := 1) (Nat.le_of_ble_eq_true rfl)
  rw [lg_entry_eq]
  generalize (lg_sl ([.int 3]) ++ List.replicate (1 - (lg_sl ([.int 3])).length) Slot.unset).toArray = ls at hl ⊢
  replace hl : lv_has ls 1 [(0, .int 3)] := hl
  refine lv_iload_n hx hb dX3_numbersOf_0 rfl (lv_at hl 0 rfl) ?_
  refine lv_lookup (off := 35) (tgt := 36) hx hb dX3_numbersOf_1 (by decide) (by decide) (by decide) ?_
  refine lv_iconst (v := 3) hx hb dX3_numbersOf_36 (by decide) ?_
  exact W.iret (v := 3) hx hb hr (fun t ht hW => ⟨3, rfl, rfl, ht⟩) (fun q hq => by cases hq) dX3_numbersOf_37
set_option maxHeartbeats 4000000 in
set_option maxRecDepth 100000 in
theorem c_R_numbersOf_4 (l : Launch) (D : va_G) (cI cJ cZ cP cS : ClassId) (po : zPool)   : Met l yX3_numbersOf wsX3_numbersOf ({ frames := 0, cells := 0, slots := 0, locals := 0 }) (va_Pc [.int 4] (zR D (zKT cI cJ cZ cP cS) po [])) (vp_Si (fun r => r = 1)) 0 0 (fun _ => False) := by
  refine Met.ofW (cc := cX3_numbersOf) (maxL := 1) (ret := (some .int)) (by decide) rfl ?_
  intro p e s m args below meth c s₁ B hml hv
  obtain ⟨rfl, hP, hK, hN, hZ⟩ := hv
  have hx := B.exec
  have hb := B.bytes
  have hr := B.returns
  have hts := atoms_spec (ws := wsX3_numbersOf) B.pre
  have hown : s.vm.findClass RX3 = some m.cls := findClass_of_methodNamed B.named
  have hlocks := B.notSynchronized
  have hl := lv_entry ([.int 4]) (n := 1) (Nat.le_of_ble_eq_true rfl)
  rw [lg_entry_eq]
  generalize (lg_sl ([.int 4]) ++ List.replicate (1 - (lg_sl ([.int 4])).length) Slot.unset).toArray = ls at hl ⊢
  replace hl : lv_has ls 1 [(0, .int 4)] := hl
  refine lv_iload_n hx hb dX3_numbersOf_0 rfl (lv_at hl 0 rfl) ?_
  refine lv_lookup (off := 39) (tgt := 40) hx hb dX3_numbersOf_1 (by decide) (by decide) (by decide) ?_
  refine lv_iconst (v := 1) hx hb dX3_numbersOf_40 (by decide) ?_
  exact W.iret (v := 1) hx hb hr (fun t ht hW => ⟨1, rfl, rfl, ht⟩) (fun q hq => by cases hq) dX3_numbersOf_41
set_option maxHeartbeats 4000000 in
set_option maxRecDepth 100000 in
theorem c_R_numbersOf_5 (l : Launch) (D : va_G) (cI cJ cZ cP cS : ClassId) (po : zPool)   : Met l yX3_numbersOf wsX3_numbersOf ({ frames := 0, cells := 0, slots := 0, locals := 0 }) (va_Pc [.int 5] (zR D (zKT cI cJ cZ cP cS) po [])) (vp_Si (fun r => r = 1)) 0 0 (fun _ => False) := by
  refine Met.ofW (cc := cX3_numbersOf) (maxL := 1) (ret := (some .int)) (by decide) rfl ?_
  intro p e s m args below meth c s₁ B hml hv
  obtain ⟨rfl, hP, hK, hN, hZ⟩ := hv
  have hx := B.exec
  have hb := B.bytes
  have hr := B.returns
  have hts := atoms_spec (ws := wsX3_numbersOf) B.pre
  have hown : s.vm.findClass RX3 = some m.cls := findClass_of_methodNamed B.named
  have hlocks := B.notSynchronized
  have hl := lv_entry ([.int 5]) (n := 1) (Nat.le_of_ble_eq_true rfl)
  rw [lg_entry_eq]
  generalize (lg_sl ([.int 5]) ++ List.replicate (1 - (lg_sl ([.int 5])).length) Slot.unset).toArray = ls at hl ⊢
  replace hl : lv_has ls 1 [(0, .int 5)] := hl
  refine lv_iload_n hx hb dX3_numbersOf_0 rfl (lv_at hl 0 rfl) ?_
  refine lv_lookup (off := 39) (tgt := 40) hx hb dX3_numbersOf_1 (by decide) (by decide) (by decide) ?_
  refine lv_iconst (v := 1) hx hb dX3_numbersOf_40 (by decide) ?_
  exact W.iret (v := 1) hx hb hr (fun t ht hW => ⟨1, rfl, rfl, ht⟩) (fun q hq => by cases hq) dX3_numbersOf_41
set_option maxHeartbeats 4000000 in
set_option maxRecDepth 100000 in
theorem c_R_numbersOf_6 (l : Launch) (D : va_G) (cI cJ cZ cP cS : ClassId) (po : zPool)   : Met l yX3_numbersOf wsX3_numbersOf ({ frames := 0, cells := 0, slots := 0, locals := 0 }) (va_Pc [.int 6] (zR D (zKT cI cJ cZ cP cS) po [])) (vp_Si (fun r => r = 1)) 0 0 (fun _ => False) := by
  refine Met.ofW (cc := cX3_numbersOf) (maxL := 1) (ret := (some .int)) (by decide) rfl ?_
  intro p e s m args below meth c s₁ B hml hv
  obtain ⟨rfl, hP, hK, hN, hZ⟩ := hv
  have hx := B.exec
  have hb := B.bytes
  have hr := B.returns
  have hts := atoms_spec (ws := wsX3_numbersOf) B.pre
  have hown : s.vm.findClass RX3 = some m.cls := findClass_of_methodNamed B.named
  have hlocks := B.notSynchronized
  have hl := lv_entry ([.int 6]) (n := 1) (Nat.le_of_ble_eq_true rfl)
  rw [lg_entry_eq]
  generalize (lg_sl ([.int 6]) ++ List.replicate (1 - (lg_sl ([.int 6])).length) Slot.unset).toArray = ls at hl ⊢
  replace hl : lv_has ls 1 [(0, .int 6)] := hl
  refine lv_iload_n hx hb dX3_numbersOf_0 rfl (lv_at hl 0 rfl) ?_
  refine lv_lookup (off := 39) (tgt := 40) hx hb dX3_numbersOf_1 (by decide) (by decide) (by decide) ?_
  refine lv_iconst (v := 1) hx hb dX3_numbersOf_40 (by decide) ?_
  exact W.iret (v := 1) hx hb hr (fun t ht hW => ⟨1, rfl, rfl, ht⟩) (fun q hq => by cases hq) dX3_numbersOf_41
set_option maxHeartbeats 4000000 in
set_option maxRecDepth 100000 in
theorem c_R_numbersOf_7 (l : Launch) (D : va_G) (cI cJ cZ cP cS : ClassId) (po : zPool)   : Met l yX3_numbersOf wsX3_numbersOf ({ frames := 0, cells := 0, slots := 0, locals := 0 }) (va_Pc [.int 7] (zR D (zKT cI cJ cZ cP cS) po [])) (vp_Si (fun r => r = 1)) 0 0 (fun _ => False) := by
  refine Met.ofW (cc := cX3_numbersOf) (maxL := 1) (ret := (some .int)) (by decide) rfl ?_
  intro p e s m args below meth c s₁ B hml hv
  obtain ⟨rfl, hP, hK, hN, hZ⟩ := hv
  have hx := B.exec
  have hb := B.bytes
  have hr := B.returns
  have hts := atoms_spec (ws := wsX3_numbersOf) B.pre
  have hown : s.vm.findClass RX3 = some m.cls := findClass_of_methodNamed B.named
  have hlocks := B.notSynchronized
  have hl := lv_entry ([.int 7]) (n := 1) (Nat.le_of_ble_eq_true rfl)
  rw [lg_entry_eq]
  generalize (lg_sl ([.int 7]) ++ List.replicate (1 - (lg_sl ([.int 7])).length) Slot.unset).toArray = ls at hl ⊢
  replace hl : lv_has ls 1 [(0, .int 7)] := hl
  refine lv_iload_n hx hb dX3_numbersOf_0 rfl (lv_at hl 0 rfl) ?_
  refine lv_lookup (off := 39) (tgt := 40) hx hb dX3_numbersOf_1 (by decide) (by decide) (by decide) ?_
  refine lv_iconst (v := 1) hx hb dX3_numbersOf_40 (by decide) ?_
  exact W.iret (v := 1) hx hb hr (fun t ht hW => ⟨1, rfl, rfl, ht⟩) (fun q hq => by cases hq) dX3_numbersOf_41
set_option maxHeartbeats 4000000 in
set_option maxRecDepth 100000 in
theorem c_R_numbersOf_8 (l : Launch) (D : va_G) (cI cJ cZ cP cS : ClassId) (po : zPool)   : Met l yX3_numbersOf wsX3_numbersOf ({ frames := 0, cells := 0, slots := 0, locals := 0 }) (va_Pc [.int 8] (zR D (zKT cI cJ cZ cP cS) po [])) (vp_Si (fun r => r = 2)) 0 0 (fun _ => False) := by
  refine Met.ofW (cc := cX3_numbersOf) (maxL := 1) (ret := (some .int)) (by decide) rfl ?_
  intro p e s m args below meth c s₁ B hml hv
  obtain ⟨rfl, hP, hK, hN, hZ⟩ := hv
  have hx := B.exec
  have hb := B.bytes
  have hr := B.returns
  have hts := atoms_spec (ws := wsX3_numbersOf) B.pre
  have hown : s.vm.findClass RX3 = some m.cls := findClass_of_methodNamed B.named
  have hlocks := B.notSynchronized
  have hl := lv_entry ([.int 8]) (n := 1) (Nat.le_of_ble_eq_true rfl)
  rw [lg_entry_eq]
  generalize (lg_sl ([.int 8]) ++ List.replicate (1 - (lg_sl ([.int 8])).length) Slot.unset).toArray = ls at hl ⊢
  replace hl : lv_has ls 1 [(0, .int 8)] := hl
  refine lv_iload_n hx hb dX3_numbersOf_0 rfl (lv_at hl 0 rfl) ?_
  refine lv_lookup (off := 37) (tgt := 38) hx hb dX3_numbersOf_1 (by decide) (by decide) (by decide) ?_
  refine lv_iconst (v := 2) hx hb dX3_numbersOf_38 (by decide) ?_
  exact W.iret (v := 2) hx hb hr (fun t ht hW => ⟨2, rfl, rfl, ht⟩) (fun q hq => by cases hq) dX3_numbersOf_39
set_option maxHeartbeats 4000000 in
set_option maxRecDepth 100000 in
theorem c_R_numbersOf_9 (l : Launch) (D : va_G) (cI cJ cZ cP cS : ClassId) (po : zPool)   : Met l yX3_numbersOf wsX3_numbersOf ({ frames := 0, cells := 0, slots := 0, locals := 0 }) (va_Pc [.int 9] (zR D (zKT cI cJ cZ cP cS) po [])) (vp_Si (fun r => r = 1)) 0 0 (fun _ => False) := by
  refine Met.ofW (cc := cX3_numbersOf) (maxL := 1) (ret := (some .int)) (by decide) rfl ?_
  intro p e s m args below meth c s₁ B hml hv
  obtain ⟨rfl, hP, hK, hN, hZ⟩ := hv
  have hx := B.exec
  have hb := B.bytes
  have hr := B.returns
  have hts := atoms_spec (ws := wsX3_numbersOf) B.pre
  have hown : s.vm.findClass RX3 = some m.cls := findClass_of_methodNamed B.named
  have hlocks := B.notSynchronized
  have hl := lv_entry ([.int 9]) (n := 1) (Nat.le_of_ble_eq_true rfl)
  rw [lg_entry_eq]
  generalize (lg_sl ([.int 9]) ++ List.replicate (1 - (lg_sl ([.int 9])).length) Slot.unset).toArray = ls at hl ⊢
  replace hl : lv_has ls 1 [(0, .int 9)] := hl
  refine lv_iload_n hx hb dX3_numbersOf_0 rfl (lv_at hl 0 rfl) ?_
  refine lv_lookup (off := 39) (tgt := 40) hx hb dX3_numbersOf_1 (by decide) (by decide) (by decide) ?_
  refine lv_iconst (v := 1) hx hb dX3_numbersOf_40 (by decide) ?_
  exact W.iret (v := 1) hx hb hr (fun t ht hW => ⟨1, rfl, rfl, ht⟩) (fun q hq => by cases hq) dX3_numbersOf_41
set_option maxHeartbeats 4000000 in
set_option maxRecDepth 100000 in
theorem c_R_leastOf_0_0 (l : Launch) (D : va_G) (cI cJ cZ cP cS : ClassId) (po : zPool)   : Met l yX3_leastOf wsX3_leastOf ({ frames := 0, cells := 0, slots := 0, locals := 0 }) (va_Pc [.int 0, .int 0] (zR D (zKT cI cJ cZ cP cS) po [])) (vp_Si (fun r => r = 4)) 0 0 (fun _ => False) := by
  refine Met.ofW (cc := cX3_leastOf) (maxL := 2) (ret := (some .int)) (by decide) rfl ?_
  intro p e s m args below meth c s₁ B hml hv
  obtain ⟨rfl, hP, hK, hN, hZ⟩ := hv
  have hx := B.exec
  have hb := B.bytes
  have hr := B.returns
  have hts := atoms_spec (ws := wsX3_leastOf) B.pre
  have hown : s.vm.findClass RX3 = some m.cls := findClass_of_methodNamed B.named
  have hlocks := B.notSynchronized
  have hl := lv_entry ([.int 0, .int 0]) (n := 2) (Nat.le_of_ble_eq_true rfl)
  rw [lg_entry_eq]
  generalize (lg_sl ([.int 0, .int 0]) ++ List.replicate (2 - (lg_sl ([.int 0, .int 0])).length) Slot.unset).toArray = ls at hl ⊢
  replace hl : lv_has ls 2 [(0, .int 0), (1, .int 0)] := hl
  refine lv_iload_n hx hb dX3_leastOf_0 rfl (lv_at hl 0 rfl) ?_
  refine lv_if_ne (tgt := 6) hx hb dX3_leastOf_1 (by decide) (fun c_1 => ?_) (fun c_1 => ?_)
  · exact absurd c_1 (by decide)
  · refine lv_iconst (v := 4) hx hb dX3_leastOf_4 (by decide) ?_
    exact W.iret (v := 4) hx hb hr (fun t ht hW => ⟨4, rfl, rfl, ht⟩) (fun q hq => by cases hq) dX3_leastOf_5
set_option maxHeartbeats 4000000 in
set_option maxRecDepth 100000 in
theorem c_R_mostOf_0_0 (l : Launch) (D : va_G) (cI cJ cZ cP cS : ClassId) (po : zPool) (rd ri rl : Nat) (rz rc rp rf rt ru : Int32) (hy0 : 0 ≤ rz.toInt) (hy1 : rz.toInt ≤ 160) (hy2 : 0 ≤ rc.toInt) (hy3 : rc.toInt ≤ 40) (hy4 : 0 ≤ rp.toInt) (hy5 : rp.toInt ≤ 160) (hy6 : rp.toInt ≤ rz.toInt) (hy7 : (-1) ≤ rf.toInt) (hy8 : rf.toInt ≤ 160) (hy9 : 0 ≤ rt.toInt) (hy10 : rt.toInt ≤ 40) (hy11 : 0 ≤ ru.toInt) (hy12 : ru.toInt ≤ 8) : Met l yX3_mostOf wsX3_mostOf ({ frames := 0, cells := 0, slots := 0, locals := 0 }) (va_Pc [.ref rd, .int 0, .int 0] (zR D (zKT cI cJ cZ cP cS) po [(rd, .inr (3, [.ref ri, .ref rl, .int rz, .int rc, .int rp, .int rf, .int rt, .int ru]))])) (vp_Si (fun r => r = 40)) 0 0 (fun _ => False) := by
  refine Met.ofW (cc := cX3_mostOf) (maxL := 3) (ret := (some .int)) (by decide) rfl ?_
  intro p e s m args below meth c s₁ B hml hv
  obtain ⟨rfl, hP, hK, hN, hZ⟩ := hv
  have hx := B.exec
  have hb := B.bytes
  have hr := B.returns
  have hts := atoms_spec (ws := wsX3_mostOf) B.pre
  have hown : s.vm.findClass RX3 = some m.cls := findClass_of_methodNamed B.named
  have hlocks := B.notSynchronized
  have hl := lv_entry ([.ref rd, .int 0, .int 0]) (n := 3) (Nat.le_of_ble_eq_true rfl)
  rw [lg_entry_eq]
  generalize (lg_sl ([.ref rd, .int 0, .int 0]) ++ List.replicate (3 - (lg_sl ([.ref rd, .int 0, .int 0])).length) Slot.unset).toArray = ls at hl ⊢
  replace hl : lv_has ls 3 [(0, .ref rd), (1, .int 0), (2, .int 0)] := hl
  refine lv_iload_n hx hb dX3_mostOf_0 rfl (lv_at hl 1 rfl) ?_
  refine lv_tableIn (tgt := 52) hx hb dX3_mostOf_1 (by decide) (by decide) rfl (by decide) ?_
  refine lv_bipush (v := 40) hx hb dX3_mostOf_52 (by decide) ?_
  exact W.iret (v := 40) hx hb hr (fun t ht hW => ⟨40, rfl, rfl, ht⟩) (fun q hq => by cases hq) dX3_mostOf_54
set_option maxHeartbeats 4000000 in
set_option maxRecDepth 100000 in
theorem c_R_leastOf_1_0 (l : Launch) (D : va_G) (cI cJ cZ cP cS : ClassId) (po : zPool)   : Met l yX3_leastOf wsX3_leastOf ({ frames := 0, cells := 0, slots := 0, locals := 0 }) (va_Pc [.int 1, .int 0] (zR D (zKT cI cJ cZ cP cS) po [])) (vp_Si (fun r => r = 0)) 0 0 (fun _ => False) := by
  refine Met.ofW (cc := cX3_leastOf) (maxL := 2) (ret := (some .int)) (by decide) rfl ?_
  intro p e s m args below meth c s₁ B hml hv
  obtain ⟨rfl, hP, hK, hN, hZ⟩ := hv
  have hx := B.exec
  have hb := B.bytes
  have hr := B.returns
  have hts := atoms_spec (ws := wsX3_leastOf) B.pre
  have hown : s.vm.findClass RX3 = some m.cls := findClass_of_methodNamed B.named
  have hlocks := B.notSynchronized
  have hl := lv_entry ([.int 1, .int 0]) (n := 2) (Nat.le_of_ble_eq_true rfl)
  rw [lg_entry_eq]
  generalize (lg_sl ([.int 1, .int 0]) ++ List.replicate (2 - (lg_sl ([.int 1, .int 0])).length) Slot.unset).toArray = ls at hl ⊢
  replace hl : lv_has ls 2 [(0, .int 1), (1, .int 0)] := hl
  refine lv_iload_n hx hb dX3_leastOf_0 rfl (lv_at hl 0 rfl) ?_
  refine lv_if_ne (tgt := 6) hx hb dX3_leastOf_1 (by decide) (fun c_1 => ?_) (fun c_1 => ?_)
  · refine lv_iload_n hx hb dX3_leastOf_6 rfl (lv_at hl 0 rfl) ?_
    refine lv_bipush (v := 7) hx hb dX3_leastOf_7 (by decide) ?_
    refine lv_icmp_eq (tgt := 22) hx hb dX3_leastOf_9 (by decide) (fun c_2 => ?_) (fun c_2 => ?_)
    · exact absurd c_2 (by decide)
    · refine lv_iload_n hx hb dX3_leastOf_12 rfl (lv_at hl 0 rfl) ?_
      refine lv_iconst (v := 3) hx hb dX3_leastOf_13 (by decide) ?_
      refine lv_icmp_ne (tgt := 26) hx hb dX3_leastOf_14 (by decide) (fun c_3 => ?_) (fun c_3 => ?_)
      · refine lv_iconst (v := 0) hx hb dX3_leastOf_26 (by decide) ?_
        exact W.iret (v := 0) hx hb hr (fun t ht hW => ⟨0, rfl, rfl, ht⟩) (fun q hq => by cases hq) dX3_leastOf_27
      · exact absurd c_3 (by decide)
  · exact absurd c_1 (by decide)
theorem gl_X3_mostOf_X30 : GoodIn wsX3_mostOf wsX30 := (dg_t (dg_t gw_wsX30))
theorem hi_X3_mostOf_3 : ∀ w ∈ u_ws RX3 TX3 8, w ∈ wsX3_mostOf := fun w h => (gl_X3_mostOf_X30 w h).1
set_option maxHeartbeats 4000000 in
set_option maxRecDepth 100000 in
theorem c_R_mostOf_1_0 (l : Launch) (D : va_G) (cI cJ cZ cP cS : ClassId) (po : zPool) (rd ri rl : Nat) (rz rc rp rf rt ru : Int32) (hy0 : 0 ≤ rz.toInt) (hy1 : rz.toInt ≤ 160) (hy2 : 0 ≤ rc.toInt) (hy3 : rc.toInt ≤ 40) (hy4 : 0 ≤ rp.toInt) (hy5 : rp.toInt ≤ 160) (hy6 : rp.toInt ≤ rz.toInt) (hy7 : (-1) ≤ rf.toInt) (hy8 : rf.toInt ≤ 160) (hy9 : 0 ≤ rt.toInt) (hy10 : rt.toInt ≤ 40) (hy11 : 0 ≤ ru.toInt) (hy12 : ru.toInt ≤ 8) : Met l yX3_mostOf wsX3_mostOf ({ frames := 0, cells := 0, slots := 0, locals := 0 }) (va_Pc [.ref rd, .int 1, .int 0] (zR D (zKT cI cJ cZ cP cS) po [(rd, .inr (3, [.ref ri, .ref rl, .int rz, .int rc, .int rp, .int rf, .int rt, .int ru]))])) (vp_Si (fun r => -1 ≤ r.toInt ∧ r.toInt ≤ 39 ∧ (r.toInt = rt.toInt - 1))) 0 0 (fun _ => False) := by
  refine Met.ofW (cc := cX3_mostOf) (maxL := 3) (ret := (some .int)) (by decide) rfl ?_
  intro p e s m args below meth c s₁ B hml hv
  obtain ⟨rfl, hP, hK, hN, hZ⟩ := hv
  have hx := B.exec
  have hb := B.bytes
  have hr := B.returns
  have hts := atoms_spec (ws := wsX3_mostOf) B.pre
  have hown : s.vm.findClass RX3 = some m.cls := findClass_of_methodNamed B.named
  have hlocks := B.notSynchronized
  have hl := lv_entry ([.ref rd, .int 1, .int 0]) (n := 3) (Nat.le_of_ble_eq_true rfl)
  rw [lg_entry_eq]
  generalize (lg_sl ([.ref rd, .int 1, .int 0]) ++ List.replicate (3 - (lg_sl ([.ref rd, .int 1, .int 0])).length) Slot.unset).toArray = ls at hl ⊢
  replace hl : lv_has ls 3 [(0, .ref rd), (1, .int 1), (2, .int 0)] := hl
  refine lv_iload_n hx hb dX3_mostOf_0 rfl (lv_at hl 1 rfl) ?_
  refine lv_tableIn (tgt := 55) hx hb dX3_mostOf_1 (by decide) (by decide) rfl (by decide) ?_
  refine lv_aload_n hx hb dX3_mostOf_55 rfl (lv_at hl 0 rfl) ?_
  refine va_get (D := D) (ci := 3) (v := .int rt) (C := RX3) (T := TX3) (N := 8) hx hb hts hi_X3_mostOf_3 hown hK hP 0 rfl rfl 6 (by decide) (hts (.fieldLink RX3 31 "TheLiningsInIt$Reader" "teeth" "I") (List.mem_of_getElem? (i := 1) rfl)) (fun _ h9 => h9) rfl dX3_mostOf_56 ?_
  refine lv_iconst (v := 1) hx hb dX3_mostOf_59 (by decide) ?_
  refine lv_isub hx hb dX3_mostOf_60 ?_
  refine lv_topi (fun x_1 ex_1 => ?_)
  have qx_1 : x_1.toInt = rt.toInt - 1 := by rw [ex_1]; exact zf_sub rfl (by decide) (by omega) (by omega)
  exact W.iret (v := x_1) hx hb hr (fun t ht hW => ⟨x_1, rfl, ⟨by omega, by omega, (show (x_1 : Int32).toInt = rt.toInt - 1 from by omega)⟩, ht⟩) (fun q hq => by cases hq) dX3_mostOf_61
set_option maxHeartbeats 4000000 in
set_option maxRecDepth 100000 in
theorem c_R_leastOf_2_0 (l : Launch) (D : va_G) (cI cJ cZ cP cS : ClassId) (po : zPool)   : Met l yX3_leastOf wsX3_leastOf ({ frames := 0, cells := 0, slots := 0, locals := 0 }) (va_Pc [.int 2, .int 0] (zR D (zKT cI cJ cZ cP cS) po [])) (vp_Si (fun r => r = 0)) 0 0 (fun _ => False) := by
  refine Met.ofW (cc := cX3_leastOf) (maxL := 2) (ret := (some .int)) (by decide) rfl ?_
  intro p e s m args below meth c s₁ B hml hv
  obtain ⟨rfl, hP, hK, hN, hZ⟩ := hv
  have hx := B.exec
  have hb := B.bytes
  have hr := B.returns
  have hts := atoms_spec (ws := wsX3_leastOf) B.pre
  have hown : s.vm.findClass RX3 = some m.cls := findClass_of_methodNamed B.named
  have hlocks := B.notSynchronized
  have hl := lv_entry ([.int 2, .int 0]) (n := 2) (Nat.le_of_ble_eq_true rfl)
  rw [lg_entry_eq]
  generalize (lg_sl ([.int 2, .int 0]) ++ List.replicate (2 - (lg_sl ([.int 2, .int 0])).length) Slot.unset).toArray = ls at hl ⊢
  replace hl : lv_has ls 2 [(0, .int 2), (1, .int 0)] := hl
  refine lv_iload_n hx hb dX3_leastOf_0 rfl (lv_at hl 0 rfl) ?_
  refine lv_if_ne (tgt := 6) hx hb dX3_leastOf_1 (by decide) (fun c_1 => ?_) (fun c_1 => ?_)
  · refine lv_iload_n hx hb dX3_leastOf_6 rfl (lv_at hl 0 rfl) ?_
    refine lv_bipush (v := 7) hx hb dX3_leastOf_7 (by decide) ?_
    refine lv_icmp_eq (tgt := 22) hx hb dX3_leastOf_9 (by decide) (fun c_2 => ?_) (fun c_2 => ?_)
    · exact absurd c_2 (by decide)
    · refine lv_iload_n hx hb dX3_leastOf_12 rfl (lv_at hl 0 rfl) ?_
      refine lv_iconst (v := 3) hx hb dX3_leastOf_13 (by decide) ?_
      refine lv_icmp_ne (tgt := 26) hx hb dX3_leastOf_14 (by decide) (fun c_3 => ?_) (fun c_3 => ?_)
      · refine lv_iconst (v := 0) hx hb dX3_leastOf_26 (by decide) ?_
        exact W.iret (v := 0) hx hb hr (fun t ht hW => ⟨0, rfl, rfl, ht⟩) (fun q hq => by cases hq) dX3_leastOf_27
      · exact absurd c_3 (by decide)
  · exact absurd c_1 (by decide)
set_option maxHeartbeats 4000000 in
set_option maxRecDepth 100000 in
theorem c_R_mostOf_2_0 (l : Launch) (D : va_G) (cI cJ cZ cP cS : ClassId) (po : zPool) (rd ri rl : Nat) (rz rc rp rf rt ru : Int32) (hy0 : 0 ≤ rz.toInt) (hy1 : rz.toInt ≤ 160) (hy2 : 0 ≤ rc.toInt) (hy3 : rc.toInt ≤ 40) (hy4 : 0 ≤ rp.toInt) (hy5 : rp.toInt ≤ 160) (hy6 : rp.toInt ≤ rz.toInt) (hy7 : (-1) ≤ rf.toInt) (hy8 : rf.toInt ≤ 160) (hy9 : 0 ≤ rt.toInt) (hy10 : rt.toInt ≤ 40) (hy11 : 0 ≤ ru.toInt) (hy12 : ru.toInt ≤ 8) : Met l yX3_mostOf wsX3_mostOf ({ frames := 0, cells := 0, slots := 0, locals := 0 }) (va_Pc [.ref rd, .int 2, .int 0] (zR D (zKT cI cJ cZ cP cS) po [(rd, .inr (3, [.ref ri, .ref rl, .int rz, .int rc, .int rp, .int rf, .int rt, .int ru]))])) (vp_Si (fun r => -1 ≤ r.toInt ∧ r.toInt ≤ 39 ∧ (r.toInt = rt.toInt - 1))) 0 0 (fun _ => False) := by
  refine Met.ofW (cc := cX3_mostOf) (maxL := 3) (ret := (some .int)) (by decide) rfl ?_
  intro p e s m args below meth c s₁ B hml hv
  obtain ⟨rfl, hP, hK, hN, hZ⟩ := hv
  have hx := B.exec
  have hb := B.bytes
  have hr := B.returns
  have hts := atoms_spec (ws := wsX3_mostOf) B.pre
  have hown : s.vm.findClass RX3 = some m.cls := findClass_of_methodNamed B.named
  have hlocks := B.notSynchronized
  have hl := lv_entry ([.ref rd, .int 2, .int 0]) (n := 3) (Nat.le_of_ble_eq_true rfl)
  rw [lg_entry_eq]
  generalize (lg_sl ([.ref rd, .int 2, .int 0]) ++ List.replicate (3 - (lg_sl ([.ref rd, .int 2, .int 0])).length) Slot.unset).toArray = ls at hl ⊢
  replace hl : lv_has ls 3 [(0, .ref rd), (1, .int 2), (2, .int 0)] := hl
  refine lv_iload_n hx hb dX3_mostOf_0 rfl (lv_at hl 1 rfl) ?_
  refine lv_tableIn (tgt := 62) hx hb dX3_mostOf_1 (by decide) (by decide) rfl (by decide) ?_
  refine lv_iload_n hx hb dX3_mostOf_62 rfl (lv_at hl 2 rfl) ?_
  refine lv_if_ne (tgt := 75) hx hb dX3_mostOf_63 (by decide) (fun c_1 => ?_) (fun c_1 => ?_)
  · exact absurd c_1 (by decide)
  · refine lv_aload_n hx hb dX3_mostOf_66 rfl (lv_at hl 0 rfl) ?_
    refine va_get (D := D) (ci := 3) (v := .int rt) (C := RX3) (T := TX3) (N := 8) hx hb hts hi_X3_mostOf_3 hown hK hP 0 rfl rfl 6 (by decide) (hts (.fieldLink RX3 31 "TheLiningsInIt$Reader" "teeth" "I") (List.mem_of_getElem? (i := 1) rfl)) (fun _ h9 => h9) rfl dX3_mostOf_67 ?_
    refine lv_iconst (v := 1) hx hb dX3_mostOf_70 (by decide) ?_
    refine lv_isub hx hb dX3_mostOf_71 ?_
    refine lv_topi (fun x_2 ex_2 => ?_)
    have qx_2 : x_2.toInt = rt.toInt - 1 := by rw [ex_2]; exact zf_sub rfl (by decide) (by omega) (by omega)
    refine lv_goto (tgt := 77) hx hb dX3_mostOf_72 (by decide) ?_
    exact W.iret (v := x_2) hx hb hr (fun t ht hW => ⟨x_2, rfl, ⟨by omega, by omega, (show (x_2 : Int32).toInt = rt.toInt - 1 from by omega)⟩, ht⟩) (fun q hq => by cases hq) dX3_mostOf_77
set_option maxHeartbeats 4000000 in
set_option maxRecDepth 100000 in
theorem c_R_leastOf_2_1 (l : Launch) (D : va_G) (cI cJ cZ cP cS : ClassId) (po : zPool)   : Met l yX3_leastOf wsX3_leastOf ({ frames := 0, cells := 0, slots := 0, locals := 0 }) (va_Pc [.int 2, .int 1] (zR D (zKT cI cJ cZ cP cS) po [])) (vp_Si (fun r => r = 0)) 0 0 (fun _ => False) := by
  refine Met.ofW (cc := cX3_leastOf) (maxL := 2) (ret := (some .int)) (by decide) rfl ?_
  intro p e s m args below meth c s₁ B hml hv
  obtain ⟨rfl, hP, hK, hN, hZ⟩ := hv
  have hx := B.exec
  have hb := B.bytes
  have hr := B.returns
  have hts := atoms_spec (ws := wsX3_leastOf) B.pre
  have hown : s.vm.findClass RX3 = some m.cls := findClass_of_methodNamed B.named
  have hlocks := B.notSynchronized
  have hl := lv_entry ([.int 2, .int 1]) (n := 2) (Nat.le_of_ble_eq_true rfl)
  rw [lg_entry_eq]
  generalize (lg_sl ([.int 2, .int 1]) ++ List.replicate (2 - (lg_sl ([.int 2, .int 1])).length) Slot.unset).toArray = ls at hl ⊢
  replace hl : lv_has ls 2 [(0, .int 2), (1, .int 1)] := hl
  refine lv_iload_n hx hb dX3_leastOf_0 rfl (lv_at hl 0 rfl) ?_
  refine lv_if_ne (tgt := 6) hx hb dX3_leastOf_1 (by decide) (fun c_1 => ?_) (fun c_1 => ?_)
  · refine lv_iload_n hx hb dX3_leastOf_6 rfl (lv_at hl 0 rfl) ?_
    refine lv_bipush (v := 7) hx hb dX3_leastOf_7 (by decide) ?_
    refine lv_icmp_eq (tgt := 22) hx hb dX3_leastOf_9 (by decide) (fun c_2 => ?_) (fun c_2 => ?_)
    · exact absurd c_2 (by decide)
    · refine lv_iload_n hx hb dX3_leastOf_12 rfl (lv_at hl 0 rfl) ?_
      refine lv_iconst (v := 3) hx hb dX3_leastOf_13 (by decide) ?_
      refine lv_icmp_ne (tgt := 26) hx hb dX3_leastOf_14 (by decide) (fun c_3 => ?_) (fun c_3 => ?_)
      · refine lv_iconst (v := 0) hx hb dX3_leastOf_26 (by decide) ?_
        exact W.iret (v := 0) hx hb hr (fun t ht hW => ⟨0, rfl, rfl, ht⟩) (fun q hq => by cases hq) dX3_leastOf_27
      · exact absurd c_3 (by decide)
  · exact absurd c_1 (by decide)
set_option maxHeartbeats 4000000 in
set_option maxRecDepth 100000 in
theorem c_R_mostOf_2_1 (l : Launch) (D : va_G) (cI cJ cZ cP cS : ClassId) (po : zPool) (rd ri rl : Nat) (rz rc rp rf rt ru : Int32) (hy0 : 0 ≤ rz.toInt) (hy1 : rz.toInt ≤ 160) (hy2 : 0 ≤ rc.toInt) (hy3 : rc.toInt ≤ 40) (hy4 : 0 ≤ rp.toInt) (hy5 : rp.toInt ≤ 160) (hy6 : rp.toInt ≤ rz.toInt) (hy7 : (-1) ≤ rf.toInt) (hy8 : rf.toInt ≤ 160) (hy9 : 0 ≤ rt.toInt) (hy10 : rt.toInt ≤ 40) (hy11 : 0 ≤ ru.toInt) (hy12 : ru.toInt ≤ 8) : Met l yX3_mostOf wsX3_mostOf ({ frames := 0, cells := 0, slots := 0, locals := 0 }) (va_Pc [.ref rd, .int 2, .int 1] (zR D (zKT cI cJ cZ cP cS) po [(rd, .inr (3, [.ref ri, .ref rl, .int rz, .int rc, .int rp, .int rf, .int rt, .int ru]))])) (vp_Si (fun r => r = 9)) 0 0 (fun _ => False) := by
  refine Met.ofW (cc := cX3_mostOf) (maxL := 3) (ret := (some .int)) (by decide) rfl ?_
  intro p e s m args below meth c s₁ B hml hv
  obtain ⟨rfl, hP, hK, hN, hZ⟩ := hv
  have hx := B.exec
  have hb := B.bytes
  have hr := B.returns
  have hts := atoms_spec (ws := wsX3_mostOf) B.pre
  have hown : s.vm.findClass RX3 = some m.cls := findClass_of_methodNamed B.named
  have hlocks := B.notSynchronized
  have hl := lv_entry ([.ref rd, .int 2, .int 1]) (n := 3) (Nat.le_of_ble_eq_true rfl)
  rw [lg_entry_eq]
  generalize (lg_sl ([.ref rd, .int 2, .int 1]) ++ List.replicate (3 - (lg_sl ([.ref rd, .int 2, .int 1])).length) Slot.unset).toArray = ls at hl ⊢
  replace hl : lv_has ls 3 [(0, .ref rd), (1, .int 2), (2, .int 1)] := hl
  refine lv_iload_n hx hb dX3_mostOf_0 rfl (lv_at hl 1 rfl) ?_
  refine lv_tableIn (tgt := 62) hx hb dX3_mostOf_1 (by decide) (by decide) rfl (by decide) ?_
  refine lv_iload_n hx hb dX3_mostOf_62 rfl (lv_at hl 2 rfl) ?_
  refine lv_if_ne (tgt := 75) hx hb dX3_mostOf_63 (by decide) (fun c_1 => ?_) (fun c_1 => ?_)
  · refine lv_bipush (v := 9) hx hb dX3_mostOf_75 (by decide) ?_
    exact W.iret (v := 9) hx hb hr (fun t ht hW => ⟨9, rfl, rfl, ht⟩) (fun q hq => by cases hq) dX3_mostOf_77
  · exact absurd c_1 (by decide)
set_option maxHeartbeats 4000000 in
set_option maxRecDepth 100000 in
theorem c_R_leastOf_3_0 (l : Launch) (D : va_G) (cI cJ cZ cP cS : ClassId) (po : zPool)   : Met l yX3_leastOf wsX3_leastOf ({ frames := 0, cells := 0, slots := 0, locals := 0 }) (va_Pc [.int 3, .int 0] (zR D (zKT cI cJ cZ cP cS) po [])) (vp_Si (fun r => r = 0)) 0 0 (fun _ => False) := by
  refine Met.ofW (cc := cX3_leastOf) (maxL := 2) (ret := (some .int)) (by decide) rfl ?_
  intro p e s m args below meth c s₁ B hml hv
  obtain ⟨rfl, hP, hK, hN, hZ⟩ := hv
  have hx := B.exec
  have hb := B.bytes
  have hr := B.returns
  have hts := atoms_spec (ws := wsX3_leastOf) B.pre
  have hown : s.vm.findClass RX3 = some m.cls := findClass_of_methodNamed B.named
  have hlocks := B.notSynchronized
  have hl := lv_entry ([.int 3, .int 0]) (n := 2) (Nat.le_of_ble_eq_true rfl)
  rw [lg_entry_eq]
  generalize (lg_sl ([.int 3, .int 0]) ++ List.replicate (2 - (lg_sl ([.int 3, .int 0])).length) Slot.unset).toArray = ls at hl ⊢
  replace hl : lv_has ls 2 [(0, .int 3), (1, .int 0)] := hl
  refine lv_iload_n hx hb dX3_leastOf_0 rfl (lv_at hl 0 rfl) ?_
  refine lv_if_ne (tgt := 6) hx hb dX3_leastOf_1 (by decide) (fun c_1 => ?_) (fun c_1 => ?_)
  · refine lv_iload_n hx hb dX3_leastOf_6 rfl (lv_at hl 0 rfl) ?_
    refine lv_bipush (v := 7) hx hb dX3_leastOf_7 (by decide) ?_
    refine lv_icmp_eq (tgt := 22) hx hb dX3_leastOf_9 (by decide) (fun c_2 => ?_) (fun c_2 => ?_)
    · exact absurd c_2 (by decide)
    · refine lv_iload_n hx hb dX3_leastOf_12 rfl (lv_at hl 0 rfl) ?_
      refine lv_iconst (v := 3) hx hb dX3_leastOf_13 (by decide) ?_
      refine lv_icmp_ne (tgt := 26) hx hb dX3_leastOf_14 (by decide) (fun c_3 => ?_) (fun c_3 => ?_)
      · exact absurd c_3 (by decide)
      · refine lv_iload_n hx hb dX3_leastOf_17 rfl (lv_at hl 1 rfl) ?_
        refine lv_iconst (v := 2) hx hb dX3_leastOf_18 (by decide) ?_
        refine lv_icmp_ne (tgt := 26) hx hb dX3_leastOf_19 (by decide) (fun c_4 => ?_) (fun c_4 => ?_)
        · refine lv_iconst (v := 0) hx hb dX3_leastOf_26 (by decide) ?_
          exact W.iret (v := 0) hx hb hr (fun t ht hW => ⟨0, rfl, rfl, ht⟩) (fun q hq => by cases hq) dX3_leastOf_27
        · exact absurd c_4 (by decide)
  · exact absurd c_1 (by decide)
set_option maxHeartbeats 4000000 in
set_option maxRecDepth 100000 in
theorem c_R_mostOf_3_0 (l : Launch) (D : va_G) (cI cJ cZ cP cS : ClassId) (po : zPool) (rd ri rl : Nat) (rz rc rp rf rt ru : Int32) (hy0 : 0 ≤ rz.toInt) (hy1 : rz.toInt ≤ 160) (hy2 : 0 ≤ rc.toInt) (hy3 : rc.toInt ≤ 40) (hy4 : 0 ≤ rp.toInt) (hy5 : rp.toInt ≤ 160) (hy6 : rp.toInt ≤ rz.toInt) (hy7 : (-1) ≤ rf.toInt) (hy8 : rf.toInt ≤ 160) (hy9 : 0 ≤ rt.toInt) (hy10 : rt.toInt ≤ 40) (hy11 : 0 ≤ ru.toInt) (hy12 : ru.toInt ≤ 8) : Met l yX3_mostOf wsX3_mostOf ({ frames := 0, cells := 0, slots := 0, locals := 0 }) (va_Pc [.ref rd, .int 3, .int 0] (zR D (zKT cI cJ cZ cP cS) po [(rd, .inr (3, [.ref ri, .ref rl, .int rz, .int rc, .int rp, .int rf, .int rt, .int ru]))])) (vp_Si (fun r => r = 6)) 0 0 (fun _ => False) := by
  refine Met.ofW (cc := cX3_mostOf) (maxL := 3) (ret := (some .int)) (by decide) rfl ?_
  intro p e s m args below meth c s₁ B hml hv
  obtain ⟨rfl, hP, hK, hN, hZ⟩ := hv
  have hx := B.exec
  have hb := B.bytes
  have hr := B.returns
  have hts := atoms_spec (ws := wsX3_mostOf) B.pre
  have hown : s.vm.findClass RX3 = some m.cls := findClass_of_methodNamed B.named
  have hlocks := B.notSynchronized
  have hl := lv_entry ([.ref rd, .int 3, .int 0]) (n := 3) (Nat.le_of_ble_eq_true rfl)
  rw [lg_entry_eq]
  generalize (lg_sl ([.ref rd, .int 3, .int 0]) ++ List.replicate (3 - (lg_sl ([.ref rd, .int 3, .int 0])).length) Slot.unset).toArray = ls at hl ⊢
  replace hl : lv_has ls 3 [(0, .ref rd), (1, .int 3), (2, .int 0)] := hl
  refine lv_iload_n hx hb dX3_mostOf_0 rfl (lv_at hl 1 rfl) ?_
  refine lv_tableIn (tgt := 78) hx hb dX3_mostOf_1 (by decide) (by decide) rfl (by decide) ?_
  refine lv_iload_n hx hb dX3_mostOf_78 rfl (lv_at hl 2 rfl) ?_
  refine lv_if_ne (tgt := 87) hx hb dX3_mostOf_79 (by decide) (fun c_1 => ?_) (fun c_1 => ?_)
  · exact absurd c_1 (by decide)
  · refine lv_bipush (v := 6) hx hb dX3_mostOf_82 (by decide) ?_
    refine lv_goto (tgt := 99) hx hb dX3_mostOf_84 (by decide) ?_
    exact W.iret (v := 6) hx hb hr (fun t ht hW => ⟨6, rfl, rfl, ht⟩) (fun q hq => by cases hq) dX3_mostOf_99
set_option maxHeartbeats 4000000 in
set_option maxRecDepth 100000 in
theorem c_R_leastOf_3_1 (l : Launch) (D : va_G) (cI cJ cZ cP cS : ClassId) (po : zPool)   : Met l yX3_leastOf wsX3_leastOf ({ frames := 0, cells := 0, slots := 0, locals := 0 }) (va_Pc [.int 3, .int 1] (zR D (zKT cI cJ cZ cP cS) po [])) (vp_Si (fun r => r = 0)) 0 0 (fun _ => False) := by
  refine Met.ofW (cc := cX3_leastOf) (maxL := 2) (ret := (some .int)) (by decide) rfl ?_
  intro p e s m args below meth c s₁ B hml hv
  obtain ⟨rfl, hP, hK, hN, hZ⟩ := hv
  have hx := B.exec
  have hb := B.bytes
  have hr := B.returns
  have hts := atoms_spec (ws := wsX3_leastOf) B.pre
  have hown : s.vm.findClass RX3 = some m.cls := findClass_of_methodNamed B.named
  have hlocks := B.notSynchronized
  have hl := lv_entry ([.int 3, .int 1]) (n := 2) (Nat.le_of_ble_eq_true rfl)
  rw [lg_entry_eq]
  generalize (lg_sl ([.int 3, .int 1]) ++ List.replicate (2 - (lg_sl ([.int 3, .int 1])).length) Slot.unset).toArray = ls at hl ⊢
  replace hl : lv_has ls 2 [(0, .int 3), (1, .int 1)] := hl
  refine lv_iload_n hx hb dX3_leastOf_0 rfl (lv_at hl 0 rfl) ?_
  refine lv_if_ne (tgt := 6) hx hb dX3_leastOf_1 (by decide) (fun c_1 => ?_) (fun c_1 => ?_)
  · refine lv_iload_n hx hb dX3_leastOf_6 rfl (lv_at hl 0 rfl) ?_
    refine lv_bipush (v := 7) hx hb dX3_leastOf_7 (by decide) ?_
    refine lv_icmp_eq (tgt := 22) hx hb dX3_leastOf_9 (by decide) (fun c_2 => ?_) (fun c_2 => ?_)
    · exact absurd c_2 (by decide)
    · refine lv_iload_n hx hb dX3_leastOf_12 rfl (lv_at hl 0 rfl) ?_
      refine lv_iconst (v := 3) hx hb dX3_leastOf_13 (by decide) ?_
      refine lv_icmp_ne (tgt := 26) hx hb dX3_leastOf_14 (by decide) (fun c_3 => ?_) (fun c_3 => ?_)
      · exact absurd c_3 (by decide)
      · refine lv_iload_n hx hb dX3_leastOf_17 rfl (lv_at hl 1 rfl) ?_
        refine lv_iconst (v := 2) hx hb dX3_leastOf_18 (by decide) ?_
        refine lv_icmp_ne (tgt := 26) hx hb dX3_leastOf_19 (by decide) (fun c_4 => ?_) (fun c_4 => ?_)
        · refine lv_iconst (v := 0) hx hb dX3_leastOf_26 (by decide) ?_
          exact W.iret (v := 0) hx hb hr (fun t ht hW => ⟨0, rfl, rfl, ht⟩) (fun q hq => by cases hq) dX3_leastOf_27
        · exact absurd c_4 (by decide)
  · exact absurd c_1 (by decide)
set_option maxHeartbeats 4000000 in
set_option maxRecDepth 100000 in
theorem c_R_mostOf_3_1 (l : Launch) (D : va_G) (cI cJ cZ cP cS : ClassId) (po : zPool) (rd ri rl : Nat) (rz rc rp rf rt ru : Int32) (hy0 : 0 ≤ rz.toInt) (hy1 : rz.toInt ≤ 160) (hy2 : 0 ≤ rc.toInt) (hy3 : rc.toInt ≤ 40) (hy4 : 0 ≤ rp.toInt) (hy5 : rp.toInt ≤ 160) (hy6 : rp.toInt ≤ rz.toInt) (hy7 : (-1) ≤ rf.toInt) (hy8 : rf.toInt ≤ 160) (hy9 : 0 ≤ rt.toInt) (hy10 : rt.toInt ≤ 40) (hy11 : 0 ≤ ru.toInt) (hy12 : ru.toInt ≤ 8) : Met l yX3_mostOf wsX3_mostOf ({ frames := 0, cells := 0, slots := 0, locals := 0 }) (va_Pc [.ref rd, .int 3, .int 1] (zR D (zKT cI cJ cZ cP cS) po [(rd, .inr (3, [.ref ri, .ref rl, .int rz, .int rc, .int rp, .int rf, .int rt, .int ru]))])) (vp_Si (fun r => r = 9)) 0 0 (fun _ => False) := by
  refine Met.ofW (cc := cX3_mostOf) (maxL := 3) (ret := (some .int)) (by decide) rfl ?_
  intro p e s m args below meth c s₁ B hml hv
  obtain ⟨rfl, hP, hK, hN, hZ⟩ := hv
  have hx := B.exec
  have hb := B.bytes
  have hr := B.returns
  have hts := atoms_spec (ws := wsX3_mostOf) B.pre
  have hown : s.vm.findClass RX3 = some m.cls := findClass_of_methodNamed B.named
  have hlocks := B.notSynchronized
  have hl := lv_entry ([.ref rd, .int 3, .int 1]) (n := 3) (Nat.le_of_ble_eq_true rfl)
  rw [lg_entry_eq]
  generalize (lg_sl ([.ref rd, .int 3, .int 1]) ++ List.replicate (3 - (lg_sl ([.ref rd, .int 3, .int 1])).length) Slot.unset).toArray = ls at hl ⊢
  replace hl : lv_has ls 3 [(0, .ref rd), (1, .int 3), (2, .int 1)] := hl
  refine lv_iload_n hx hb dX3_mostOf_0 rfl (lv_at hl 1 rfl) ?_
  refine lv_tableIn (tgt := 78) hx hb dX3_mostOf_1 (by decide) (by decide) rfl (by decide) ?_
  refine lv_iload_n hx hb dX3_mostOf_78 rfl (lv_at hl 2 rfl) ?_
  refine lv_if_ne (tgt := 87) hx hb dX3_mostOf_79 (by decide) (fun c_1 => ?_) (fun c_1 => ?_)
  · refine lv_iload_n hx hb dX3_mostOf_87 rfl (lv_at hl 2 rfl) ?_
    refine lv_iconst (v := 1) hx hb dX3_mostOf_88 (by decide) ?_
    refine lv_icmp_ne (tgt := 97) hx hb dX3_mostOf_89 (by decide) (fun c_2 => ?_) (fun c_2 => ?_)
    · exact absurd c_2 (by decide)
    · refine lv_bipush (v := 9) hx hb dX3_mostOf_92 (by decide) ?_
      refine lv_goto (tgt := 99) hx hb dX3_mostOf_94 (by decide) ?_
      exact W.iret (v := 9) hx hb hr (fun t ht hW => ⟨9, rfl, rfl, ht⟩) (fun q hq => by cases hq) dX3_mostOf_99
  · exact absurd c_1 (by decide)
set_option maxHeartbeats 4000000 in
set_option maxRecDepth 100000 in
theorem c_R_leastOf_3_2 (l : Launch) (D : va_G) (cI cJ cZ cP cS : ClassId) (po : zPool)   : Met l yX3_leastOf wsX3_leastOf ({ frames := 0, cells := 0, slots := 0, locals := 0 }) (va_Pc [.int 3, .int 2] (zR D (zKT cI cJ cZ cP cS) po [])) (vp_Si (fun r => r = 1)) 0 0 (fun _ => False) := by
  refine Met.ofW (cc := cX3_leastOf) (maxL := 2) (ret := (some .int)) (by decide) rfl ?_
  intro p e s m args below meth c s₁ B hml hv
  obtain ⟨rfl, hP, hK, hN, hZ⟩ := hv
  have hx := B.exec
  have hb := B.bytes
  have hr := B.returns
  have hts := atoms_spec (ws := wsX3_leastOf) B.pre
  have hown : s.vm.findClass RX3 = some m.cls := findClass_of_methodNamed B.named
  have hlocks := B.notSynchronized
  have hl := lv_entry ([.int 3, .int 2]) (n := 2) (Nat.le_of_ble_eq_true rfl)
  rw [lg_entry_eq]
  generalize (lg_sl ([.int 3, .int 2]) ++ List.replicate (2 - (lg_sl ([.int 3, .int 2])).length) Slot.unset).toArray = ls at hl ⊢
  replace hl : lv_has ls 2 [(0, .int 3), (1, .int 2)] := hl
  refine lv_iload_n hx hb dX3_leastOf_0 rfl (lv_at hl 0 rfl) ?_
  refine lv_if_ne (tgt := 6) hx hb dX3_leastOf_1 (by decide) (fun c_1 => ?_) (fun c_1 => ?_)
  · refine lv_iload_n hx hb dX3_leastOf_6 rfl (lv_at hl 0 rfl) ?_
    refine lv_bipush (v := 7) hx hb dX3_leastOf_7 (by decide) ?_
    refine lv_icmp_eq (tgt := 22) hx hb dX3_leastOf_9 (by decide) (fun c_2 => ?_) (fun c_2 => ?_)
    · exact absurd c_2 (by decide)
    · refine lv_iload_n hx hb dX3_leastOf_12 rfl (lv_at hl 0 rfl) ?_
      refine lv_iconst (v := 3) hx hb dX3_leastOf_13 (by decide) ?_
      refine lv_icmp_ne (tgt := 26) hx hb dX3_leastOf_14 (by decide) (fun c_3 => ?_) (fun c_3 => ?_)
      · exact absurd c_3 (by decide)
      · refine lv_iload_n hx hb dX3_leastOf_17 rfl (lv_at hl 1 rfl) ?_
        refine lv_iconst (v := 2) hx hb dX3_leastOf_18 (by decide) ?_
        refine lv_icmp_ne (tgt := 26) hx hb dX3_leastOf_19 (by decide) (fun c_4 => ?_) (fun c_4 => ?_)
        · exact absurd c_4 (by decide)
        · refine lv_iconst (v := 1) hx hb dX3_leastOf_22 (by decide) ?_
          refine lv_goto (tgt := 27) hx hb dX3_leastOf_23 (by decide) ?_
          exact W.iret (v := 1) hx hb hr (fun t ht hW => ⟨1, rfl, rfl, ht⟩) (fun q hq => by cases hq) dX3_leastOf_27
  · exact absurd c_1 (by decide)
set_option maxHeartbeats 4000000 in
set_option maxRecDepth 100000 in
theorem c_R_mostOf_3_2 (l : Launch) (D : va_G) (cI cJ cZ cP cS : ClassId) (po : zPool) (rd ri rl : Nat) (rz rc rp rf rt ru : Int32) (hy0 : 0 ≤ rz.toInt) (hy1 : rz.toInt ≤ 160) (hy2 : 0 ≤ rc.toInt) (hy3 : rc.toInt ≤ 40) (hy4 : 0 ≤ rp.toInt) (hy5 : rp.toInt ≤ 160) (hy6 : rp.toInt ≤ rz.toInt) (hy7 : (-1) ≤ rf.toInt) (hy8 : rf.toInt ≤ 160) (hy9 : 0 ≤ rt.toInt) (hy10 : rt.toInt ≤ 40) (hy11 : 0 ≤ ru.toInt) (hy12 : ru.toInt ≤ 8) : Met l yX3_mostOf wsX3_mostOf ({ frames := 0, cells := 0, slots := 0, locals := 0 }) (va_Pc [.ref rd, .int 3, .int 2] (zR D (zKT cI cJ cZ cP cS) po [(rd, .inr (3, [.ref ri, .ref rl, .int rz, .int rc, .int rp, .int rf, .int rt, .int ru]))])) (vp_Si (fun r => r = 60)) 0 0 (fun _ => False) := by
  refine Met.ofW (cc := cX3_mostOf) (maxL := 3) (ret := (some .int)) (by decide) rfl ?_
  intro p e s m args below meth c s₁ B hml hv
  obtain ⟨rfl, hP, hK, hN, hZ⟩ := hv
  have hx := B.exec
  have hb := B.bytes
  have hr := B.returns
  have hts := atoms_spec (ws := wsX3_mostOf) B.pre
  have hown : s.vm.findClass RX3 = some m.cls := findClass_of_methodNamed B.named
  have hlocks := B.notSynchronized
  have hl := lv_entry ([.ref rd, .int 3, .int 2]) (n := 3) (Nat.le_of_ble_eq_true rfl)
  rw [lg_entry_eq]
  generalize (lg_sl ([.ref rd, .int 3, .int 2]) ++ List.replicate (3 - (lg_sl ([.ref rd, .int 3, .int 2])).length) Slot.unset).toArray = ls at hl ⊢
  replace hl : lv_has ls 3 [(0, .ref rd), (1, .int 3), (2, .int 2)] := hl
  refine lv_iload_n hx hb dX3_mostOf_0 rfl (lv_at hl 1 rfl) ?_
  refine lv_tableIn (tgt := 78) hx hb dX3_mostOf_1 (by decide) (by decide) rfl (by decide) ?_
  refine lv_iload_n hx hb dX3_mostOf_78 rfl (lv_at hl 2 rfl) ?_
  refine lv_if_ne (tgt := 87) hx hb dX3_mostOf_79 (by decide) (fun c_1 => ?_) (fun c_1 => ?_)
  · refine lv_iload_n hx hb dX3_mostOf_87 rfl (lv_at hl 2 rfl) ?_
    refine lv_iconst (v := 1) hx hb dX3_mostOf_88 (by decide) ?_
    refine lv_icmp_ne (tgt := 97) hx hb dX3_mostOf_89 (by decide) (fun c_2 => ?_) (fun c_2 => ?_)
    · refine lv_bipush (v := 60) hx hb dX3_mostOf_97 (by decide) ?_
      exact W.iret (v := 60) hx hb hr (fun t ht hW => ⟨60, rfl, rfl, ht⟩) (fun q hq => by cases hq) dX3_mostOf_99
    · exact absurd c_2 (by decide)
  · exact absurd c_1 (by decide)
set_option maxHeartbeats 4000000 in
set_option maxRecDepth 100000 in
theorem c_R_leastOf_4_0 (l : Launch) (D : va_G) (cI cJ cZ cP cS : ClassId) (po : zPool)   : Met l yX3_leastOf wsX3_leastOf ({ frames := 0, cells := 0, slots := 0, locals := 0 }) (va_Pc [.int 4, .int 0] (zR D (zKT cI cJ cZ cP cS) po [])) (vp_Si (fun r => r = 0)) 0 0 (fun _ => False) := by
  refine Met.ofW (cc := cX3_leastOf) (maxL := 2) (ret := (some .int)) (by decide) rfl ?_
  intro p e s m args below meth c s₁ B hml hv
  obtain ⟨rfl, hP, hK, hN, hZ⟩ := hv
  have hx := B.exec
  have hb := B.bytes
  have hr := B.returns
  have hts := atoms_spec (ws := wsX3_leastOf) B.pre
  have hown : s.vm.findClass RX3 = some m.cls := findClass_of_methodNamed B.named
  have hlocks := B.notSynchronized
  have hl := lv_entry ([.int 4, .int 0]) (n := 2) (Nat.le_of_ble_eq_true rfl)
  rw [lg_entry_eq]
  generalize (lg_sl ([.int 4, .int 0]) ++ List.replicate (2 - (lg_sl ([.int 4, .int 0])).length) Slot.unset).toArray = ls at hl ⊢
  replace hl : lv_has ls 2 [(0, .int 4), (1, .int 0)] := hl
  refine lv_iload_n hx hb dX3_leastOf_0 rfl (lv_at hl 0 rfl) ?_
  refine lv_if_ne (tgt := 6) hx hb dX3_leastOf_1 (by decide) (fun c_1 => ?_) (fun c_1 => ?_)
  · refine lv_iload_n hx hb dX3_leastOf_6 rfl (lv_at hl 0 rfl) ?_
    refine lv_bipush (v := 7) hx hb dX3_leastOf_7 (by decide) ?_
    refine lv_icmp_eq (tgt := 22) hx hb dX3_leastOf_9 (by decide) (fun c_2 => ?_) (fun c_2 => ?_)
    · exact absurd c_2 (by decide)
    · refine lv_iload_n hx hb dX3_leastOf_12 rfl (lv_at hl 0 rfl) ?_
      refine lv_iconst (v := 3) hx hb dX3_leastOf_13 (by decide) ?_
      refine lv_icmp_ne (tgt := 26) hx hb dX3_leastOf_14 (by decide) (fun c_3 => ?_) (fun c_3 => ?_)
      · refine lv_iconst (v := 0) hx hb dX3_leastOf_26 (by decide) ?_
        exact W.iret (v := 0) hx hb hr (fun t ht hW => ⟨0, rfl, rfl, ht⟩) (fun q hq => by cases hq) dX3_leastOf_27
      · exact absurd c_3 (by decide)
  · exact absurd c_1 (by decide)
set_option maxHeartbeats 4000000 in
set_option maxRecDepth 100000 in
theorem c_R_mostOf_4_0 (l : Launch) (D : va_G) (cI cJ cZ cP cS : ClassId) (po : zPool) (rd ri rl : Nat) (rz rc rp rf rt ru : Int32) (hy0 : 0 ≤ rz.toInt) (hy1 : rz.toInt ≤ 160) (hy2 : 0 ≤ rc.toInt) (hy3 : rc.toInt ≤ 40) (hy4 : 0 ≤ rp.toInt) (hy5 : rp.toInt ≤ 160) (hy6 : rp.toInt ≤ rz.toInt) (hy7 : (-1) ≤ rf.toInt) (hy8 : rf.toInt ≤ 160) (hy9 : 0 ≤ rt.toInt) (hy10 : rt.toInt ≤ 40) (hy11 : 0 ≤ ru.toInt) (hy12 : ru.toInt ≤ 8) : Met l yX3_mostOf wsX3_mostOf ({ frames := 0, cells := 0, slots := 0, locals := 0 }) (va_Pc [.ref rd, .int 4, .int 0] (zR D (zKT cI cJ cZ cP cS) po [(rd, .inr (3, [.ref ri, .ref rl, .int rz, .int rc, .int rp, .int rf, .int rt, .int ru]))])) (vp_Si (fun r => r = 24)) 0 0 (fun _ => False) := by
  refine Met.ofW (cc := cX3_mostOf) (maxL := 3) (ret := (some .int)) (by decide) rfl ?_
  intro p e s m args below meth c s₁ B hml hv
  obtain ⟨rfl, hP, hK, hN, hZ⟩ := hv
  have hx := B.exec
  have hb := B.bytes
  have hr := B.returns
  have hts := atoms_spec (ws := wsX3_mostOf) B.pre
  have hown : s.vm.findClass RX3 = some m.cls := findClass_of_methodNamed B.named
  have hlocks := B.notSynchronized
  have hl := lv_entry ([.ref rd, .int 4, .int 0]) (n := 3) (Nat.le_of_ble_eq_true rfl)
  rw [lg_entry_eq]
  generalize (lg_sl ([.ref rd, .int 4, .int 0]) ++ List.replicate (3 - (lg_sl ([.ref rd, .int 4, .int 0])).length) Slot.unset).toArray = ls at hl ⊢
  replace hl : lv_has ls 3 [(0, .ref rd), (1, .int 4), (2, .int 0)] := hl
  refine lv_iload_n hx hb dX3_mostOf_0 rfl (lv_at hl 1 rfl) ?_
  refine lv_tableIn (tgt := 100) hx hb dX3_mostOf_1 (by decide) (by decide) rfl (by decide) ?_
  refine lv_bipush (v := 24) hx hb dX3_mostOf_100 (by decide) ?_
  exact W.iret (v := 24) hx hb hr (fun t ht hW => ⟨24, rfl, rfl, ht⟩) (fun q hq => by cases hq) dX3_mostOf_102
set_option maxHeartbeats 4000000 in
set_option maxRecDepth 100000 in
theorem c_R_leastOf_5_0 (l : Launch) (D : va_G) (cI cJ cZ cP cS : ClassId) (po : zPool)   : Met l yX3_leastOf wsX3_leastOf ({ frames := 0, cells := 0, slots := 0, locals := 0 }) (va_Pc [.int 5, .int 0] (zR D (zKT cI cJ cZ cP cS) po [])) (vp_Si (fun r => r = 0)) 0 0 (fun _ => False) := by
  refine Met.ofW (cc := cX3_leastOf) (maxL := 2) (ret := (some .int)) (by decide) rfl ?_
  intro p e s m args below meth c s₁ B hml hv
  obtain ⟨rfl, hP, hK, hN, hZ⟩ := hv
  have hx := B.exec
  have hb := B.bytes
  have hr := B.returns
  have hts := atoms_spec (ws := wsX3_leastOf) B.pre
  have hown : s.vm.findClass RX3 = some m.cls := findClass_of_methodNamed B.named
  have hlocks := B.notSynchronized
  have hl := lv_entry ([.int 5, .int 0]) (n := 2) (Nat.le_of_ble_eq_true rfl)
  rw [lg_entry_eq]
  generalize (lg_sl ([.int 5, .int 0]) ++ List.replicate (2 - (lg_sl ([.int 5, .int 0])).length) Slot.unset).toArray = ls at hl ⊢
  replace hl : lv_has ls 2 [(0, .int 5), (1, .int 0)] := hl
  refine lv_iload_n hx hb dX3_leastOf_0 rfl (lv_at hl 0 rfl) ?_
  refine lv_if_ne (tgt := 6) hx hb dX3_leastOf_1 (by decide) (fun c_1 => ?_) (fun c_1 => ?_)
  · refine lv_iload_n hx hb dX3_leastOf_6 rfl (lv_at hl 0 rfl) ?_
    refine lv_bipush (v := 7) hx hb dX3_leastOf_7 (by decide) ?_
    refine lv_icmp_eq (tgt := 22) hx hb dX3_leastOf_9 (by decide) (fun c_2 => ?_) (fun c_2 => ?_)
    · exact absurd c_2 (by decide)
    · refine lv_iload_n hx hb dX3_leastOf_12 rfl (lv_at hl 0 rfl) ?_
      refine lv_iconst (v := 3) hx hb dX3_leastOf_13 (by decide) ?_
      refine lv_icmp_ne (tgt := 26) hx hb dX3_leastOf_14 (by decide) (fun c_3 => ?_) (fun c_3 => ?_)
      · refine lv_iconst (v := 0) hx hb dX3_leastOf_26 (by decide) ?_
        exact W.iret (v := 0) hx hb hr (fun t ht hW => ⟨0, rfl, rfl, ht⟩) (fun q hq => by cases hq) dX3_leastOf_27
      · exact absurd c_3 (by decide)
  · exact absurd c_1 (by decide)
set_option maxHeartbeats 4000000 in
set_option maxRecDepth 100000 in
theorem c_R_mostOf_5_0 (l : Launch) (D : va_G) (cI cJ cZ cP cS : ClassId) (po : zPool) (rd ri rl : Nat) (rz rc rp rf rt ru : Int32) (hy0 : 0 ≤ rz.toInt) (hy1 : rz.toInt ≤ 160) (hy2 : 0 ≤ rc.toInt) (hy3 : rc.toInt ≤ 40) (hy4 : 0 ≤ rp.toInt) (hy5 : rp.toInt ≤ 160) (hy6 : rp.toInt ≤ rz.toInt) (hy7 : (-1) ≤ rf.toInt) (hy8 : rf.toInt ≤ 160) (hy9 : 0 ≤ rt.toInt) (hy10 : rt.toInt ≤ 40) (hy11 : 0 ≤ ru.toInt) (hy12 : ru.toInt ≤ 8) : Met l yX3_mostOf wsX3_mostOf ({ frames := 0, cells := 0, slots := 0, locals := 0 }) (va_Pc [.ref rd, .int 5, .int 0] (zR D (zKT cI cJ cZ cP cS) po [(rd, .inr (3, [.ref ri, .ref rl, .int rz, .int rc, .int rp, .int rf, .int rt, .int ru]))])) (vp_Si (fun r => r = 300)) 0 0 (fun _ => False) := by
  refine Met.ofW (cc := cX3_mostOf) (maxL := 3) (ret := (some .int)) (by decide) rfl ?_
  intro p e s m args below meth c s₁ B hml hv
  obtain ⟨rfl, hP, hK, hN, hZ⟩ := hv
  have hx := B.exec
  have hb := B.bytes
  have hr := B.returns
  have hts := atoms_spec (ws := wsX3_mostOf) B.pre
  have hown : s.vm.findClass RX3 = some m.cls := findClass_of_methodNamed B.named
  have hlocks := B.notSynchronized
  have hl := lv_entry ([.ref rd, .int 5, .int 0]) (n := 3) (Nat.le_of_ble_eq_true rfl)
  rw [lg_entry_eq]
  generalize (lg_sl ([.ref rd, .int 5, .int 0]) ++ List.replicate (3 - (lg_sl ([.ref rd, .int 5, .int 0])).length) Slot.unset).toArray = ls at hl ⊢
  replace hl : lv_has ls 3 [(0, .ref rd), (1, .int 5), (2, .int 0)] := hl
  refine lv_iload_n hx hb dX3_mostOf_0 rfl (lv_at hl 1 rfl) ?_
  refine lv_tableIn (tgt := 103) hx hb dX3_mostOf_1 (by decide) (by decide) rfl (by decide) ?_
  refine lv_sipush (v := 300) hx hb dX3_mostOf_103 (by decide) ?_
  exact W.iret (v := 300) hx hb hr (fun t ht hW => ⟨300, rfl, rfl, ht⟩) (fun q hq => by cases hq) dX3_mostOf_106
set_option maxHeartbeats 4000000 in
set_option maxRecDepth 100000 in
theorem c_R_leastOf_6_0 (l : Launch) (D : va_G) (cI cJ cZ cP cS : ClassId) (po : zPool)   : Met l yX3_leastOf wsX3_leastOf ({ frames := 0, cells := 0, slots := 0, locals := 0 }) (va_Pc [.int 6, .int 0] (zR D (zKT cI cJ cZ cP cS) po [])) (vp_Si (fun r => r = 0)) 0 0 (fun _ => False) := by
  refine Met.ofW (cc := cX3_leastOf) (maxL := 2) (ret := (some .int)) (by decide) rfl ?_
  intro p e s m args below meth c s₁ B hml hv
  obtain ⟨rfl, hP, hK, hN, hZ⟩ := hv
  have hx := B.exec
  have hb := B.bytes
  have hr := B.returns
  have hts := atoms_spec (ws := wsX3_leastOf) B.pre
  have hown : s.vm.findClass RX3 = some m.cls := findClass_of_methodNamed B.named
  have hlocks := B.notSynchronized
  have hl := lv_entry ([.int 6, .int 0]) (n := 2) (Nat.le_of_ble_eq_true rfl)
  rw [lg_entry_eq]
  generalize (lg_sl ([.int 6, .int 0]) ++ List.replicate (2 - (lg_sl ([.int 6, .int 0])).length) Slot.unset).toArray = ls at hl ⊢
  replace hl : lv_has ls 2 [(0, .int 6), (1, .int 0)] := hl
  refine lv_iload_n hx hb dX3_leastOf_0 rfl (lv_at hl 0 rfl) ?_
  refine lv_if_ne (tgt := 6) hx hb dX3_leastOf_1 (by decide) (fun c_1 => ?_) (fun c_1 => ?_)
  · refine lv_iload_n hx hb dX3_leastOf_6 rfl (lv_at hl 0 rfl) ?_
    refine lv_bipush (v := 7) hx hb dX3_leastOf_7 (by decide) ?_
    refine lv_icmp_eq (tgt := 22) hx hb dX3_leastOf_9 (by decide) (fun c_2 => ?_) (fun c_2 => ?_)
    · exact absurd c_2 (by decide)
    · refine lv_iload_n hx hb dX3_leastOf_12 rfl (lv_at hl 0 rfl) ?_
      refine lv_iconst (v := 3) hx hb dX3_leastOf_13 (by decide) ?_
      refine lv_icmp_ne (tgt := 26) hx hb dX3_leastOf_14 (by decide) (fun c_3 => ?_) (fun c_3 => ?_)
      · refine lv_iconst (v := 0) hx hb dX3_leastOf_26 (by decide) ?_
        exact W.iret (v := 0) hx hb hr (fun t ht hW => ⟨0, rfl, rfl, ht⟩) (fun q hq => by cases hq) dX3_leastOf_27
      · exact absurd c_3 (by decide)
  · exact absurd c_1 (by decide)
set_option maxHeartbeats 4000000 in
set_option maxRecDepth 100000 in
theorem c_R_mostOf_6_0 (l : Launch) (D : va_G) (cI cJ cZ cP cS : ClassId) (po : zPool) (rd ri rl : Nat) (rz rc rp rf rt ru : Int32) (hy0 : 0 ≤ rz.toInt) (hy1 : rz.toInt ≤ 160) (hy2 : 0 ≤ rc.toInt) (hy3 : rc.toInt ≤ 40) (hy4 : 0 ≤ rp.toInt) (hy5 : rp.toInt ≤ 160) (hy6 : rp.toInt ≤ rz.toInt) (hy7 : (-1) ≤ rf.toInt) (hy8 : rf.toInt ≤ 160) (hy9 : 0 ≤ rt.toInt) (hy10 : rt.toInt ≤ 40) (hy11 : 0 ≤ ru.toInt) (hy12 : ru.toInt ≤ 8) : Met l yX3_mostOf wsX3_mostOf ({ frames := 0, cells := 0, slots := 0, locals := 0 }) (va_Pc [.ref rd, .int 6, .int 0] (zR D (zKT cI cJ cZ cP cS) po [(rd, .inr (3, [.ref ri, .ref rl, .int rz, .int rc, .int rp, .int rf, .int rt, .int ru]))])) (vp_Si (fun r => r = 9)) 0 0 (fun _ => False) := by
  refine Met.ofW (cc := cX3_mostOf) (maxL := 3) (ret := (some .int)) (by decide) rfl ?_
  intro p e s m args below meth c s₁ B hml hv
  obtain ⟨rfl, hP, hK, hN, hZ⟩ := hv
  have hx := B.exec
  have hb := B.bytes
  have hr := B.returns
  have hts := atoms_spec (ws := wsX3_mostOf) B.pre
  have hown : s.vm.findClass RX3 = some m.cls := findClass_of_methodNamed B.named
  have hlocks := B.notSynchronized
  have hl := lv_entry ([.ref rd, .int 6, .int 0]) (n := 3) (Nat.le_of_ble_eq_true rfl)
  rw [lg_entry_eq]
  generalize (lg_sl ([.ref rd, .int 6, .int 0]) ++ List.replicate (3 - (lg_sl ([.ref rd, .int 6, .int 0])).length) Slot.unset).toArray = ls at hl ⊢
  replace hl : lv_has ls 3 [(0, .ref rd), (1, .int 6), (2, .int 0)] := hl
  refine lv_iload_n hx hb dX3_mostOf_0 rfl (lv_at hl 1 rfl) ?_
  refine lv_tableIn (tgt := 107) hx hb dX3_mostOf_1 (by decide) (by decide) rfl (by decide) ?_
  refine lv_bipush (v := 9) hx hb dX3_mostOf_107 (by decide) ?_
  exact W.iret (v := 9) hx hb hr (fun t ht hW => ⟨9, rfl, rfl, ht⟩) (fun q hq => by cases hq) dX3_mostOf_109
set_option maxHeartbeats 4000000 in
set_option maxRecDepth 100000 in
theorem c_R_leastOf_7_0 (l : Launch) (D : va_G) (cI cJ cZ cP cS : ClassId) (po : zPool)   : Met l yX3_leastOf wsX3_leastOf ({ frames := 0, cells := 0, slots := 0, locals := 0 }) (va_Pc [.int 7, .int 0] (zR D (zKT cI cJ cZ cP cS) po [])) (vp_Si (fun r => r = 1)) 0 0 (fun _ => False) := by
  refine Met.ofW (cc := cX3_leastOf) (maxL := 2) (ret := (some .int)) (by decide) rfl ?_
  intro p e s m args below meth c s₁ B hml hv
  obtain ⟨rfl, hP, hK, hN, hZ⟩ := hv
  have hx := B.exec
  have hb := B.bytes
  have hr := B.returns
  have hts := atoms_spec (ws := wsX3_leastOf) B.pre
  have hown : s.vm.findClass RX3 = some m.cls := findClass_of_methodNamed B.named
  have hlocks := B.notSynchronized
  have hl := lv_entry ([.int 7, .int 0]) (n := 2) (Nat.le_of_ble_eq_true rfl)
  rw [lg_entry_eq]
  generalize (lg_sl ([.int 7, .int 0]) ++ List.replicate (2 - (lg_sl ([.int 7, .int 0])).length) Slot.unset).toArray = ls at hl ⊢
  replace hl : lv_has ls 2 [(0, .int 7), (1, .int 0)] := hl
  refine lv_iload_n hx hb dX3_leastOf_0 rfl (lv_at hl 0 rfl) ?_
  refine lv_if_ne (tgt := 6) hx hb dX3_leastOf_1 (by decide) (fun c_1 => ?_) (fun c_1 => ?_)
  · refine lv_iload_n hx hb dX3_leastOf_6 rfl (lv_at hl 0 rfl) ?_
    refine lv_bipush (v := 7) hx hb dX3_leastOf_7 (by decide) ?_
    refine lv_icmp_eq (tgt := 22) hx hb dX3_leastOf_9 (by decide) (fun c_2 => ?_) (fun c_2 => ?_)
    · refine lv_iconst (v := 1) hx hb dX3_leastOf_22 (by decide) ?_
      refine lv_goto (tgt := 27) hx hb dX3_leastOf_23 (by decide) ?_
      exact W.iret (v := 1) hx hb hr (fun t ht hW => ⟨1, rfl, rfl, ht⟩) (fun q hq => by cases hq) dX3_leastOf_27
    · exact absurd c_2 (by decide)
  · exact absurd c_1 (by decide)
set_option maxHeartbeats 4000000 in
set_option maxRecDepth 100000 in
theorem c_R_mostOf_7_0 (l : Launch) (D : va_G) (cI cJ cZ cP cS : ClassId) (po : zPool) (rd ri rl : Nat) (rz rc rp rf rt ru : Int32) (hy0 : 0 ≤ rz.toInt) (hy1 : rz.toInt ≤ 160) (hy2 : 0 ≤ rc.toInt) (hy3 : rc.toInt ≤ 40) (hy4 : 0 ≤ rp.toInt) (hy5 : rp.toInt ≤ 160) (hy6 : rp.toInt ≤ rz.toInt) (hy7 : (-1) ≤ rf.toInt) (hy8 : rf.toInt ≤ 160) (hy9 : 0 ≤ rt.toInt) (hy10 : rt.toInt ≤ 40) (hy11 : 0 ≤ ru.toInt) (hy12 : ru.toInt ≤ 8) : Met l yX3_mostOf wsX3_mostOf ({ frames := 0, cells := 0, slots := 0, locals := 0 }) (va_Pc [.ref rd, .int 7, .int 0] (zR D (zKT cI cJ cZ cP cS) po [(rd, .inr (3, [.ref ri, .ref rl, .int rz, .int rc, .int rp, .int rf, .int rt, .int ru]))])) (vp_Si (fun r => r = 9)) 0 0 (fun _ => False) := by
  refine Met.ofW (cc := cX3_mostOf) (maxL := 3) (ret := (some .int)) (by decide) rfl ?_
  intro p e s m args below meth c s₁ B hml hv
  obtain ⟨rfl, hP, hK, hN, hZ⟩ := hv
  have hx := B.exec
  have hb := B.bytes
  have hr := B.returns
  have hts := atoms_spec (ws := wsX3_mostOf) B.pre
  have hown : s.vm.findClass RX3 = some m.cls := findClass_of_methodNamed B.named
  have hlocks := B.notSynchronized
  have hl := lv_entry ([.ref rd, .int 7, .int 0]) (n := 3) (Nat.le_of_ble_eq_true rfl)
  rw [lg_entry_eq]
  generalize (lg_sl ([.ref rd, .int 7, .int 0]) ++ List.replicate (3 - (lg_sl ([.ref rd, .int 7, .int 0])).length) Slot.unset).toArray = ls at hl ⊢
  replace hl : lv_has ls 3 [(0, .ref rd), (1, .int 7), (2, .int 0)] := hl
  refine lv_iload_n hx hb dX3_mostOf_0 rfl (lv_at hl 1 rfl) ?_
  refine lv_tableIn (tgt := 110) hx hb dX3_mostOf_1 (by decide) (by decide) rfl (by decide) ?_
  refine lv_bipush (v := 9) hx hb dX3_mostOf_110 (by decide) ?_
  exact W.iret (v := 9) hx hb hr (fun t ht hW => ⟨9, rfl, rfl, ht⟩) (fun q hq => by cases hq) dX3_mostOf_112
set_option maxHeartbeats 4000000 in
set_option maxRecDepth 100000 in
theorem c_R_leastOf_8_0 (l : Launch) (D : va_G) (cI cJ cZ cP cS : ClassId) (po : zPool)   : Met l yX3_leastOf wsX3_leastOf ({ frames := 0, cells := 0, slots := 0, locals := 0 }) (va_Pc [.int 8, .int 0] (zR D (zKT cI cJ cZ cP cS) po [])) (vp_Si (fun r => r = 0)) 0 0 (fun _ => False) := by
  refine Met.ofW (cc := cX3_leastOf) (maxL := 2) (ret := (some .int)) (by decide) rfl ?_
  intro p e s m args below meth c s₁ B hml hv
  obtain ⟨rfl, hP, hK, hN, hZ⟩ := hv
  have hx := B.exec
  have hb := B.bytes
  have hr := B.returns
  have hts := atoms_spec (ws := wsX3_leastOf) B.pre
  have hown : s.vm.findClass RX3 = some m.cls := findClass_of_methodNamed B.named
  have hlocks := B.notSynchronized
  have hl := lv_entry ([.int 8, .int 0]) (n := 2) (Nat.le_of_ble_eq_true rfl)
  rw [lg_entry_eq]
  generalize (lg_sl ([.int 8, .int 0]) ++ List.replicate (2 - (lg_sl ([.int 8, .int 0])).length) Slot.unset).toArray = ls at hl ⊢
  replace hl : lv_has ls 2 [(0, .int 8), (1, .int 0)] := hl
  refine lv_iload_n hx hb dX3_leastOf_0 rfl (lv_at hl 0 rfl) ?_
  refine lv_if_ne (tgt := 6) hx hb dX3_leastOf_1 (by decide) (fun c_1 => ?_) (fun c_1 => ?_)
  · refine lv_iload_n hx hb dX3_leastOf_6 rfl (lv_at hl 0 rfl) ?_
    refine lv_bipush (v := 7) hx hb dX3_leastOf_7 (by decide) ?_
    refine lv_icmp_eq (tgt := 22) hx hb dX3_leastOf_9 (by decide) (fun c_2 => ?_) (fun c_2 => ?_)
    · exact absurd c_2 (by decide)
    · refine lv_iload_n hx hb dX3_leastOf_12 rfl (lv_at hl 0 rfl) ?_
      refine lv_iconst (v := 3) hx hb dX3_leastOf_13 (by decide) ?_
      refine lv_icmp_ne (tgt := 26) hx hb dX3_leastOf_14 (by decide) (fun c_3 => ?_) (fun c_3 => ?_)
      · refine lv_iconst (v := 0) hx hb dX3_leastOf_26 (by decide) ?_
        exact W.iret (v := 0) hx hb hr (fun t ht hW => ⟨0, rfl, rfl, ht⟩) (fun q hq => by cases hq) dX3_leastOf_27
      · exact absurd c_3 (by decide)
  · exact absurd c_1 (by decide)
set_option maxHeartbeats 4000000 in
set_option maxRecDepth 100000 in
theorem c_R_mostOf_8_0 (l : Launch) (D : va_G) (cI cJ cZ cP cS : ClassId) (po : zPool) (rd ri rl : Nat) (rz rc rp rf rt ru : Int32) (hy0 : 0 ≤ rz.toInt) (hy1 : rz.toInt ≤ 160) (hy2 : 0 ≤ rc.toInt) (hy3 : rc.toInt ≤ 40) (hy4 : 0 ≤ rp.toInt) (hy5 : rp.toInt ≤ 160) (hy6 : rp.toInt ≤ rz.toInt) (hy7 : (-1) ≤ rf.toInt) (hy8 : rf.toInt ≤ 160) (hy9 : 0 ≤ rt.toInt) (hy10 : rt.toInt ≤ 40) (hy11 : 0 ≤ ru.toInt) (hy12 : ru.toInt ≤ 8) : Met l yX3_mostOf wsX3_mostOf ({ frames := 0, cells := 0, slots := 0, locals := 0 }) (va_Pc [.ref rd, .int 8, .int 0] (zR D (zKT cI cJ cZ cP cS) po [(rd, .inr (3, [.ref ri, .ref rl, .int rz, .int rc, .int rp, .int rf, .int rt, .int ru]))])) (vp_Si (fun r => r = 2)) 0 0 (fun _ => False) := by
  refine Met.ofW (cc := cX3_mostOf) (maxL := 3) (ret := (some .int)) (by decide) rfl ?_
  intro p e s m args below meth c s₁ B hml hv
  obtain ⟨rfl, hP, hK, hN, hZ⟩ := hv
  have hx := B.exec
  have hb := B.bytes
  have hr := B.returns
  have hts := atoms_spec (ws := wsX3_mostOf) B.pre
  have hown : s.vm.findClass RX3 = some m.cls := findClass_of_methodNamed B.named
  have hlocks := B.notSynchronized
  have hl := lv_entry ([.ref rd, .int 8, .int 0]) (n := 3) (Nat.le_of_ble_eq_true rfl)
  rw [lg_entry_eq]
  generalize (lg_sl ([.ref rd, .int 8, .int 0]) ++ List.replicate (3 - (lg_sl ([.ref rd, .int 8, .int 0])).length) Slot.unset).toArray = ls at hl ⊢
  replace hl : lv_has ls 3 [(0, .ref rd), (1, .int 8), (2, .int 0)] := hl
  refine lv_iload_n hx hb dX3_mostOf_0 rfl (lv_at hl 1 rfl) ?_
  refine lv_tableIn (tgt := 113) hx hb dX3_mostOf_1 (by decide) (by decide) rfl (by decide) ?_
  refine lv_iload_n hx hb dX3_mostOf_113 rfl (lv_at hl 2 rfl) ?_
  refine lv_if_ne (tgt := 121) hx hb dX3_mostOf_114 (by decide) (fun c_1 => ?_) (fun c_1 => ?_)
  · exact absurd c_1 (by decide)
  · refine lv_iconst (v := 2) hx hb dX3_mostOf_117 (by decide) ?_
    refine lv_goto (tgt := 123) hx hb dX3_mostOf_118 (by decide) ?_
    exact W.iret (v := 2) hx hb hr (fun t ht hW => ⟨2, rfl, rfl, ht⟩) (fun q hq => by cases hq) dX3_mostOf_123
set_option maxHeartbeats 4000000 in
set_option maxRecDepth 100000 in
theorem c_R_leastOf_8_1 (l : Launch) (D : va_G) (cI cJ cZ cP cS : ClassId) (po : zPool)   : Met l yX3_leastOf wsX3_leastOf ({ frames := 0, cells := 0, slots := 0, locals := 0 }) (va_Pc [.int 8, .int 1] (zR D (zKT cI cJ cZ cP cS) po [])) (vp_Si (fun r => r = 0)) 0 0 (fun _ => False) := by
  refine Met.ofW (cc := cX3_leastOf) (maxL := 2) (ret := (some .int)) (by decide) rfl ?_
  intro p e s m args below meth c s₁ B hml hv
  obtain ⟨rfl, hP, hK, hN, hZ⟩ := hv
  have hx := B.exec
  have hb := B.bytes
  have hr := B.returns
  have hts := atoms_spec (ws := wsX3_leastOf) B.pre
  have hown : s.vm.findClass RX3 = some m.cls := findClass_of_methodNamed B.named
  have hlocks := B.notSynchronized
  have hl := lv_entry ([.int 8, .int 1]) (n := 2) (Nat.le_of_ble_eq_true rfl)
  rw [lg_entry_eq]
  generalize (lg_sl ([.int 8, .int 1]) ++ List.replicate (2 - (lg_sl ([.int 8, .int 1])).length) Slot.unset).toArray = ls at hl ⊢
  replace hl : lv_has ls 2 [(0, .int 8), (1, .int 1)] := hl
  refine lv_iload_n hx hb dX3_leastOf_0 rfl (lv_at hl 0 rfl) ?_
  refine lv_if_ne (tgt := 6) hx hb dX3_leastOf_1 (by decide) (fun c_1 => ?_) (fun c_1 => ?_)
  · refine lv_iload_n hx hb dX3_leastOf_6 rfl (lv_at hl 0 rfl) ?_
    refine lv_bipush (v := 7) hx hb dX3_leastOf_7 (by decide) ?_
    refine lv_icmp_eq (tgt := 22) hx hb dX3_leastOf_9 (by decide) (fun c_2 => ?_) (fun c_2 => ?_)
    · exact absurd c_2 (by decide)
    · refine lv_iload_n hx hb dX3_leastOf_12 rfl (lv_at hl 0 rfl) ?_
      refine lv_iconst (v := 3) hx hb dX3_leastOf_13 (by decide) ?_
      refine lv_icmp_ne (tgt := 26) hx hb dX3_leastOf_14 (by decide) (fun c_3 => ?_) (fun c_3 => ?_)
      · refine lv_iconst (v := 0) hx hb dX3_leastOf_26 (by decide) ?_
        exact W.iret (v := 0) hx hb hr (fun t ht hW => ⟨0, rfl, rfl, ht⟩) (fun q hq => by cases hq) dX3_leastOf_27
      · exact absurd c_3 (by decide)
  · exact absurd c_1 (by decide)
set_option maxHeartbeats 4000000 in
set_option maxRecDepth 100000 in
theorem c_R_mostOf_8_1 (l : Launch) (D : va_G) (cI cJ cZ cP cS : ClassId) (po : zPool) (rd ri rl : Nat) (rz rc rp rf rt ru : Int32) (hy0 : 0 ≤ rz.toInt) (hy1 : rz.toInt ≤ 160) (hy2 : 0 ≤ rc.toInt) (hy3 : rc.toInt ≤ 40) (hy4 : 0 ≤ rp.toInt) (hy5 : rp.toInt ≤ 160) (hy6 : rp.toInt ≤ rz.toInt) (hy7 : (-1) ≤ rf.toInt) (hy8 : rf.toInt ≤ 160) (hy9 : 0 ≤ rt.toInt) (hy10 : rt.toInt ≤ 40) (hy11 : 0 ≤ ru.toInt) (hy12 : ru.toInt ≤ 8) : Met l yX3_mostOf wsX3_mostOf ({ frames := 0, cells := 0, slots := 0, locals := 0 }) (va_Pc [.ref rd, .int 8, .int 1] (zR D (zKT cI cJ cZ cP cS) po [(rd, .inr (3, [.ref ri, .ref rl, .int rz, .int rc, .int rp, .int rf, .int rt, .int ru]))])) (vp_Si (fun r => r = 99)) 0 0 (fun _ => False) := by
  refine Met.ofW (cc := cX3_mostOf) (maxL := 3) (ret := (some .int)) (by decide) rfl ?_
  intro p e s m args below meth c s₁ B hml hv
  obtain ⟨rfl, hP, hK, hN, hZ⟩ := hv
  have hx := B.exec
  have hb := B.bytes
  have hr := B.returns
  have hts := atoms_spec (ws := wsX3_mostOf) B.pre
  have hown : s.vm.findClass RX3 = some m.cls := findClass_of_methodNamed B.named
  have hlocks := B.notSynchronized
  have hl := lv_entry ([.ref rd, .int 8, .int 1]) (n := 3) (Nat.le_of_ble_eq_true rfl)
  rw [lg_entry_eq]
  generalize (lg_sl ([.ref rd, .int 8, .int 1]) ++ List.replicate (3 - (lg_sl ([.ref rd, .int 8, .int 1])).length) Slot.unset).toArray = ls at hl ⊢
  replace hl : lv_has ls 3 [(0, .ref rd), (1, .int 8), (2, .int 1)] := hl
  refine lv_iload_n hx hb dX3_mostOf_0 rfl (lv_at hl 1 rfl) ?_
  refine lv_tableIn (tgt := 113) hx hb dX3_mostOf_1 (by decide) (by decide) rfl (by decide) ?_
  refine lv_iload_n hx hb dX3_mostOf_113 rfl (lv_at hl 2 rfl) ?_
  refine lv_if_ne (tgt := 121) hx hb dX3_mostOf_114 (by decide) (fun c_1 => ?_) (fun c_1 => ?_)
  · refine lv_bipush (v := 99) hx hb dX3_mostOf_121 (by decide) ?_
    exact W.iret (v := 99) hx hb hr (fun t ht hW => ⟨99, rfl, rfl, ht⟩) (fun q hq => by cases hq) dX3_mostOf_123
  · exact absurd c_1 (by decide)
set_option maxHeartbeats 4000000 in
set_option maxRecDepth 100000 in
theorem c_R_leastOf_9_0 (l : Launch) (D : va_G) (cI cJ cZ cP cS : ClassId) (po : zPool)   : Met l yX3_leastOf wsX3_leastOf ({ frames := 0, cells := 0, slots := 0, locals := 0 }) (va_Pc [.int 9, .int 0] (zR D (zKT cI cJ cZ cP cS) po [])) (vp_Si (fun r => r = 0)) 0 0 (fun _ => False) := by
  refine Met.ofW (cc := cX3_leastOf) (maxL := 2) (ret := (some .int)) (by decide) rfl ?_
  intro p e s m args below meth c s₁ B hml hv
  obtain ⟨rfl, hP, hK, hN, hZ⟩ := hv
  have hx := B.exec
  have hb := B.bytes
  have hr := B.returns
  have hts := atoms_spec (ws := wsX3_leastOf) B.pre
  have hown : s.vm.findClass RX3 = some m.cls := findClass_of_methodNamed B.named
  have hlocks := B.notSynchronized
  have hl := lv_entry ([.int 9, .int 0]) (n := 2) (Nat.le_of_ble_eq_true rfl)
  rw [lg_entry_eq]
  generalize (lg_sl ([.int 9, .int 0]) ++ List.replicate (2 - (lg_sl ([.int 9, .int 0])).length) Slot.unset).toArray = ls at hl ⊢
  replace hl : lv_has ls 2 [(0, .int 9), (1, .int 0)] := hl
  refine lv_iload_n hx hb dX3_leastOf_0 rfl (lv_at hl 0 rfl) ?_
  refine lv_if_ne (tgt := 6) hx hb dX3_leastOf_1 (by decide) (fun c_1 => ?_) (fun c_1 => ?_)
  · refine lv_iload_n hx hb dX3_leastOf_6 rfl (lv_at hl 0 rfl) ?_
    refine lv_bipush (v := 7) hx hb dX3_leastOf_7 (by decide) ?_
    refine lv_icmp_eq (tgt := 22) hx hb dX3_leastOf_9 (by decide) (fun c_2 => ?_) (fun c_2 => ?_)
    · exact absurd c_2 (by decide)
    · refine lv_iload_n hx hb dX3_leastOf_12 rfl (lv_at hl 0 rfl) ?_
      refine lv_iconst (v := 3) hx hb dX3_leastOf_13 (by decide) ?_
      refine lv_icmp_ne (tgt := 26) hx hb dX3_leastOf_14 (by decide) (fun c_3 => ?_) (fun c_3 => ?_)
      · refine lv_iconst (v := 0) hx hb dX3_leastOf_26 (by decide) ?_
        exact W.iret (v := 0) hx hb hr (fun t ht hW => ⟨0, rfl, rfl, ht⟩) (fun q hq => by cases hq) dX3_leastOf_27
      · exact absurd c_3 (by decide)
  · exact absurd c_1 (by decide)
set_option maxHeartbeats 4000000 in
set_option maxRecDepth 100000 in
theorem c_R_mostOf_9_0 (l : Launch) (D : va_G) (cI cJ cZ cP cS : ClassId) (po : zPool) (rd ri rl : Nat) (rz rc rp rf rt ru : Int32) (hy0 : 0 ≤ rz.toInt) (hy1 : rz.toInt ≤ 160) (hy2 : 0 ≤ rc.toInt) (hy3 : rc.toInt ≤ 40) (hy4 : 0 ≤ rp.toInt) (hy5 : rp.toInt ≤ 160) (hy6 : rp.toInt ≤ rz.toInt) (hy7 : (-1) ≤ rf.toInt) (hy8 : rf.toInt ≤ 160) (hy9 : 0 ≤ rt.toInt) (hy10 : rt.toInt ≤ 40) (hy11 : 0 ≤ ru.toInt) (hy12 : ru.toInt ≤ 8) : Met l yX3_mostOf wsX3_mostOf ({ frames := 0, cells := 0, slots := 0, locals := 0 }) (va_Pc [.ref rd, .int 9, .int 0] (zR D (zKT cI cJ cZ cP cS) po [(rd, .inr (3, [.ref ri, .ref rl, .int rz, .int rc, .int rp, .int rf, .int rt, .int ru]))])) (vp_Si (fun r => 0 ≤ r.toInt ∧ r.toInt ≤ 40 ∧ (r.toInt = rt.toInt))) 0 0 (fun _ => False) := by
  refine Met.ofW (cc := cX3_mostOf) (maxL := 3) (ret := (some .int)) (by decide) rfl ?_
  intro p e s m args below meth c s₁ B hml hv
  obtain ⟨rfl, hP, hK, hN, hZ⟩ := hv
  have hx := B.exec
  have hb := B.bytes
  have hr := B.returns
  have hts := atoms_spec (ws := wsX3_mostOf) B.pre
  have hown : s.vm.findClass RX3 = some m.cls := findClass_of_methodNamed B.named
  have hlocks := B.notSynchronized
  have hl := lv_entry ([.ref rd, .int 9, .int 0]) (n := 3) (Nat.le_of_ble_eq_true rfl)
  rw [lg_entry_eq]
  generalize (lg_sl ([.ref rd, .int 9, .int 0]) ++ List.replicate (3 - (lg_sl ([.ref rd, .int 9, .int 0])).length) Slot.unset).toArray = ls at hl ⊢
  replace hl : lv_has ls 3 [(0, .ref rd), (1, .int 9), (2, .int 0)] := hl
  refine lv_iload_n hx hb dX3_mostOf_0 rfl (lv_at hl 1 rfl) ?_
  refine lv_tableOut (tgt := 124) hx hb dX3_mostOf_1 (by decide) (by decide) ?_
  refine lv_aload_n hx hb dX3_mostOf_124 rfl (lv_at hl 0 rfl) ?_
  refine va_get (D := D) (ci := 3) (v := .int rt) (C := RX3) (T := TX3) (N := 8) hx hb hts hi_X3_mostOf_3 hown hK hP 0 rfl rfl 6 (by decide) (hts (.fieldLink RX3 31 "TheLiningsInIt$Reader" "teeth" "I") (List.mem_of_getElem? (i := 1) rfl)) (fun _ h9 => h9) rfl dX3_mostOf_125 ?_
  exact W.iret (v := rt) hx hb hr (fun t ht hW => ⟨rt, rfl, ⟨by omega, by omega, (show (rt : Int32).toInt = rt.toInt from by omega)⟩, ht⟩) (fun q hq => by cases hq) dX3_mostOf_128
end
section
theorem hi_X3_readItem_3 : ∀ w ∈ u_ws RX3 TX3 8, w ∈ wsX3_readItem := fun w h => (gl_X3_readItem_X30 w h).1
end
section
theorem hi_X3_takeLetters_4 : ∀ w ∈ u_ws RX4 TX4 3, w ∈ wsX3_takeLetters := fun w h => (gl_X3_takeLetters_X40 w h).1
theorem gl_X3_takeLetters_X30 : GoodIn wsX3_takeLetters wsX30 := (dg_t (dg_t (dg_t (dg_t (dg_t (dg_t (dg_t (dg_t (dg_t (dg_t (dg_t (dg_t (dg_t (dg_t (dg_t (dg_t (dg_t (dg_t (dg_t (dg_r gw_wsX30))))))))))))))))))))
theorem hi_X3_takeLetters_3 : ∀ w ∈ u_ws RX3 TX3 8, w ∈ wsX3_takeLetters := fun w h => (gl_X3_takeLetters_X30 w h).1
theorem hi_X3_read_3 : ∀ w ∈ u_ws RX3 TX3 8, w ∈ wsX3_read := fun w h => (gl_X3_read_X30 w h).1
end
section
theorem gl_X2_init_X20 : GoodIn wsX2_init wsX20 := (dg_t (dg_t (dg_t (dg_t (dg_t (dg_t (dg_t gw_wsX20)))))))
theorem hi_X2_init_2 : ∀ w ∈ u_ws RX2 TX2 3, w ∈ wsX2_init := fun w h => (gl_X2_init_X20 w h).1
set_option maxHeartbeats 4000000 in
set_option maxRecDepth 100000 in
theorem c_Pull_init (l : Launch) (D : va_G) (cI cJ cZ cP cS : ClassId) (po : zPool) (u0 : Nat) (ki a_ ta : Int32)  (hpz : Nat) : Met l yX2_init wsX2_init ({ frames := 1, cells := 0, slots := 0, locals := 12 }) (va_Pc [.ref u0, .int ki, .int a_, .int ta] (zW D (zKT cI cJ cZ cP cS) po [(u0, .inr (2, [.int 0, .int 0, .int 0]))] hpz)) (va_Qv (fun (_ : Unit) => True) (zB D [(u0, .inr (2, [.int 0, .int 0, .int 0]))] hpz (fun (_ : Unit) => [(u0, .inr (2, [.int ki, .int a_, .int ta]))])) (va_A [(u0, .inr (2, [.int 0, .int 0, .int 0]))] hpz)) 0 0 (va_A [(u0, .inr (2, [.int 0, .int 0, .int 0]))] hpz) := by
  refine Met.ofW (cc := cX2_init) (maxL := 4) (ret := none) (by decide) rfl ?_
  intro p e s m args below meth c s₁ B hml hv
  obtain ⟨rfl, hsz, hP, hK, hD0, hN, hZ⟩ := hv
  have hx := B.exec
  have hb := B.bytes
  have hr := B.returns
  have hts := atoms_spec (ws := wsX2_init) B.pre
  have hown : s.vm.findClass RX2 = some m.cls := findClass_of_methodNamed B.named
  have hlocks := B.notSynchronized
  have hin : meth.name = "<init>" := (name_of_methodNamed B.named B.method).1
  subst hsz
  have hD := hD0.self (sz := s.heap.size)
  have hA := zA_of hD
  have hl := lv_entry ([.ref u0, .int ki, .int a_, .int ta]) (n := 4) (Nat.le_of_ble_eq_true rfl)
  rw [lg_entry_eq]
  generalize (lg_sl ([.ref u0, .int ki, .int a_, .int ta]) ++ List.replicate (4 - (lg_sl ([.ref u0, .int ki, .int a_, .int ta])).length) Slot.unset).toArray = ls at hl ⊢
  replace hl : lv_has ls 4 [(0, .ref u0), (1, .int ki), (2, .int a_), (3, .int ta)] := hl
  refine zw_begin hP hD (fun H locs hP1 hS => ?_)
  clear hP
  have hP := hP1
  clear hP1
  refine lv_aload_n hx hb dX2_init_0 rfl (lv_at hl 0 rfl) ?_
  refine W.objInit hx hb hown (hts (.methodLink RX2 3 objectInit) (List.mem_of_getElem? (i := 1) rfl)) (hts _ (List.mem_of_getElem? (i := 2) rfl)) (hts _ (List.mem_of_getElem? (i := 3) rfl)) rfl (by rw [hml]; exact hl.1) rfl dX2_init_1 (Nat.le_of_ble_eq_true rfl) (Nat.le_of_ble_eq_true rfl) ?_
  refine W.eq (g2 := F0 m 4 ls []) rfl ?_
  refine lv_aload_n hx hb dX2_init_4 rfl (lv_at hl 0 rfl) ?_
  refine lv_iload_n hx hb dX2_init_5 rfl (lv_at hl 1 rfl) ?_
  refine va_putF (D := D) (ci := 2) (v := .int ki) (ty := .int) (C := RX2) (T := TX2) (N := 3) hx hb hts hi_X2_init_2 tyX2 tyX2_ok nmX2 hown hK hP hD hS 0 rfl rfl 0 (by decide) (hts (.fieldLink RX2 9 "TheLiningsInIt$Pull" "kind" "I") (List.mem_of_getElem? (i := 4) rfl)) (fun _ h9 => h9) rfl hin rfl (tyX2_ok 0 (Nat.le_of_ble_eq_true rfl)) rfl rfl (Nat.le_of_ble_eq_true rfl) dX2_init_6 (fun H locs hP hD hS => ?_)
  have h9R := zRe (ws' := [(u0, .inr (2, [.int ki, .int 0, .int 0]))]) hP hD rfl
  clear hP hD
  obtain ⟨hP, hD⟩ := h9R
  refine lv_aload_n hx hb dX2_init_9 rfl (lv_at hl 0 rfl) ?_
  refine lv_iload_n hx hb dX2_init_10 rfl (lv_at hl 2 rfl) ?_
  refine va_putF (D := D) (ci := 2) (v := .int a_) (ty := .int) (C := RX2) (T := TX2) (N := 3) hx hb hts hi_X2_init_2 tyX2 tyX2_ok nmX2 hown hK hP hD hS 0 rfl rfl 1 (by decide) (hts (.fieldLink RX2 15 "TheLiningsInIt$Pull" "a" "I") (List.mem_of_getElem? (i := 5) rfl)) (fun _ h9 => h9) rfl hin rfl (tyX2_ok 1 (Nat.le_of_ble_eq_true rfl)) rfl rfl (Nat.le_of_ble_eq_true rfl) dX2_init_11 (fun H locs hP hD hS => ?_)
  have h9R := zRe (ws' := [(u0, .inr (2, [.int ki, .int a_, .int 0]))]) hP hD rfl
  clear hP hD
  obtain ⟨hP, hD⟩ := h9R
  refine lv_aload_n hx hb dX2_init_14 rfl (lv_at hl 0 rfl) ?_
  refine lv_iload_n hx hb dX2_init_15 rfl (lv_at hl 3 rfl) ?_
  refine va_putF (D := D) (ci := 2) (v := .int ta) (ty := .int) (C := RX2) (T := TX2) (N := 3) hx hb hts hi_X2_init_2 tyX2 tyX2_ok nmX2 hown hK hP hD hS 0 rfl rfl 2 (by decide) (hts (.fieldLink RX2 18 "TheLiningsInIt$Pull" "takes" "I") (List.mem_of_getElem? (i := 6) rfl)) (fun _ h9 => h9) rfl hin rfl (tyX2_ok 2 (Nat.le_of_ble_eq_true rfl)) rfl rfl (Nat.le_of_ble_eq_true rfl) dX2_init_16 (fun H locs hP hD hS => ?_)
  have h9R := zRe (ws' := [(u0, .inr (2, [.int ki, .int a_, .int ta]))]) hP hD rfl
  clear hP hD
  obtain ⟨hP, hD⟩ := h9R
  exact W.vret hx hb hr (fun t ht hW => ⟨⟨(), rfl, trivial, zRet ht hP hD [0] (by decide) rfl⟩, hS.F ht⟩) hS.2.2 dX2_init_19
theorem gl_X0_addPull_X00 : GoodIn wsX0_addPull wsX00 := (dg_t (dg_t (dg_t (dg_t (dg_t (dg_t (dg_t (dg_t (dg_t (dg_t (dg_t (dg_t (dg_t (dg_t (dg_t (dg_l gw_wsX00))))))))))))))))
theorem hi_X0_addPull_0 : ∀ w ∈ u_ws RX0 TX0 9, w ∈ wsX0_addPull := fun w h => (gl_X0_addPull_X00 w h).1
theorem hi_X0_addPull_2 : ∀ w ∈ u_ws RX2 TX2 3, w ∈ wsX0_addPull := fun w h => (gl_X0_addPull_X20 w h).1
theorem gl_X3_tellItem_X30 : GoodIn wsX3_tellItem wsX30 := (dg_t (dg_l (dg_l (dg_l (dg_r gw_wsX30)))))
theorem hi_X3_tellItem_3 : ∀ w ∈ u_ws RX3 TX3 8, w ∈ wsX3_tellItem := fun w h => (gl_X3_tellItem_X30 w h).1
theorem hi_X3_tellItem_0 : ∀ w ∈ u_ws RX0 TX0 9, w ∈ wsX3_tellItem := fun w h => (gl_X3_tellItem_X00 w h).1
theorem hi_X3_tellItem_6 : ∀ w ∈ u_ws RX6 TX6 5, w ∈ wsX3_tellItem := fun w h => (gl_X3_tellItem_X60 w h).1
end
section
theorem hi_X3_tell_3 : ∀ w ∈ u_ws RX3 TX3 8, w ∈ wsX3_tell := fun w h => (gl_X3_tell_X30 w h).1
end
section
theorem gl_X0_become_X00 : GoodIn wsX0_become wsX00 := (dg_t (dg_t (dg_t (dg_t (dg_t (dg_t (dg_t (dg_t (dg_t (dg_t (dg_t (dg_t (dg_t (dg_t (dg_t (dg_t (dg_t (dg_t (dg_t (dg_t (dg_t (dg_t (dg_t (dg_t (dg_l gw_wsX00)))))))))))))))))))))))))
theorem hi_X0_become_0 : ∀ w ∈ u_ws RX0 TX0 9, w ∈ wsX0_become := fun w h => (gl_X0_become_X00 w h).1
end
section
/-! a nest mate's private method that writes -/
section ZC
variable {p : Program} {l : Launch} {e : Env} {R : Room} {s : State} {m : MethodId} {args : Array Value} {below : List Frame} {meth : Method} {c : Code} {H : Heap} {locs : List Loc} {cells slots : Nat} {Q : State → Prop} {pc : Nat} {ls : Array Slot}
variable {y : MethodName} {bytes cc : ByteArray} {maxL nL mc ms n index : Nat} {ret : Option FieldType} {wsY : List Cond} {rm : Room} {Ts : List Cond} {own C host : String} {b : Addr} {As rest st0 : List Value} {wc ws wr : va_W} {D : va_G} {po : zPool} {tys : List (ClassId × FieldType)} {A : Nat → Prop} {H0 : Heap}
theorem zw_VN {S' : Type} {post : Int32 → S' → Prop} {wq : S' → va_W} (S : CallFix p m c cc nL s args Ts own) (hM : Met l y wsY rm (va_Pc (.ref b :: As) (zW D tys po wc H.size)) (va_Qi post (zB D wc H.size wq) (va_A wc H.size)) mc ms (va_A wc H.size)) (cw : va_CN R s args own index y host bytes maxL ret wsY rm mc ms n ∧ (Cond.instanceMethod y).before args s = true ∧ (Cond.selects C y y).before args s = true) (hK : va_K D vwCl tys s) (hN : zN s) (hZ : zE D po A s H) (hP : va_P D vwCl ws H) (hD : va_D A ws) (hS : va_S A H0 H locs) (hA : ∀ q, H0.size ≤ q → A q)
    (isC isR : List Nat) (hC : isC.map (fun i => ws[i]?) = wc.map some) (hR : isR.map (fun i => ws[i]?) = wr.map some) (hnC : va_nd isC = true) (hnR : va_nd isR = true) (hdis : ∀ i ∈ isR, i ∉ isC)
    (rv : ∃ cell : Cell, H[b]? = some cell ∧ cell.vm.isStatics = false ∧ s.vm.findClass C = some cell.cls) (hn : As.length = n) (hz : ls.size = nL) (hst : st0 = As.reverse ++ .ref b :: rest) (hw : (rest.map fun v => v.category).sum ≤ 8) (hdg : decode cc pc = .ok (.invokevirtual index, 3)) (hf : cells + mc ≤ R.cells ∧ slots + ms ≤ R.slots)
    (kk : ∀ (r : Int32) (u : S') (H1 : Heap) (locs1 : List Loc), post r u → va_P D vwCl (wr ++ wq u) H1 → va_D A (wr ++ wq u) → va_S A H0 H1 locs1 → W p l e R s m args below meth c H1 locs1 (cells + mc) (slots + ms) Q (F0 m (pc + 3) ls (.int r :: rest))) : W p l e R s m args below meth c H locs cells slots Q (F0 m pc ls st0) := by
  have hF := va_free (wc := wc) hD hS hA isC hC
  have hPc := zP_of hP hC
  have hDc : va_D (fun _ => True) wc := (hD.sub isC hnC hC).weaken (fun _ _ _ _ => trivial)
  refine va_calli (va_runVN S hM cw ⟨zW_fb, rv, fun U hU hW => ⟨rfl, by rw [hU], by rw [hU]; exact hPc, va_K.moved hW.alike hK, hDc, hN.warm hW, by rw [hU]; exact (hZ.warm hW).narrow hF⟩⟩ rfl hn hz hst (lv_room hw) hdg hf) hS (fun q _ h => hF q h) hF (fun r u t H1 locs1 ht hvm hw hB hz1 hk1 hS1 => ?_)
  obtain ⟨hP1, hD1⟩ := hB
  rw [ht] at hP1
  obtain ⟨hP2, hD2⟩ := va_join hP hD isC isR hC hR hnR hdis hk1 hF hP1 hD1
  exact kk r u H1 locs1 hw hP2 hD2 hS1
end ZC
end
section
def wsX7_shelfAt : List Cond := (.code yX7_shelfAt cX7_shelfAt 2 (some (.object "TheLiningsInIt$Shelf"))) :: (.fieldLink RX7 11 "TheLiningsInIt" "shelves" "[LTheLiningsInIt$Shelf;") :: (.methodLink RX7 67 yX7_within) :: (.static yX7_within) :: (.initialized RX7) :: (.code yX7_within cX7_within 3 (some .boolean)) :: wsX70
def wsX7_refuse : List Cond := (.code yX7_refuse cX7_refuse 2 (some .int)) :: (.fieldLink RX7 46 "TheLiningsInIt" "refusals" "[I") :: (.methodLink RX7 67 yX7_within) :: (.static yX7_within) :: (.initialized RX7) :: (.code yX7_within cX7_within 3 (some .boolean)) :: wsX70
def wsX7_row_r1 : List Cond := (Cond.methodLink RX7 59 yX7_shelfAt) :: (Cond.instanceMethod yX7_shelfAt) :: (Cond.selects RX7 yX7_shelfAt yX7_shelfAt) :: (Cond.initialized RX7) :: (Cond.code yX7_shelfAt cX7_shelfAt 2 (some (.object "TheLiningsInIt$Shelf"))) :: (Cond.fieldLink RX7 11 "TheLiningsInIt" "shelves" "[LTheLiningsInIt$Shelf;") :: (Cond.methodLink RX7 67 yX7_within) :: (Cond.static yX7_within) :: (Cond.code yX7_within cX7_within 3 (some .boolean)) :: (Cond.methodLink RX7 63 yX7_refuse) :: (Cond.instanceMethod yX7_refuse) :: (Cond.selects RX7 yX7_refuse yX7_refuse) :: (Cond.code yX7_refuse cX7_refuse 2 (some .int)) :: (Cond.fieldLink RX7 46 "TheLiningsInIt" "refusals" "[I") :: (Cond.methodLink RX7 71 yX4_holdRow) :: (Cond.instanceMethod yX4_holdRow) :: (Cond.selects RX4 yX4_holdRow yX4_holdRow) :: (Cond.initialized RX4) :: (Cond.code yX4_holdRow cX4_holdRow 3 none) :: (Cond.fieldLink RX4 15 "TheLiningsInIt$Shelf" "held" "I") :: (Cond.fieldLink RX4 19 "TheLiningsInIt$Shelf" "size" "I") :: (Cond.fieldLink RX4 9 "TheLiningsInIt$Shelf" "elements" "[J") :: (Cond.methodLink RX4 22 yJ7_fill_d0a16) :: (Cond.static yJ7_fill_d0a16) :: []
def wsX7_row_r2 : List Cond := (Cond.initialized RJ7) :: (Cond.code yJ7_fill_d0a16 cJ7_fill_d0a16 5 none) :: []
def wsX7_row : List Cond := (.code yX7_row cX7_row 5 (some .int)) :: ((wsX7_row_r1 ++ wsX7_row_r2) ++ wsX70 ++ wsX40)
def wsX7_set_r1 : List Cond := (Cond.methodLink RX7 59 yX7_shelfAt) :: (Cond.instanceMethod yX7_shelfAt) :: (Cond.selects RX7 yX7_shelfAt yX7_shelfAt) :: (Cond.initialized RX7) :: (Cond.code yX7_shelfAt cX7_shelfAt 2 (some (.object "TheLiningsInIt$Shelf"))) :: (Cond.fieldLink RX7 11 "TheLiningsInIt" "shelves" "[LTheLiningsInIt$Shelf;") :: (Cond.methodLink RX7 67 yX7_within) :: (Cond.static yX7_within) :: (Cond.code yX7_within cX7_within 3 (some .boolean)) :: (Cond.methodLink RX7 63 yX7_refuse) :: (Cond.instanceMethod yX7_refuse) :: (Cond.selects RX7 yX7_refuse yX7_refuse) :: (Cond.code yX7_refuse cX7_refuse 2 (some .int)) :: (Cond.fieldLink RX7 46 "TheLiningsInIt" "refusals" "[I") :: (Cond.methodLink RX7 75 yX4_noRow) :: (Cond.instanceMethod yX4_noRow) :: (Cond.selects RX4 yX4_noRow yX4_noRow) :: (Cond.initialized RX4) :: (Cond.code yX4_noRow cX4_noRow 1 (some .int)) :: (Cond.fieldLink RX4 15 "TheLiningsInIt$Shelf" "held" "I") :: (Cond.methodLink RX7 79 yX4_hasSpan) :: (Cond.instanceMethod yX4_hasSpan) :: (Cond.selects RX4 yX4_hasSpan yX4_hasSpan) :: (Cond.code yX4_hasSpan cX4_hasSpan 3 (some .boolean)) :: []
def wsX7_set_r2 : List Cond := (Cond.fieldLink RX4 19 "TheLiningsInIt$Shelf" "size" "I") :: (Cond.methodLink RX7 83 yX4_put) :: (Cond.instanceMethod yX4_put) :: (Cond.selects RX4 yX4_put yX4_put) :: (Cond.code yX4_put cX4_put 4 none) :: (Cond.fieldLink RX4 9 "TheLiningsInIt$Shelf" "elements" "[J") :: []
def wsX7_set : List Cond := (.code yX7_set cX7_set 7 (some .int)) :: ((wsX7_set_r1 ++ wsX7_set_r2) ++ wsX70 ++ wsX40)
def wsX7_copy_r1 : List Cond := (Cond.fieldLink RX7 87 "TheLiningsInIt$Shelf" "held" "I") :: (Cond.fieldLink RX7 90 "TheLiningsInIt$Shelf" "elements" "[J") :: (Cond.methodLink RX7 94 arraycopyName) :: (Cond.native arraycopyName) :: (Cond.static arraycopyName) :: (Cond.initialized "java/lang/System") :: (Cond.methodLink RX7 59 yX7_shelfAt) :: (Cond.instanceMethod yX7_shelfAt) :: (Cond.selects RX7 yX7_shelfAt yX7_shelfAt) :: (Cond.initialized RX7) :: (Cond.code yX7_shelfAt cX7_shelfAt 2 (some (.object "TheLiningsInIt$Shelf"))) :: (Cond.fieldLink RX7 11 "TheLiningsInIt" "shelves" "[LTheLiningsInIt$Shelf;") :: (Cond.methodLink RX7 67 yX7_within) :: (Cond.static yX7_within) :: (Cond.code yX7_within cX7_within 3 (some .boolean)) :: (Cond.methodLink RX7 63 yX7_refuse) :: (Cond.instanceMethod yX7_refuse) :: (Cond.selects RX7 yX7_refuse yX7_refuse) :: (Cond.code yX7_refuse cX7_refuse 2 (some .int)) :: (Cond.fieldLink RX7 46 "TheLiningsInIt" "refusals" "[I") :: (Cond.methodLink RX7 75 yX4_noRow) :: (Cond.instanceMethod yX4_noRow) :: (Cond.selects RX4 yX4_noRow yX4_noRow) :: (Cond.initialized RX4) :: []
def wsX7_copy_r2 : List Cond := (Cond.code yX4_noRow cX4_noRow 1 (some .int)) :: (Cond.fieldLink RX4 15 "TheLiningsInIt$Shelf" "held" "I") :: (Cond.methodLink RX7 79 yX4_hasSpan) :: (Cond.instanceMethod yX4_hasSpan) :: (Cond.selects RX4 yX4_hasSpan yX4_hasSpan) :: (Cond.code yX4_hasSpan cX4_hasSpan 3 (some .boolean)) :: (Cond.fieldLink RX4 19 "TheLiningsInIt$Shelf" "size" "I") :: []
def wsX7_copy : List Cond := (.code yX7_copy cX7_copy 11 (some .int)) :: ((wsX7_copy_r1 ++ wsX7_copy_r2) ++ wsX40 ++ wsX70)
def wsX7_element : List Cond := (.code yX7_element cX7_element 4 (some .long)) :: (.fieldLink RX7 90 "TheLiningsInIt$Shelf" "elements" "[J") :: (.methodLink RX7 59 yX7_shelfAt) :: (.instanceMethod yX7_shelfAt) :: (.selects RX7 yX7_shelfAt yX7_shelfAt) :: (.initialized RX7) :: (.code yX7_shelfAt cX7_shelfAt 2 (some (.object "TheLiningsInIt$Shelf"))) :: (.fieldLink RX7 11 "TheLiningsInIt" "shelves" "[LTheLiningsInIt$Shelf;") :: (.methodLink RX7 67 yX7_within) :: (.static yX7_within) :: (.code yX7_within cX7_within 3 (some .boolean)) :: (.methodLink RX7 75 yX4_noRow) :: (.instanceMethod yX4_noRow) :: (.selects RX4 yX4_noRow yX4_noRow) :: (.initialized RX4) :: (.code yX4_noRow cX4_noRow 1 (some .int)) :: (.fieldLink RX4 15 "TheLiningsInIt$Shelf" "held" "I") :: (.methodLink RX7 79 yX4_hasSpan) :: (.instanceMethod yX4_hasSpan) :: (.selects RX4 yX4_hasSpan yX4_hasSpan) :: (.code yX4_hasSpan cX4_hasSpan 3 (some .boolean)) :: (.fieldLink RX4 19 "TheLiningsInIt$Shelf" "size" "I") :: (wsX40 ++ wsX70)
def wsX7_show : List Cond := (.code yX7_show cX7_show 4 (some .int)) :: (.fieldLink RX7 18 "TheLiningsInIt" "now" "LTheLiningsInIt$Jacket;") :: (.fieldLink RX7 87 "TheLiningsInIt$Shelf" "held" "I") :: (.methodLink RX7 59 yX7_shelfAt) :: (.instanceMethod yX7_shelfAt) :: (.selects RX7 yX7_shelfAt yX7_shelfAt) :: (.initialized RX7) :: (.code yX7_shelfAt cX7_shelfAt 2 (some (.object "TheLiningsInIt$Shelf"))) :: (.fieldLink RX7 11 "TheLiningsInIt" "shelves" "[LTheLiningsInIt$Shelf;") :: (.methodLink RX7 67 yX7_within) :: (.static yX7_within) :: (.code yX7_within cX7_within 3 (some .boolean)) :: (.methodLink RX7 100 yX0_pullAt) :: (.instanceMethod yX0_pullAt) :: (.selects RX0 yX0_pullAt yX0_pullAt) :: (.initialized RX0) :: (.code yX0_pullAt cX0_pullAt 2 (some (.object "TheLiningsInIt$Pull"))) :: (.fieldLink RX0 28 "TheLiningsInIt$Jacket" "pullCount" "I") :: (.fieldLink RX0 20 "TheLiningsInIt$Jacket" "pulls" "[LTheLiningsInIt$Pull;") :: (.methodLink RX7 63 yX7_refuse) :: (.instanceMethod yX7_refuse) :: (.selects RX7 yX7_refuse yX7_refuse) :: (.code yX7_refuse cX7_refuse 2 (some .int)) :: (.fieldLink RX7 46 "TheLiningsInIt" "refusals" "[I") :: (wsX70 ++ wsX40 ++ wsX00)
def wsX7_holds : List Cond := (.code yX7_holds cX7_holds 3 (some .int)) :: (.fieldLink RX7 87 "TheLiningsInIt$Shelf" "held" "I") :: (.methodLink RX7 59 yX7_shelfAt) :: (.instanceMethod yX7_shelfAt) :: (.selects RX7 yX7_shelfAt yX7_shelfAt) :: (.initialized RX7) :: (.code yX7_shelfAt cX7_shelfAt 2 (some (.object "TheLiningsInIt$Shelf"))) :: (.fieldLink RX7 11 "TheLiningsInIt" "shelves" "[LTheLiningsInIt$Shelf;") :: (.methodLink RX7 67 yX7_within) :: (.static yX7_within) :: (.code yX7_within cX7_within 3 (some .boolean)) :: (wsX40 ++ wsX70)
def wsX7_says_r1 : List Cond := (Cond.fieldLink RX7 87 "TheLiningsInIt$Shelf" "held" "I") :: (Cond.fieldLink RX7 18 "TheLiningsInIt" "now" "LTheLiningsInIt$Jacket;") :: (Cond.fieldLink RX7 110 "TheLiningsInIt$Pull" "takes" "I") :: (Cond.fieldLink RX7 116 "TheLiningsInIt$Jacket" "hurry" "I") :: (Cond.methodLink RX7 59 yX7_shelfAt) :: (Cond.instanceMethod yX7_shelfAt) :: (Cond.selects RX7 yX7_shelfAt yX7_shelfAt) :: (Cond.initialized RX7) :: (Cond.code yX7_shelfAt cX7_shelfAt 2 (some (.object "TheLiningsInIt$Shelf"))) :: (Cond.fieldLink RX7 11 "TheLiningsInIt" "shelves" "[LTheLiningsInIt$Shelf;") :: (Cond.methodLink RX7 67 yX7_within) :: (Cond.static yX7_within) :: (Cond.code yX7_within cX7_within 3 (some .boolean)) :: (Cond.methodLink RX7 63 yX7_refuse) :: (Cond.instanceMethod yX7_refuse) :: (Cond.selects RX7 yX7_refuse yX7_refuse) :: (Cond.code yX7_refuse cX7_refuse 2 (some .int)) :: (Cond.fieldLink RX7 46 "TheLiningsInIt" "refusals" "[I") :: (Cond.methodLink RX7 100 yX0_pullAt) :: (Cond.instanceMethod yX0_pullAt) :: (Cond.selects RX0 yX0_pullAt yX0_pullAt) :: (Cond.initialized RX0) :: (Cond.code yX0_pullAt cX0_pullAt 2 (some (.object "TheLiningsInIt$Pull"))) :: (Cond.fieldLink RX0 28 "TheLiningsInIt$Jacket" "pullCount" "I") :: []
def wsX7_says_r2 : List Cond := (Cond.fieldLink RX0 20 "TheLiningsInIt$Jacket" "pulls" "[LTheLiningsInIt$Pull;") :: (Cond.methodLink RX7 104 yX2_isOf) :: (Cond.instanceMethod yX2_isOf) :: (Cond.selects RX2 yX2_isOf yX2_isOf) :: (Cond.initialized RX2) :: (Cond.code yX2_isOf cX2_isOf 4 (some .boolean)) :: (Cond.fieldLink RX2 9 "TheLiningsInIt$Pull" "kind" "I") :: (Cond.methodLink RX7 113 yX2_step) :: (Cond.instanceMethod yX2_step) :: (Cond.selects RX2 yX2_step yX2_step) :: (Cond.code yX2_step cX2_step 1 (some .int)) :: (Cond.fieldLink RX2 15 "TheLiningsInIt$Pull" "a" "I") :: (Cond.methodLink RX7 119 yX2_waysAt) :: (Cond.instanceMethod yX2_waysAt) :: (Cond.selects RX2 yX2_waysAt yX2_waysAt) :: (Cond.code yX2_waysAt cX2_waysAt 3 (some .int)) :: (Cond.methodLink RX2 33 Lib.Math.min.name) :: (Cond.static Lib.Math.min.name) :: (Cond.initialized "java/lang/Math") :: (Cond.code Lib.Math.min.name Lib.Math.min.code 2 (some .int)) :: (Cond.methodLink RX2 39 Lib.Math.max.name) :: (Cond.static Lib.Math.max.name) :: (Cond.code Lib.Math.max.name Lib.Math.max.code 2 (some .int)) :: (Cond.methodLink RX2 29 yX2_calmWaysAt) :: []
def wsX7_says_r3 : List Cond := (Cond.instanceMethod yX2_calmWaysAt) :: (Cond.selects RX2 yX2_calmWaysAt yX2_calmWaysAt) :: (Cond.code yX2_calmWaysAt cX2_calmWaysAt 2 (some .int)) :: []
def wsX7_says : List Cond := (.code yX7_says cX7_says 5 (some .int)) :: ((wsX7_says_r1 ++ (wsX7_says_r2 ++ wsX7_says_r3)) ++ wsX40 ++ wsX70 ++ wsX20 ++ wsX00)
def wsX7_pull_r1 : List Cond := (Cond.fieldLink RX7 18 "TheLiningsInIt" "now" "LTheLiningsInIt$Jacket;") :: (Cond.fieldLink RX7 123 "TheLiningsInIt$Jacket" "pullCount" "I") :: (Cond.methodLink RX7 67 yX7_within) :: (Cond.static yX7_within) :: (Cond.initialized RX7) :: (Cond.code yX7_within cX7_within 3 (some .boolean)) :: (Cond.methodLink RX7 63 yX7_refuse) :: (Cond.instanceMethod yX7_refuse) :: (Cond.selects RX7 yX7_refuse yX7_refuse) :: (Cond.code yX7_refuse cX7_refuse 2 (some .int)) :: (Cond.fieldLink RX7 46 "TheLiningsInIt" "refusals" "[I") :: (Cond.methodLink RX7 126 yX0_addPull) :: (Cond.instanceMethod yX0_addPull) :: (Cond.selects RX0 yX0_addPull yX0_addPull) :: (Cond.initialized RX0) :: (Cond.code yX0_addPull cX0_addPull 4 (some .int)) :: (Cond.fieldLink RX0 28 "TheLiningsInIt$Jacket" "pullCount" "I") :: (Cond.fieldLink RX0 20 "TheLiningsInIt$Jacket" "pulls" "[LTheLiningsInIt$Pull;") :: (Cond.classLink RX0 18 RX2) :: (Cond.instantiable RX2 3) :: (Cond.initialized RX2) :: (Cond.methodLink RX0 70 yX2_init) :: (Cond.instanceMethod yX2_init) :: (Cond.code yX2_init cX2_init 4 none) :: []
def wsX7_pull_r2 : List Cond := (Cond.methodLink RX2 3 objectInit) :: (Cond.instanceMethod objectInit) :: (Cond.code objectInit ⟨#[0xb1]⟩ 1 none) :: (Cond.fieldLink RX2 9 "TheLiningsInIt$Pull" "kind" "I") :: (Cond.fieldLink RX2 15 "TheLiningsInIt$Pull" "a" "I") :: (Cond.fieldLink RX2 18 "TheLiningsInIt$Pull" "takes" "I") :: []
def wsX7_pull : List Cond := (.code yX7_pull cX7_pull 4 (some .int)) :: ((wsX7_pull_r1 ++ wsX7_pull_r2) ++ wsX70 ++ wsX00 ++ wsX20)
def wsX7_pullOf_r1 : List Cond := (Cond.fieldLink RX7 18 "TheLiningsInIt" "now" "LTheLiningsInIt$Jacket;") :: (Cond.fieldLink RX7 130 "TheLiningsInIt$Pull" "kind" "I") :: (Cond.fieldLink RX7 133 "TheLiningsInIt$Pull" "a" "I") :: (Cond.fieldLink RX7 110 "TheLiningsInIt$Pull" "takes" "I") :: (Cond.methodLink RX7 100 yX0_pullAt) :: (Cond.instanceMethod yX0_pullAt) :: (Cond.selects RX0 yX0_pullAt yX0_pullAt) :: (Cond.initialized RX0) :: (Cond.code yX0_pullAt cX0_pullAt 2 (some (.object "TheLiningsInIt$Pull"))) :: (Cond.fieldLink RX0 28 "TheLiningsInIt$Jacket" "pullCount" "I") :: (Cond.fieldLink RX0 20 "TheLiningsInIt$Jacket" "pulls" "[LTheLiningsInIt$Pull;") :: (Cond.static yX7_within) :: (Cond.initialized RX7) :: (Cond.code yX7_within cX7_within 3 (some .boolean)) :: (Cond.methodLink RX7 63 yX7_refuse) :: (Cond.instanceMethod yX7_refuse) :: (Cond.selects RX7 yX7_refuse yX7_refuse) :: (Cond.code yX7_refuse cX7_refuse 2 (some .int)) :: (Cond.fieldLink RX7 46 "TheLiningsInIt" "refusals" "[I") :: (Cond.methodLink RX7 67 yX7_within) :: (Cond.methodLink RX7 113 yX2_step) :: (Cond.instanceMethod yX2_step) :: (Cond.selects RX2 yX2_step yX2_step) :: (Cond.initialized RX2) :: []
def wsX7_pullOf_r2 : List Cond := (Cond.code yX2_step cX2_step 1 (some .int)) :: (Cond.fieldLink RX2 9 "TheLiningsInIt$Pull" "kind" "I") :: (Cond.fieldLink RX2 15 "TheLiningsInIt$Pull" "a" "I") :: (Cond.methodLink RX7 136 yX0_mayBe) :: (Cond.instanceMethod yX0_mayBe) :: (Cond.selects RX0 yX0_mayBe yX0_mayBe) :: (Cond.code yX0_mayBe cX0_mayBe 2 (some .boolean)) :: (Cond.fieldLink RX0 32 "TheLiningsInIt$Jacket" "depth" "I") :: (Cond.fieldLink RX0 38 "TheLiningsInIt$Jacket" "seconds" "I") :: (Cond.methodLink RX0 73 yX2_mayBe) :: (Cond.instanceMethod yX2_mayBe) :: (Cond.selects RX2 yX2_mayBe yX2_mayBe) :: (Cond.code yX2_mayBe cX2_mayBe 3 (some .boolean)) :: (Cond.fieldLink RX2 18 "TheLiningsInIt$Pull" "takes" "I") :: []
def wsX7_pullOf : List Cond := (.code yX7_pullOf cX7_pullOf 4 (some .int)) :: ((wsX7_pullOf_r1 ++ wsX7_pullOf_r2) ++ wsX70 ++ wsX20 ++ wsX00)
def wsX7_teeth : List Cond := (.code yX7_teeth cX7_teeth 3 (some .int)) :: (.fieldLink RX7 18 "TheLiningsInIt" "now" "LTheLiningsInIt$Jacket;") :: (.fieldLink RX7 140 "TheLiningsInIt$Jacket" "zip" "LTheLiningsInIt$Zip;") :: (.fieldLink RX7 144 "TheLiningsInIt$Zip" "size" "I") :: (.methodLink RX7 67 yX7_within) :: (.static yX7_within) :: (.initialized RX7) :: (.code yX7_within cX7_within 3 (some .boolean)) :: (.methodLink RX7 63 yX7_refuse) :: (.instanceMethod yX7_refuse) :: (.selects RX7 yX7_refuse yX7_refuse) :: (.code yX7_refuse cX7_refuse 2 (some .int)) :: (.fieldLink RX7 46 "TheLiningsInIt" "refusals" "[I") :: (.methodLink RX7 149 yX6_renew) :: (.instanceMethod yX6_renew) :: (.selects RX6 yX6_renew yX6_renew) :: (.initialized RX6) :: (.code yX6_renew cX6_renew 3 none) :: (.fieldLink RX6 19 "TheLiningsInIt$Zip" "size" "I") :: (.fieldLink RX6 23 "TheLiningsInIt$Zip" "at" "I") :: (.fieldLink RX6 9 "TheLiningsInIt$Zip" "lacking" "[Z") :: (.fieldLink RX6 15 "TheLiningsInIt$Zip" "slacks" "[I") :: (wsX70 ++ wsX00 ++ wsX60)
def wsX7_lack : List Cond := (.code yX7_lack cX7_lack 4 (some .int)) :: (.fieldLink RX7 18 "TheLiningsInIt" "now" "LTheLiningsInIt$Jacket;") :: (.fieldLink RX7 140 "TheLiningsInIt$Jacket" "zip" "LTheLiningsInIt$Zip;") :: (.fieldLink RX7 156 "TheLiningsInIt$Zip" "lacking" "[Z") :: (.methodLink RX7 153 yX6_has) :: (.instanceMethod yX6_has) :: (.selects RX6 yX6_has yX6_has) :: (.initialized RX6) :: (.code yX6_has cX6_has 2 (some .boolean)) :: (.fieldLink RX6 19 "TheLiningsInIt$Zip" "size" "I") :: (.methodLink RX7 63 yX7_refuse) :: (.instanceMethod yX7_refuse) :: (.selects RX7 yX7_refuse yX7_refuse) :: (.initialized RX7) :: (.code yX7_refuse cX7_refuse 2 (some .int)) :: (.fieldLink RX7 46 "TheLiningsInIt" "refusals" "[I") :: (.methodLink RX7 67 yX7_within) :: (.static yX7_within) :: (.code yX7_within cX7_within 3 (some .boolean)) :: (wsX70 ++ wsX00 ++ wsX60)
def wsX7_slack : List Cond := (.code yX7_slack cX7_slack 4 (some .int)) :: (.fieldLink RX7 18 "TheLiningsInIt" "now" "LTheLiningsInIt$Jacket;") :: (.fieldLink RX7 140 "TheLiningsInIt$Jacket" "zip" "LTheLiningsInIt$Zip;") :: (.fieldLink RX7 160 "TheLiningsInIt$Zip" "slacks" "[I") :: (.methodLink RX7 153 yX6_has) :: (.instanceMethod yX6_has) :: (.selects RX6 yX6_has yX6_has) :: (.initialized RX6) :: (.code yX6_has cX6_has 2 (some .boolean)) :: (.fieldLink RX6 19 "TheLiningsInIt$Zip" "size" "I") :: (.methodLink RX7 63 yX7_refuse) :: (.instanceMethod yX7_refuse) :: (.selects RX7 yX7_refuse yX7_refuse) :: (.initialized RX7) :: (.code yX7_refuse cX7_refuse 2 (some .int)) :: (.fieldLink RX7 46 "TheLiningsInIt" "refusals" "[I") :: (.methodLink RX7 67 yX7_within) :: (.static yX7_within) :: (.code yX7_within cX7_within 3 (some .boolean)) :: (wsX70 ++ wsX00 ++ wsX60)
def wsX7_ask_r1 : List Cond := (Cond.fieldLink RX7 18 "TheLiningsInIt" "now" "LTheLiningsInIt$Jacket;") :: (Cond.methodLink RX7 67 yX7_within) :: (Cond.static yX7_within) :: (Cond.initialized RX7) :: (Cond.code yX7_within cX7_within 3 (some .boolean)) :: (Cond.methodLink RX7 163 yX0_leastOf) :: (Cond.static yX0_leastOf) :: (Cond.initialized RX0) :: (Cond.code yX0_leastOf cX0_leastOf 1 (some .int)) :: (Cond.methodLink RX7 166 yX0_mostOf) :: (Cond.instanceMethod yX0_mostOf) :: (Cond.selects RX0 yX0_mostOf yX0_mostOf) :: (Cond.code yX0_mostOf cX0_mostOf 2 (some .int)) :: (Cond.fieldLink RX0 12 "TheLiningsInIt$Jacket" "zip" "LTheLiningsInIt$Zip;") :: (Cond.fieldLink RX0 57 "TheLiningsInIt$Zip" "size" "I") :: (Cond.methodLink RX7 63 yX7_refuse) :: (Cond.instanceMethod yX7_refuse) :: (Cond.selects RX7 yX7_refuse yX7_refuse) :: (Cond.code yX7_refuse cX7_refuse 2 (some .int)) :: (Cond.fieldLink RX7 46 "TheLiningsInIt" "refusals" "[I") :: (Cond.methodLink RX7 169 yX0_number) :: (Cond.instanceMethod yX0_number) :: (Cond.selects RX0 yX0_number yX0_number) :: (Cond.code yX0_number cX0_number 2 (some .int)) :: []
def wsX7_ask_r2 : List Cond := (Cond.fieldLink RX0 32 "TheLiningsInIt$Jacket" "depth" "I") :: (Cond.fieldLink RX0 38 "TheLiningsInIt$Jacket" "seconds" "I") :: (Cond.fieldLink RX0 41 "TheLiningsInIt$Jacket" "hurry" "I") :: (Cond.fieldLink RX0 60 "TheLiningsInIt$Zip" "gap" "I") :: (Cond.fieldLink RX0 63 "TheLiningsInIt$Zip" "at" "I") :: (Cond.fieldLink RX0 24 "TheLiningsInIt$Jacket" "costs" "[I") :: (Cond.methodLink RX7 172 yX0_setNumber) :: (Cond.instanceMethod yX0_setNumber) :: (Cond.selects RX0 yX0_setNumber yX0_setNumber) :: (Cond.code yX0_setNumber cX0_setNumber 3 none) :: []
def wsX7_ask : List Cond := (.code yX7_ask cX7_ask 4 (some .int)) :: ((wsX7_ask_r1 ++ wsX7_ask_r2) ++ wsX70 ++ wsX00 ++ wsX60)
def wsX7_jacket_r1 : List Cond := (Cond.fieldLink RX7 35 "TheLiningsInIt" "reader" "LTheLiningsInIt$Reader;") :: (Cond.fieldLink RX7 18 "TheLiningsInIt" "now" "LTheLiningsInIt$Jacket;") :: (Cond.fieldLink RX7 140 "TheLiningsInIt$Jacket" "zip" "LTheLiningsInIt$Zip;") :: (Cond.fieldLink RX7 144 "TheLiningsInIt$Zip" "size" "I") :: (Cond.fieldLink RX7 123 "TheLiningsInIt$Jacket" "pullCount" "I") :: (Cond.fieldLink RX7 54 "TheLiningsInIt" "latestFault" "I") :: (Cond.fieldLink RX7 183 "TheLiningsInIt$Reader" "count" "I") :: (Cond.methodLink RX7 59 yX7_shelfAt) :: (Cond.instanceMethod yX7_shelfAt) :: (Cond.selects RX7 yX7_shelfAt yX7_shelfAt) :: (Cond.initialized RX7) :: (Cond.code yX7_shelfAt cX7_shelfAt 2 (some (.object "TheLiningsInIt$Shelf"))) :: (Cond.fieldLink RX7 11 "TheLiningsInIt" "shelves" "[LTheLiningsInIt$Shelf;") :: (Cond.methodLink RX7 67 yX7_within) :: (Cond.static yX7_within) :: (Cond.code yX7_within cX7_within 3 (some .boolean)) :: (Cond.methodLink RX7 63 yX7_refuse) :: (Cond.instanceMethod yX7_refuse) :: (Cond.selects RX7 yX7_refuse yX7_refuse) :: (Cond.code yX7_refuse cX7_refuse 2 (some .int)) :: (Cond.fieldLink RX7 46 "TheLiningsInIt" "refusals" "[I") :: (Cond.methodLink RX7 75 yX4_noRow) :: (Cond.instanceMethod yX4_noRow) :: (Cond.selects RX4 yX4_noRow yX4_noRow) :: []
def wsX7_jacket_r2 : List Cond := (Cond.initialized RX4) :: (Cond.code yX4_noRow cX4_noRow 1 (some .int)) :: (Cond.fieldLink RX4 15 "TheLiningsInIt$Shelf" "held" "I") :: (Cond.methodLink RX7 175 yX3_read) :: (Cond.instanceMethod yX3_read) :: (Cond.selects RX3 yX3_read yX3_read) :: (Cond.initialized RX3) :: (Cond.code yX3_read cX3_read 5 (some .int)) :: (Cond.fieldLink RX3 31 "TheLiningsInIt$Reader" "teeth" "I") :: (Cond.fieldLink RX3 34 "TheLiningsInIt$Reader" "pulls" "I") :: (Cond.fieldLink RX3 25 "TheLiningsInIt$Reader" "place" "I") :: (Cond.fieldLink RX3 28 "TheLiningsInIt$Reader" "fault" "I") :: (Cond.fieldLink RX3 22 "TheLiningsInIt$Reader" "count" "I") :: (Cond.fieldLink RX3 18 "TheLiningsInIt$Reader" "size" "I") :: (Cond.methodLink RX3 37 yX3_takeLetters) :: (Cond.instanceMethod yX3_takeLetters) :: (Cond.selects RX3 yX3_takeLetters yX3_takeLetters) :: (Cond.code yX3_takeLetters cX3_takeLetters 3 none) :: (Cond.fieldLink RX3 49 "TheLiningsInIt$Shelf" "size" "I") :: (Cond.methodLink RX3 52 Lib.Math.min.name) :: (Cond.static Lib.Math.min.name) :: (Cond.initialized "java/lang/Math") :: (Cond.code Lib.Math.min.name Lib.Math.min.code 2 (some .int)) :: (Cond.fieldLink RX3 15 "TheLiningsInIt$Reader" "letters" "[I") :: []
def wsX7_jacket_r3 : List Cond := (Cond.methodLink RX3 58 yX4_tells) :: (Cond.instanceMethod yX4_tells) :: (Cond.selects RX4 yX4_tells yX4_tells) :: (Cond.code yX4_tells cX4_tells 2 (some .int)) :: (Cond.fieldLink RX4 9 "TheLiningsInIt$Shelf" "elements" "[J") :: (Cond.methodLink RX4 36 yX4_hasSpan) :: (Cond.instanceMethod yX4_hasSpan) :: (Cond.selects RX4 yX4_hasSpan yX4_hasSpan) :: (Cond.code yX4_hasSpan cX4_hasSpan 3 (some .boolean)) :: (Cond.fieldLink RX4 19 "TheLiningsInIt$Shelf" "size" "I") :: (Cond.methodLink RX3 41 yX3_readItem) :: (Cond.instanceMethod yX3_readItem) :: (Cond.selects RX3 yX3_readItem yX3_readItem) :: (Cond.code yX3_readItem cX3_readItem 4 none) :: (Cond.fieldLink RX3 11 "TheLiningsInIt$Reader" "items" "[I") :: (Cond.methodLink RX3 62 yX3_readWord) :: (Cond.instanceMethod yX3_readWord) :: (Cond.selects RX3 yX3_readWord yX3_readWord) :: (Cond.code yX3_readWord cX3_readWord 5 (some .int)) :: (Cond.methodLink RX3 98 Lib.Math.max.name) :: (Cond.static Lib.Math.max.name) :: (Cond.code Lib.Math.max.name Lib.Math.max.code 2 (some .int)) :: (Cond.methodLink RX3 82 yX3_wordAt) :: (Cond.static yX3_wordAt) :: []
def wsX7_jacket_r4 : List Cond := (Cond.code yX3_wordAt cX3_wordAt 1 (some (.object "java/lang/String"))) :: (Cond.methodLink RX3 86 yX3_lettersStanding) :: (Cond.instanceMethod yX3_lettersStanding) :: (Cond.selects RX3 yX3_lettersStanding yX3_lettersStanding) :: (Cond.code yX3_lettersStanding cX3_lettersStanding 3 (some .int)) :: (Cond.methodLink RX3 90 yJ0_length_8abf5) :: (Cond.instanceMethod yJ0_length_8abf5) :: (Cond.selects RJ0 yJ0_length_8abf5 yJ0_length_8abf5) :: (Cond.initialized RJ0) :: (Cond.code yJ0_length_8abf5 cJ0_length_8abf5 1 (some .int)) :: (Cond.fieldLink RJ0 9 "java/lang/String" "value" "[B") :: (Cond.methodLink RJ0 335 yJ0_coder_7d493) :: (Cond.instanceMethod yJ0_coder_7d493) :: (Cond.selects RJ0 yJ0_coder_7d493 yJ0_coder_7d493) :: (Cond.code yJ0_coder_7d493 cJ0_coder_7d493 1 (some .byte)) :: (Cond.fieldLink RJ0 38 "java/lang/String" "COMPACT_STRINGS" "Z") :: (Cond.fieldLink RJ0 15 "java/lang/String" "coder" "B") :: (Cond.methodLink RX3 101 yJ0_charAt_5068e) :: (Cond.instanceMethod yJ0_charAt_5068e) :: (Cond.selects RJ0 yJ0_charAt_5068e yJ0_charAt_5068e) :: (Cond.code yJ0_charAt_5068e cJ0_charAt_5068e 2 (some .char)) :: (Cond.methodLink RJ0 492 yJ0_isLatin1_aae02) :: (Cond.instanceMethod yJ0_isLatin1_aae02) :: (Cond.selects RJ0 yJ0_isLatin1_aae02 yJ0_isLatin1_aae02) :: []
def wsX7_jacket_r5 : List Cond := (Cond.code yJ0_isLatin1_aae02 cJ0_isLatin1_aae02 1 (some .boolean)) :: (Cond.methodLink RJ0 495 yJ1_charAt_3b067) :: (Cond.static yJ1_charAt_3b067) :: (Cond.initialized RJ1) :: (Cond.code yJ1_charAt_3b067 cJ1_charAt_3b067 2 (some .char)) :: (Cond.methodLink RJ1 9 yJ0_checkIndex_df160) :: (Cond.static yJ0_checkIndex_df160) :: (Cond.code yJ0_checkIndex_df160 cJ0_checkIndex_df160 2 none) :: (Cond.fieldLink RJ0 1053 "jdk/internal/util/Preconditions" "SIOOBE_FORMATTER" "Ljava/util/function/BiFunction;") :: (Cond.methodLink RJ0 1059 yJ3_checkIndex_8e157) :: (Cond.static yJ3_checkIndex_8e157) :: (Cond.initialized RJ3) :: (Cond.code yJ3_checkIndex_8e157 cJ3_checkIndex_8e157 3 (some .int)) :: (Cond.methodLink RJ0 498 yJ2_charAt_3b067) :: (Cond.static yJ2_charAt_3b067) :: (Cond.initialized RJ2) :: (Cond.code yJ2_charAt_3b067 cJ2_charAt_3b067 2 (some .char)) :: (Cond.methodLink RJ2 67 yJ2_checkIndex_2214a) :: (Cond.static yJ2_checkIndex_2214a) :: (Cond.code yJ2_checkIndex_2214a cJ2_checkIndex_2214a 2 none) :: (Cond.methodLink RJ2 48 yJ2_length_9d52b) :: (Cond.static yJ2_length_9d52b) :: (Cond.code yJ2_length_9d52b cJ2_length_9d52b 1 (some .int)) :: (Cond.methodLink RJ2 414 yJ0_checkIndex_df160) :: []
def wsX7_jacket_r6 : List Cond := (Cond.methodLink RJ2 71 yJ2_getChar_3b067) :: (Cond.static yJ2_getChar_3b067) :: (Cond.code yJ2_getChar_3b067 cJ2_getChar_3b067 2 (some .char)) :: (Cond.fieldLink RJ2 44 "java/lang/StringUTF16" "$assertionsDisabled" "Z") :: (Cond.fieldLink RJ2 59 "java/lang/StringUTF16" "HI_BYTE_SHIFT" "I") :: (Cond.fieldLink RJ2 63 "java/lang/StringUTF16" "LO_BYTE_SHIFT" "I") :: (Cond.methodLink RX3 78 yX3_stands) :: (Cond.instanceMethod yX3_stands) :: (Cond.selects RX3 yX3_stands yX3_stands) :: (Cond.code yX3_stands cX3_stands 3 (some .boolean)) :: (Cond.methodLink RX3 95 yX3_takeWord) :: (Cond.instanceMethod yX3_takeWord) :: (Cond.selects RX3 yX3_takeWord yX3_takeWord) :: (Cond.code yX3_takeWord cX3_takeWord 3 (some .int)) :: (Cond.methodLink RX3 66 yX3_numbersOf) :: (Cond.static yX3_numbersOf) :: (Cond.code yX3_numbersOf cX3_numbersOf 1 (some .int)) :: (Cond.methodLink RX3 45 yX3_expect) :: (Cond.instanceMethod yX3_expect) :: (Cond.selects RX3 yX3_expect yX3_expect) :: (Cond.code yX3_expect cX3_expect 2 none) :: (Cond.methodLink RX3 69 yX3_leastOf) :: (Cond.static yX3_leastOf) :: (Cond.code yX3_leastOf cX3_leastOf 2 (some .int)) :: []
def wsX7_jacket_r7 : List Cond := (Cond.methodLink RX3 72 yX3_mostOf) :: (Cond.instanceMethod yX3_mostOf) :: (Cond.selects RX3 yX3_mostOf yX3_mostOf) :: (Cond.code yX3_mostOf cX3_mostOf 3 (some .int)) :: (Cond.methodLink RX3 75 yX3_readNumber) :: (Cond.instanceMethod yX3_readNumber) :: (Cond.selects RX3 yX3_readNumber yX3_readNumber) :: (Cond.code yX3_readNumber cX3_readNumber 5 (some .int)) :: (Cond.methodLink RX3 105 yX3_isDigit) :: (Cond.static yX3_isDigit) :: (Cond.code yX3_isDigit cX3_isDigit 1 (some .boolean)) :: (Cond.methodLink RX7 179 yX3_tell) :: (Cond.instanceMethod yX3_tell) :: (Cond.selects RX3 yX3_tell yX3_tell) :: (Cond.code yX3_tell cX3_tell 3 none) :: (Cond.methodLink RX3 132 yX3_tellItem) :: (Cond.instanceMethod yX3_tellItem) :: (Cond.selects RX3 yX3_tellItem yX3_tellItem) :: (Cond.code yX3_tellItem cX3_tellItem 5 none) :: (Cond.fieldLink RX3 136 "TheLiningsInIt$Jacket" "zip" "LTheLiningsInIt$Zip;") :: (Cond.fieldLink RX3 147 "TheLiningsInIt$Zip" "lacking" "[Z") :: (Cond.fieldLink RX3 151 "TheLiningsInIt$Zip" "slacks" "[I") :: (Cond.fieldLink RX3 158 "TheLiningsInIt$Jacket" "costs" "[I") :: (Cond.fieldLink RX3 161 "TheLiningsInIt$Zip" "at" "I") :: []
def wsX7_jacket_r8 : List Cond := (Cond.methodLink RX3 142 yX6_renew) :: (Cond.instanceMethod yX6_renew) :: (Cond.selects RX6 yX6_renew yX6_renew) :: (Cond.initialized RX6) :: (Cond.code yX6_renew cX6_renew 3 none) :: (Cond.fieldLink RX6 19 "TheLiningsInIt$Zip" "size" "I") :: (Cond.fieldLink RX6 23 "TheLiningsInIt$Zip" "at" "I") :: (Cond.fieldLink RX6 9 "TheLiningsInIt$Zip" "lacking" "[Z") :: (Cond.fieldLink RX6 15 "TheLiningsInIt$Zip" "slacks" "[I") :: (Cond.methodLink RX3 154 yX0_addPull) :: (Cond.instanceMethod yX0_addPull) :: (Cond.selects RX0 yX0_addPull yX0_addPull) :: (Cond.initialized RX0) :: (Cond.code yX0_addPull cX0_addPull 4 (some .int)) :: (Cond.fieldLink RX0 28 "TheLiningsInIt$Jacket" "pullCount" "I") :: (Cond.fieldLink RX0 20 "TheLiningsInIt$Jacket" "pulls" "[LTheLiningsInIt$Pull;") :: (Cond.classLink RX0 18 RX2) :: (Cond.instantiable RX2 3) :: (Cond.initialized RX2) :: (Cond.methodLink RX0 70 yX2_init) :: (Cond.instanceMethod yX2_init) :: (Cond.code yX2_init cX2_init 4 none) :: (Cond.methodLink RX2 3 objectInit) :: (Cond.instanceMethod objectInit) :: []
def wsX7_jacket_r9 : List Cond := (Cond.code objectInit ⟨#[0xb1]⟩ 1 none) :: (Cond.fieldLink RX2 9 "TheLiningsInIt$Pull" "kind" "I") :: (Cond.fieldLink RX2 15 "TheLiningsInIt$Pull" "a" "I") :: (Cond.fieldLink RX2 18 "TheLiningsInIt$Pull" "takes" "I") :: (Cond.methodLink RX3 163 yX0_setNumber) :: (Cond.instanceMethod yX0_setNumber) :: (Cond.selects RX0 yX0_setNumber yX0_setNumber) :: (Cond.code yX0_setNumber cX0_setNumber 3 none) :: (Cond.fieldLink RX0 32 "TheLiningsInIt$Jacket" "depth" "I") :: (Cond.fieldLink RX0 38 "TheLiningsInIt$Jacket" "seconds" "I") :: (Cond.fieldLink RX0 41 "TheLiningsInIt$Jacket" "hurry" "I") :: (Cond.fieldLink RX0 12 "TheLiningsInIt$Jacket" "zip" "LTheLiningsInIt$Zip;") :: (Cond.fieldLink RX0 60 "TheLiningsInIt$Zip" "gap" "I") :: (Cond.fieldLink RX0 63 "TheLiningsInIt$Zip" "at" "I") :: (Cond.fieldLink RX0 24 "TheLiningsInIt$Jacket" "costs" "[I") :: []
def wsX7_jacket : List Cond := (.code yX7_jacket cX7_jacket 4 (some .int)) :: ((wsX7_jacket_r1 ++ (wsX7_jacket_r2 ++ (wsX7_jacket_r3 ++ (wsX7_jacket_r4 ++ (wsX7_jacket_r5 ++ (wsX7_jacket_r6 ++ (wsX7_jacket_r7 ++ (wsX7_jacket_r8 ++ wsX7_jacket_r9)))))))) ++ wsX70 ++ wsX00 ++ wsX60 ++ wsX30 ++ wsX40 ++ wsX20)
def wsX7_fault : List Cond := (.code yX7_fault cX7_fault 1 (some .int)) :: (.fieldLink RX7 54 "TheLiningsInIt" "latestFault" "I") :: wsX70
def wsX7_frees_r1 : List Cond := (Cond.fieldLink RX7 18 "TheLiningsInIt" "now" "LTheLiningsInIt$Jacket;") :: (Cond.fieldLink RX7 116 "TheLiningsInIt$Jacket" "hurry" "I") :: (Cond.methodLink RX7 100 yX0_pullAt) :: (Cond.instanceMethod yX0_pullAt) :: (Cond.selects RX0 yX0_pullAt yX0_pullAt) :: (Cond.initialized RX0) :: (Cond.code yX0_pullAt cX0_pullAt 2 (some (.object "TheLiningsInIt$Pull"))) :: (Cond.fieldLink RX0 28 "TheLiningsInIt$Jacket" "pullCount" "I") :: (Cond.fieldLink RX0 20 "TheLiningsInIt$Jacket" "pulls" "[LTheLiningsInIt$Pull;") :: (Cond.static yX7_within) :: (Cond.initialized RX7) :: (Cond.code yX7_within cX7_within 3 (some .boolean)) :: (Cond.methodLink RX7 63 yX7_refuse) :: (Cond.instanceMethod yX7_refuse) :: (Cond.selects RX7 yX7_refuse yX7_refuse) :: (Cond.code yX7_refuse cX7_refuse 2 (some .int)) :: (Cond.fieldLink RX7 46 "TheLiningsInIt" "refusals" "[I") :: (Cond.methodLink RX7 67 yX7_within) :: (Cond.methodLink RX7 119 yX2_waysAt) :: (Cond.instanceMethod yX2_waysAt) :: (Cond.selects RX2 yX2_waysAt yX2_waysAt) :: (Cond.initialized RX2) :: (Cond.code yX2_waysAt cX2_waysAt 3 (some .int)) :: (Cond.fieldLink RX2 9 "TheLiningsInIt$Pull" "kind" "I") :: []
def wsX7_frees_r2 : List Cond := (Cond.methodLink RX2 33 Lib.Math.min.name) :: (Cond.static Lib.Math.min.name) :: (Cond.initialized "java/lang/Math") :: (Cond.code Lib.Math.min.name Lib.Math.min.code 2 (some .int)) :: (Cond.methodLink RX2 39 Lib.Math.max.name) :: (Cond.static Lib.Math.max.name) :: (Cond.code Lib.Math.max.name Lib.Math.max.code 2 (some .int)) :: (Cond.methodLink RX2 29 yX2_calmWaysAt) :: (Cond.instanceMethod yX2_calmWaysAt) :: (Cond.selects RX2 yX2_calmWaysAt yX2_calmWaysAt) :: (Cond.code yX2_calmWaysAt cX2_calmWaysAt 2 (some .int)) :: (Cond.fieldLink RX2 15 "TheLiningsInIt$Pull" "a" "I") :: (Cond.methodLink RX7 186 yX2_shallower) :: (Cond.instanceMethod yX2_shallower) :: (Cond.selects RX2 yX2_shallower yX2_shallower) :: (Cond.code yX2_shallower cX2_shallower 2 (some .int)) :: (Cond.methodLink RX2 42 yX2_step) :: (Cond.instanceMethod yX2_step) :: (Cond.selects RX2 yX2_step yX2_step) :: (Cond.code yX2_step cX2_step 1 (some .int)) :: (Cond.methodLink RX7 189 yX2_deeper) :: (Cond.instanceMethod yX2_deeper) :: (Cond.selects RX2 yX2_deeper yX2_deeper) :: (Cond.code yX2_deeper cX2_deeper 4 (some .int)) :: []
def wsX7_frees : List Cond := (.code yX7_frees cX7_frees 5 (some .int)) :: ((wsX7_frees_r1 ++ wsX7_frees_r2) ++ wsX70 ++ wsX00 ++ wsX20)
def wsX7_refuseLower : List Cond := (.code yX7_refuseLower cX7_refuseLower 2 (some .int)) :: (.methodLink RX7 63 yX7_refuse) :: (.instanceMethod yX7_refuse) :: (.selects RX7 yX7_refuse yX7_refuse) :: (.initialized RX7) :: (.code yX7_refuse cX7_refuse 2 (some .int)) :: (.fieldLink RX7 46 "TheLiningsInIt" "refusals" "[I") :: (.methodLink RX7 67 yX7_within) :: (.static yX7_within) :: (.code yX7_within cX7_within 3 (some .boolean)) :: wsX70
def wsX7_cases_r1 : List Cond := (Cond.fieldLink RX7 28 "TheLiningsInIt" "ways" "LTheLiningsInIt$Ways;") :: (Cond.fieldLink RX7 18 "TheLiningsInIt" "now" "LTheLiningsInIt$Jacket;") :: (Cond.fieldLink RX7 116 "TheLiningsInIt$Jacket" "hurry" "I") :: (Cond.fieldLink RX7 199 "TheLiningsInIt$Jacket" "depth" "I") :: (Cond.fieldLink RX7 202 "TheLiningsInIt$Jacket" "seconds" "I") :: (Cond.methodLink RX7 67 yX7_within) :: (Cond.static yX7_within) :: (Cond.initialized RX7) :: (Cond.code yX7_within cX7_within 3 (some .boolean)) :: (Cond.methodLink RX7 192 yX7_refuseLower) :: (Cond.instanceMethod yX7_refuseLower) :: (Cond.selects RX7 yX7_refuseLower yX7_refuseLower) :: (Cond.code yX7_refuseLower cX7_refuseLower 2 (some .int)) :: (Cond.methodLink RX7 63 yX7_refuse) :: (Cond.instanceMethod yX7_refuse) :: (Cond.selects RX7 yX7_refuse yX7_refuse) :: (Cond.code yX7_refuse cX7_refuse 2 (some .int)) :: (Cond.fieldLink RX7 46 "TheLiningsInIt" "refusals" "[I") :: (Cond.methodLink RX7 195 yX5_look) :: (Cond.instanceMethod yX5_look) :: (Cond.selects RX5 yX5_look yX5_look) :: (Cond.initialized RX5) :: (Cond.code yX5_look cX5_look 7 none) :: (Cond.fieldLink RX5 37 "TheLiningsInIt$Jacket" "pullCount" "I") :: []
def wsX7_cases_r2 : List Cond := (Cond.fieldLink RX5 27 "TheLiningsInIt$Ways" "count" "I") :: (Cond.fieldLink RX5 31 "TheLiningsInIt$Ways" "hurry" "I") :: (Cond.fieldLink RX5 34 "TheLiningsInIt$Ways" "longest" "I") :: (Cond.fieldLink RX5 46 "TheLiningsInIt$Pull" "kind" "I") :: (Cond.fieldLink RX5 23 "TheLiningsInIt$Ways" "pulls" "[LTheLiningsInIt$Pull;") :: (Cond.fieldLink RX5 49 "TheLiningsInIt$Pull" "takes" "I") :: (Cond.methodLink RX5 52 Lib.Math.max.name) :: (Cond.static Lib.Math.max.name) :: (Cond.initialized "java/lang/Math") :: (Cond.code Lib.Math.max.name Lib.Math.max.code 2 (some .int)) :: (Cond.fieldLink RX5 58 "TheLiningsInIt$Jacket" "costs" "[I") :: (Cond.fieldLink RX5 18 "TheLiningsInIt$Ways" "costs" "[I") :: (Cond.methodLink RX5 59 arraycopyName) :: (Cond.native arraycopyName) :: (Cond.static arraycopyName) :: (Cond.initialized "java/lang/System") :: (Cond.fieldLink RX5 9 "TheLiningsInIt$Ways" "knownMost" "[I") :: (Cond.fieldLink RX5 15 "TheLiningsInIt$Ways" "knownLeast" "[I") :: (Cond.methodLink RX5 42 yX0_pullAt) :: (Cond.instanceMethod yX0_pullAt) :: (Cond.selects RX0 yX0_pullAt yX0_pullAt) :: (Cond.initialized RX0) :: (Cond.code yX0_pullAt cX0_pullAt 2 (some (.object "TheLiningsInIt$Pull"))) :: (Cond.fieldLink RX0 28 "TheLiningsInIt$Jacket" "pullCount" "I") :: []
def wsX7_cases_r3 : List Cond := (Cond.fieldLink RX0 20 "TheLiningsInIt$Jacket" "pulls" "[LTheLiningsInIt$Pull;") :: (Cond.methodLink RX5 65 yJ7_fill_53178) :: (Cond.static yJ7_fill_53178) :: (Cond.initialized RJ7) :: (Cond.code yJ7_fill_53178 cJ7_fill_53178 4 none) :: (Cond.methodLink RX7 205 yX5_next) :: (Cond.instanceMethod yX5_next) :: (Cond.selects RX5 yX5_next yX5_next) :: (Cond.code yX5_next cX5_next 9 (some .int)) :: (Cond.methodLink RX5 82 yX5_mayBeAt) :: (Cond.instanceMethod yX5_mayBeAt) :: (Cond.selects RX5 yX5_mayBeAt yX5_mayBeAt) :: (Cond.code yX5_mayBeAt cX5_mayBeAt 5 (some (.object "TheLiningsInIt$Pull"))) :: (Cond.methodLink RX5 75 yX2_mayBe) :: (Cond.instanceMethod yX2_mayBe) :: (Cond.selects RX2 yX2_mayBe yX2_mayBe) :: (Cond.initialized RX2) :: (Cond.code yX2_mayBe cX2_mayBe 3 (some .boolean)) :: (Cond.fieldLink RX2 18 "TheLiningsInIt$Pull" "takes" "I") :: (Cond.methodLink RX5 86 yX5_mostBy) :: (Cond.instanceMethod yX5_mostBy) :: (Cond.selects RX5 yX5_mostBy yX5_mostBy) :: (Cond.code yX5_mostBy cX5_mostBy 8 (some .int)) :: (Cond.methodLink RX5 90 yX2_waysAt) :: []
def wsX7_cases_r4 : List Cond := (Cond.instanceMethod yX2_waysAt) :: (Cond.selects RX2 yX2_waysAt yX2_waysAt) :: (Cond.code yX2_waysAt cX2_waysAt 3 (some .int)) :: (Cond.fieldLink RX2 9 "TheLiningsInIt$Pull" "kind" "I") :: (Cond.methodLink RX2 33 Lib.Math.min.name) :: (Cond.static Lib.Math.min.name) :: (Cond.code Lib.Math.min.name Lib.Math.min.code 2 (some .int)) :: (Cond.methodLink RX2 39 Lib.Math.max.name) :: (Cond.methodLink RX2 29 yX2_calmWaysAt) :: (Cond.instanceMethod yX2_calmWaysAt) :: (Cond.selects RX2 yX2_calmWaysAt yX2_calmWaysAt) :: (Cond.code yX2_calmWaysAt cX2_calmWaysAt 2 (some .int)) :: (Cond.fieldLink RX2 15 "TheLiningsInIt$Pull" "a" "I") :: (Cond.methodLink RX5 93 yX2_shallower) :: (Cond.instanceMethod yX2_shallower) :: (Cond.selects RX2 yX2_shallower yX2_shallower) :: (Cond.code yX2_shallower cX2_shallower 2 (some .int)) :: (Cond.methodLink RX2 42 yX2_step) :: (Cond.instanceMethod yX2_step) :: (Cond.selects RX2 yX2_step yX2_step) :: (Cond.code yX2_step cX2_step 1 (some .int)) :: (Cond.methodLink RX5 97 yX5_most) :: (Cond.instanceMethod yX5_most) :: (Cond.selects RX5 yX5_most yX5_most) :: []
def wsX7_cases_r5 : List Cond := (Cond.methodLink RX5 101 yX2_deeper) :: (Cond.instanceMethod yX2_deeper) :: (Cond.selects RX2 yX2_deeper yX2_deeper) :: (Cond.code yX2_deeper cX2_deeper 4 (some .int)) :: (Cond.code yX5_most cX5_most 9 (some .int)) :: (Cond.fieldLink RX5 79 "TheLiningsInIt$Ways" "POWERS" "[I") :: []
def wsX7_cases : List Cond := (.code yX7_cases cX7_cases 3 (some .int)) :: ((wsX7_cases_r1 ++ (wsX7_cases_r2 ++ (wsX7_cases_r3 ++ (wsX7_cases_r4 ++ wsX7_cases_r5)))) ++ wsX70 ++ wsX00 ++ wsX50 ++ wsX20)
def wsX7_line_r1 : List Cond := (Cond.fieldLink RX7 28 "TheLiningsInIt" "ways" "LTheLiningsInIt$Ways;") :: (Cond.fieldLink RX7 18 "TheLiningsInIt" "now" "LTheLiningsInIt$Jacket;") :: (Cond.fieldLink RX7 116 "TheLiningsInIt$Jacket" "hurry" "I") :: (Cond.fieldLink RX7 199 "TheLiningsInIt$Jacket" "depth" "I") :: (Cond.fieldLink RX7 202 "TheLiningsInIt$Jacket" "seconds" "I") :: (Cond.methodLink RX7 67 yX7_within) :: (Cond.static yX7_within) :: (Cond.initialized RX7) :: (Cond.code yX7_within cX7_within 3 (some .boolean)) :: (Cond.methodLink RX7 192 yX7_refuseLower) :: (Cond.instanceMethod yX7_refuseLower) :: (Cond.selects RX7 yX7_refuseLower yX7_refuseLower) :: (Cond.code yX7_refuseLower cX7_refuseLower 2 (some .int)) :: (Cond.methodLink RX7 63 yX7_refuse) :: (Cond.instanceMethod yX7_refuse) :: (Cond.selects RX7 yX7_refuse yX7_refuse) :: (Cond.code yX7_refuse cX7_refuse 2 (some .int)) :: (Cond.fieldLink RX7 46 "TheLiningsInIt" "refusals" "[I") :: (Cond.methodLink RX7 195 yX5_look) :: (Cond.instanceMethod yX5_look) :: (Cond.selects RX5 yX5_look yX5_look) :: (Cond.initialized RX5) :: (Cond.code yX5_look cX5_look 7 none) :: (Cond.fieldLink RX5 37 "TheLiningsInIt$Jacket" "pullCount" "I") :: []
def wsX7_line_r2 : List Cond := (Cond.fieldLink RX5 27 "TheLiningsInIt$Ways" "count" "I") :: (Cond.fieldLink RX5 31 "TheLiningsInIt$Ways" "hurry" "I") :: (Cond.fieldLink RX5 34 "TheLiningsInIt$Ways" "longest" "I") :: (Cond.fieldLink RX5 46 "TheLiningsInIt$Pull" "kind" "I") :: (Cond.fieldLink RX5 23 "TheLiningsInIt$Ways" "pulls" "[LTheLiningsInIt$Pull;") :: (Cond.fieldLink RX5 49 "TheLiningsInIt$Pull" "takes" "I") :: (Cond.methodLink RX5 52 Lib.Math.max.name) :: (Cond.static Lib.Math.max.name) :: (Cond.initialized "java/lang/Math") :: (Cond.code Lib.Math.max.name Lib.Math.max.code 2 (some .int)) :: (Cond.fieldLink RX5 58 "TheLiningsInIt$Jacket" "costs" "[I") :: (Cond.fieldLink RX5 18 "TheLiningsInIt$Ways" "costs" "[I") :: (Cond.methodLink RX5 59 arraycopyName) :: (Cond.native arraycopyName) :: (Cond.static arraycopyName) :: (Cond.initialized "java/lang/System") :: (Cond.fieldLink RX5 9 "TheLiningsInIt$Ways" "knownMost" "[I") :: (Cond.fieldLink RX5 15 "TheLiningsInIt$Ways" "knownLeast" "[I") :: (Cond.methodLink RX5 42 yX0_pullAt) :: (Cond.instanceMethod yX0_pullAt) :: (Cond.selects RX0 yX0_pullAt yX0_pullAt) :: (Cond.initialized RX0) :: (Cond.code yX0_pullAt cX0_pullAt 2 (some (.object "TheLiningsInIt$Pull"))) :: (Cond.fieldLink RX0 28 "TheLiningsInIt$Jacket" "pullCount" "I") :: []
def wsX7_line_r3 : List Cond := (Cond.fieldLink RX0 20 "TheLiningsInIt$Jacket" "pulls" "[LTheLiningsInIt$Pull;") :: (Cond.methodLink RX5 65 yJ7_fill_53178) :: (Cond.static yJ7_fill_53178) :: (Cond.initialized RJ7) :: (Cond.code yJ7_fill_53178 cJ7_fill_53178 4 none) :: (Cond.methodLink RX7 211 yX5_first) :: (Cond.instanceMethod yX5_first) :: (Cond.selects RX5 yX5_first yX5_first) :: (Cond.code yX5_first cX5_first 7 (some .int)) :: (Cond.methodLink RX5 117 yX5_least) :: (Cond.instanceMethod yX5_least) :: (Cond.selects RX5 yX5_least yX5_least) :: (Cond.code yX5_least cX5_least 9 (some .int)) :: (Cond.methodLink RX5 110 Lib.Math.min.name) :: (Cond.static Lib.Math.min.name) :: (Cond.code Lib.Math.min.name Lib.Math.min.code 2 (some .int)) :: (Cond.methodLink RX5 104 yX5_leastAtOnce) :: (Cond.instanceMethod yX5_leastAtOnce) :: (Cond.selects RX5 yX5_leastAtOnce yX5_leastAtOnce) :: (Cond.code yX5_leastAtOnce cX5_leastAtOnce 3 (some .int)) :: (Cond.fieldLink RX5 79 "TheLiningsInIt$Ways" "POWERS" "[I") :: (Cond.methodLink RX5 113 yX5_headIsCheapest) :: (Cond.instanceMethod yX5_headIsCheapest) :: (Cond.selects RX5 yX5_headIsCheapest yX5_headIsCheapest) :: []
def wsX7_line_r4 : List Cond := (Cond.code yX5_headIsCheapest cX5_headIsCheapest 2 (some .boolean)) :: (Cond.methodLink RX5 82 yX5_mayBeAt) :: (Cond.instanceMethod yX5_mayBeAt) :: (Cond.selects RX5 yX5_mayBeAt yX5_mayBeAt) :: (Cond.code yX5_mayBeAt cX5_mayBeAt 5 (some (.object "TheLiningsInIt$Pull"))) :: (Cond.methodLink RX5 75 yX2_mayBe) :: (Cond.instanceMethod yX2_mayBe) :: (Cond.selects RX2 yX2_mayBe yX2_mayBe) :: (Cond.initialized RX2) :: (Cond.code yX2_mayBe cX2_mayBe 3 (some .boolean)) :: (Cond.fieldLink RX2 18 "TheLiningsInIt$Pull" "takes" "I") :: (Cond.methodLink RX5 107 yX5_leastBy) :: (Cond.instanceMethod yX5_leastBy) :: (Cond.selects RX5 yX5_leastBy yX5_leastBy) :: (Cond.code yX5_leastBy cX5_leastBy 8 (some .int)) :: (Cond.methodLink RX5 90 yX2_waysAt) :: (Cond.instanceMethod yX2_waysAt) :: (Cond.selects RX2 yX2_waysAt yX2_waysAt) :: (Cond.code yX2_waysAt cX2_waysAt 3 (some .int)) :: (Cond.fieldLink RX2 9 "TheLiningsInIt$Pull" "kind" "I") :: (Cond.methodLink RX2 33 Lib.Math.min.name) :: (Cond.methodLink RX2 39 Lib.Math.max.name) :: (Cond.methodLink RX2 29 yX2_calmWaysAt) :: (Cond.instanceMethod yX2_calmWaysAt) :: []
def wsX7_line_r5 : List Cond := (Cond.selects RX2 yX2_calmWaysAt yX2_calmWaysAt) :: (Cond.code yX2_calmWaysAt cX2_calmWaysAt 2 (some .int)) :: (Cond.fieldLink RX2 15 "TheLiningsInIt$Pull" "a" "I") :: (Cond.methodLink RX5 93 yX2_shallower) :: (Cond.instanceMethod yX2_shallower) :: (Cond.selects RX2 yX2_shallower yX2_shallower) :: (Cond.code yX2_shallower cX2_shallower 2 (some .int)) :: (Cond.methodLink RX2 42 yX2_step) :: (Cond.instanceMethod yX2_step) :: (Cond.selects RX2 yX2_step yX2_step) :: (Cond.code yX2_step cX2_step 1 (some .int)) :: (Cond.methodLink RX5 101 yX2_deeper) :: (Cond.instanceMethod yX2_deeper) :: (Cond.selects RX2 yX2_deeper yX2_deeper) :: (Cond.code yX2_deeper cX2_deeper 4 (some .int)) :: []
def wsX7_line : List Cond := (.code yX7_line cX7_line 3 (some .int)) :: ((wsX7_line_r1 ++ (wsX7_line_r2 ++ (wsX7_line_r3 ++ (wsX7_line_r4 ++ wsX7_line_r5)))) ++ wsX70 ++ wsX00 ++ wsX50 ++ wsX20)
def wsX7_casesBy_r1 : List Cond := (Cond.fieldLink RX7 28 "TheLiningsInIt" "ways" "LTheLiningsInIt$Ways;") :: (Cond.fieldLink RX7 18 "TheLiningsInIt" "now" "LTheLiningsInIt$Jacket;") :: (Cond.fieldLink RX7 199 "TheLiningsInIt$Jacket" "depth" "I") :: (Cond.fieldLink RX7 202 "TheLiningsInIt$Jacket" "seconds" "I") :: (Cond.methodLink RX7 195 yX5_look) :: (Cond.instanceMethod yX5_look) :: (Cond.selects RX5 yX5_look yX5_look) :: (Cond.initialized RX5) :: (Cond.code yX5_look cX5_look 7 none) :: (Cond.fieldLink RX5 37 "TheLiningsInIt$Jacket" "pullCount" "I") :: (Cond.fieldLink RX5 27 "TheLiningsInIt$Ways" "count" "I") :: (Cond.fieldLink RX5 31 "TheLiningsInIt$Ways" "hurry" "I") :: (Cond.fieldLink RX5 34 "TheLiningsInIt$Ways" "longest" "I") :: (Cond.fieldLink RX5 46 "TheLiningsInIt$Pull" "kind" "I") :: (Cond.fieldLink RX5 23 "TheLiningsInIt$Ways" "pulls" "[LTheLiningsInIt$Pull;") :: (Cond.fieldLink RX5 49 "TheLiningsInIt$Pull" "takes" "I") :: (Cond.methodLink RX5 52 Lib.Math.max.name) :: (Cond.static Lib.Math.max.name) :: (Cond.initialized "java/lang/Math") :: (Cond.code Lib.Math.max.name Lib.Math.max.code 2 (some .int)) :: (Cond.fieldLink RX5 58 "TheLiningsInIt$Jacket" "costs" "[I") :: (Cond.fieldLink RX5 18 "TheLiningsInIt$Ways" "costs" "[I") :: (Cond.methodLink RX5 59 arraycopyName) :: (Cond.native arraycopyName) :: []
def wsX7_casesBy_r2 : List Cond := (Cond.static arraycopyName) :: (Cond.initialized "java/lang/System") :: (Cond.fieldLink RX5 9 "TheLiningsInIt$Ways" "knownMost" "[I") :: (Cond.fieldLink RX5 15 "TheLiningsInIt$Ways" "knownLeast" "[I") :: (Cond.methodLink RX5 42 yX0_pullAt) :: (Cond.instanceMethod yX0_pullAt) :: (Cond.selects RX0 yX0_pullAt yX0_pullAt) :: (Cond.initialized RX0) :: (Cond.code yX0_pullAt cX0_pullAt 2 (some (.object "TheLiningsInIt$Pull"))) :: (Cond.fieldLink RX0 28 "TheLiningsInIt$Jacket" "pullCount" "I") :: (Cond.fieldLink RX0 20 "TheLiningsInIt$Jacket" "pulls" "[LTheLiningsInIt$Pull;") :: (Cond.static yX7_within) :: (Cond.initialized RX7) :: (Cond.code yX7_within cX7_within 3 (some .boolean)) :: (Cond.methodLink RX5 65 yJ7_fill_53178) :: (Cond.static yJ7_fill_53178) :: (Cond.initialized RJ7) :: (Cond.code yJ7_fill_53178 cJ7_fill_53178 4 none) :: (Cond.instanceMethod yX5_most) :: (Cond.selects RX5 yX5_most yX5_most) :: (Cond.code yX5_most cX5_most 9 (some .int)) :: (Cond.fieldLink RX5 79 "TheLiningsInIt$Ways" "POWERS" "[I") :: (Cond.methodLink RX5 82 yX5_mayBeAt) :: (Cond.instanceMethod yX5_mayBeAt) :: []
def wsX7_casesBy_r3 : List Cond := (Cond.selects RX5 yX5_mayBeAt yX5_mayBeAt) :: (Cond.code yX5_mayBeAt cX5_mayBeAt 5 (some (.object "TheLiningsInIt$Pull"))) :: (Cond.methodLink RX5 75 yX2_mayBe) :: (Cond.instanceMethod yX2_mayBe) :: (Cond.selects RX2 yX2_mayBe yX2_mayBe) :: (Cond.initialized RX2) :: (Cond.code yX2_mayBe cX2_mayBe 3 (some .boolean)) :: (Cond.fieldLink RX2 18 "TheLiningsInIt$Pull" "takes" "I") :: (Cond.methodLink RX5 86 yX5_mostBy) :: (Cond.instanceMethod yX5_mostBy) :: (Cond.selects RX5 yX5_mostBy yX5_mostBy) :: (Cond.code yX5_mostBy cX5_mostBy 8 (some .int)) :: (Cond.methodLink RX5 90 yX2_waysAt) :: (Cond.instanceMethod yX2_waysAt) :: (Cond.selects RX2 yX2_waysAt yX2_waysAt) :: (Cond.code yX2_waysAt cX2_waysAt 3 (some .int)) :: (Cond.fieldLink RX2 9 "TheLiningsInIt$Pull" "kind" "I") :: (Cond.methodLink RX2 33 Lib.Math.min.name) :: (Cond.static Lib.Math.min.name) :: (Cond.code Lib.Math.min.name Lib.Math.min.code 2 (some .int)) :: (Cond.methodLink RX2 39 Lib.Math.max.name) :: (Cond.methodLink RX2 29 yX2_calmWaysAt) :: (Cond.instanceMethod yX2_calmWaysAt) :: (Cond.selects RX2 yX2_calmWaysAt yX2_calmWaysAt) :: []
def wsX7_casesBy_r4 : List Cond := (Cond.code yX2_calmWaysAt cX2_calmWaysAt 2 (some .int)) :: (Cond.fieldLink RX2 15 "TheLiningsInIt$Pull" "a" "I") :: (Cond.methodLink RX5 93 yX2_shallower) :: (Cond.instanceMethod yX2_shallower) :: (Cond.selects RX2 yX2_shallower yX2_shallower) :: (Cond.code yX2_shallower cX2_shallower 2 (some .int)) :: (Cond.methodLink RX2 42 yX2_step) :: (Cond.instanceMethod yX2_step) :: (Cond.selects RX2 yX2_step yX2_step) :: (Cond.code yX2_step cX2_step 1 (some .int)) :: (Cond.methodLink RX5 97 yX5_most) :: (Cond.methodLink RX5 101 yX2_deeper) :: (Cond.instanceMethod yX2_deeper) :: (Cond.selects RX2 yX2_deeper yX2_deeper) :: (Cond.code yX2_deeper cX2_deeper 4 (some .int)) :: []
def wsX7_casesBy : List Cond := (.code yX7_casesBy cX7_casesBy 3 (some .int)) :: ((wsX7_casesBy_r1 ++ (wsX7_casesBy_r2 ++ (wsX7_casesBy_r3 ++ wsX7_casesBy_r4))) ++ wsX70 ++ wsX00 ++ wsX50 ++ wsX20)
def wsX7_haste_r1 : List Cond := (Cond.methodLink RX7 67 yX7_within) :: (Cond.static yX7_within) :: (Cond.initialized RX7) :: (Cond.code yX7_within cX7_within 3 (some .boolean)) :: (Cond.methodLink RX7 63 yX7_refuse) :: (Cond.instanceMethod yX7_refuse) :: (Cond.selects RX7 yX7_refuse yX7_refuse) :: (Cond.code yX7_refuse cX7_refuse 2 (some .int)) :: (Cond.fieldLink RX7 46 "TheLiningsInIt" "refusals" "[I") :: (Cond.methodLink RX7 217 yX7_casesBy) :: (Cond.instanceMethod yX7_casesBy) :: (Cond.selects RX7 yX7_casesBy yX7_casesBy) :: (Cond.code yX7_casesBy cX7_casesBy 3 (some .int)) :: (Cond.fieldLink RX7 28 "TheLiningsInIt" "ways" "LTheLiningsInIt$Ways;") :: (Cond.fieldLink RX7 18 "TheLiningsInIt" "now" "LTheLiningsInIt$Jacket;") :: (Cond.fieldLink RX7 199 "TheLiningsInIt$Jacket" "depth" "I") :: (Cond.fieldLink RX7 202 "TheLiningsInIt$Jacket" "seconds" "I") :: (Cond.methodLink RX7 195 yX5_look) :: (Cond.instanceMethod yX5_look) :: (Cond.selects RX5 yX5_look yX5_look) :: (Cond.initialized RX5) :: (Cond.code yX5_look cX5_look 7 none) :: (Cond.fieldLink RX5 37 "TheLiningsInIt$Jacket" "pullCount" "I") :: (Cond.fieldLink RX5 27 "TheLiningsInIt$Ways" "count" "I") :: []
def wsX7_haste_r2 : List Cond := (Cond.fieldLink RX5 31 "TheLiningsInIt$Ways" "hurry" "I") :: (Cond.fieldLink RX5 34 "TheLiningsInIt$Ways" "longest" "I") :: (Cond.fieldLink RX5 46 "TheLiningsInIt$Pull" "kind" "I") :: (Cond.fieldLink RX5 23 "TheLiningsInIt$Ways" "pulls" "[LTheLiningsInIt$Pull;") :: (Cond.fieldLink RX5 49 "TheLiningsInIt$Pull" "takes" "I") :: (Cond.methodLink RX5 52 Lib.Math.max.name) :: (Cond.static Lib.Math.max.name) :: (Cond.initialized "java/lang/Math") :: (Cond.code Lib.Math.max.name Lib.Math.max.code 2 (some .int)) :: (Cond.fieldLink RX5 58 "TheLiningsInIt$Jacket" "costs" "[I") :: (Cond.fieldLink RX5 18 "TheLiningsInIt$Ways" "costs" "[I") :: (Cond.methodLink RX5 59 arraycopyName) :: (Cond.native arraycopyName) :: (Cond.static arraycopyName) :: (Cond.initialized "java/lang/System") :: (Cond.fieldLink RX5 9 "TheLiningsInIt$Ways" "knownMost" "[I") :: (Cond.fieldLink RX5 15 "TheLiningsInIt$Ways" "knownLeast" "[I") :: (Cond.methodLink RX5 42 yX0_pullAt) :: (Cond.instanceMethod yX0_pullAt) :: (Cond.selects RX0 yX0_pullAt yX0_pullAt) :: (Cond.initialized RX0) :: (Cond.code yX0_pullAt cX0_pullAt 2 (some (.object "TheLiningsInIt$Pull"))) :: (Cond.fieldLink RX0 28 "TheLiningsInIt$Jacket" "pullCount" "I") :: (Cond.fieldLink RX0 20 "TheLiningsInIt$Jacket" "pulls" "[LTheLiningsInIt$Pull;") :: []
def wsX7_haste_r3 : List Cond := (Cond.methodLink RX5 65 yJ7_fill_53178) :: (Cond.static yJ7_fill_53178) :: (Cond.initialized RJ7) :: (Cond.code yJ7_fill_53178 cJ7_fill_53178 4 none) :: (Cond.instanceMethod yX5_most) :: (Cond.selects RX5 yX5_most yX5_most) :: (Cond.code yX5_most cX5_most 9 (some .int)) :: (Cond.fieldLink RX5 79 "TheLiningsInIt$Ways" "POWERS" "[I") :: (Cond.methodLink RX5 82 yX5_mayBeAt) :: (Cond.instanceMethod yX5_mayBeAt) :: (Cond.selects RX5 yX5_mayBeAt yX5_mayBeAt) :: (Cond.code yX5_mayBeAt cX5_mayBeAt 5 (some (.object "TheLiningsInIt$Pull"))) :: (Cond.methodLink RX5 75 yX2_mayBe) :: (Cond.instanceMethod yX2_mayBe) :: (Cond.selects RX2 yX2_mayBe yX2_mayBe) :: (Cond.initialized RX2) :: (Cond.code yX2_mayBe cX2_mayBe 3 (some .boolean)) :: (Cond.fieldLink RX2 18 "TheLiningsInIt$Pull" "takes" "I") :: (Cond.methodLink RX5 86 yX5_mostBy) :: (Cond.instanceMethod yX5_mostBy) :: (Cond.selects RX5 yX5_mostBy yX5_mostBy) :: (Cond.code yX5_mostBy cX5_mostBy 8 (some .int)) :: (Cond.methodLink RX5 90 yX2_waysAt) :: (Cond.instanceMethod yX2_waysAt) :: []
def wsX7_haste_r4 : List Cond := (Cond.selects RX2 yX2_waysAt yX2_waysAt) :: (Cond.code yX2_waysAt cX2_waysAt 3 (some .int)) :: (Cond.fieldLink RX2 9 "TheLiningsInIt$Pull" "kind" "I") :: (Cond.methodLink RX2 33 Lib.Math.min.name) :: (Cond.static Lib.Math.min.name) :: (Cond.code Lib.Math.min.name Lib.Math.min.code 2 (some .int)) :: (Cond.methodLink RX2 39 Lib.Math.max.name) :: (Cond.methodLink RX2 29 yX2_calmWaysAt) :: (Cond.instanceMethod yX2_calmWaysAt) :: (Cond.selects RX2 yX2_calmWaysAt yX2_calmWaysAt) :: (Cond.code yX2_calmWaysAt cX2_calmWaysAt 2 (some .int)) :: (Cond.fieldLink RX2 15 "TheLiningsInIt$Pull" "a" "I") :: (Cond.methodLink RX5 93 yX2_shallower) :: (Cond.instanceMethod yX2_shallower) :: (Cond.selects RX2 yX2_shallower yX2_shallower) :: (Cond.code yX2_shallower cX2_shallower 2 (some .int)) :: (Cond.methodLink RX2 42 yX2_step) :: (Cond.instanceMethod yX2_step) :: (Cond.selects RX2 yX2_step yX2_step) :: (Cond.code yX2_step cX2_step 1 (some .int)) :: (Cond.methodLink RX5 97 yX5_most) :: (Cond.methodLink RX5 101 yX2_deeper) :: (Cond.instanceMethod yX2_deeper) :: (Cond.selects RX2 yX2_deeper yX2_deeper) :: []
def wsX7_haste_r5 : List Cond := (Cond.code yX2_deeper cX2_deeper 4 (some .int)) :: []
def wsX7_haste : List Cond := (.code yX7_haste cX7_haste 7 (some .int)) :: ((wsX7_haste_r1 ++ (wsX7_haste_r2 ++ (wsX7_haste_r3 ++ (wsX7_haste_r4 ++ wsX7_haste_r5)))) ++ wsX70 ++ wsX00 ++ wsX50 ++ wsX20)
def wsX7_freedWeight_r1 : List Cond := (Cond.fieldLink RX7 18 "TheLiningsInIt" "now" "LTheLiningsInIt$Jacket;") :: (Cond.fieldLink RX7 116 "TheLiningsInIt$Jacket" "hurry" "I") :: (Cond.methodLink RX7 227 yX4_tells) :: (Cond.instanceMethod yX4_tells) :: (Cond.selects RX4 yX4_tells yX4_tells) :: (Cond.initialized RX4) :: (Cond.code yX4_tells cX4_tells 2 (some .int)) :: (Cond.fieldLink RX4 9 "TheLiningsInIt$Shelf" "elements" "[J") :: (Cond.methodLink RX4 36 yX4_hasSpan) :: (Cond.instanceMethod yX4_hasSpan) :: (Cond.selects RX4 yX4_hasSpan yX4_hasSpan) :: (Cond.code yX4_hasSpan cX4_hasSpan 3 (some .boolean)) :: (Cond.fieldLink RX4 19 "TheLiningsInIt$Shelf" "size" "I") :: (Cond.methodLink RX7 119 yX2_waysAt) :: (Cond.instanceMethod yX2_waysAt) :: (Cond.selects RX2 yX2_waysAt yX2_waysAt) :: (Cond.initialized RX2) :: (Cond.code yX2_waysAt cX2_waysAt 3 (some .int)) :: (Cond.fieldLink RX2 9 "TheLiningsInIt$Pull" "kind" "I") :: (Cond.methodLink RX2 33 Lib.Math.min.name) :: (Cond.static Lib.Math.min.name) :: (Cond.initialized "java/lang/Math") :: (Cond.code Lib.Math.min.name Lib.Math.min.code 2 (some .int)) :: (Cond.methodLink RX2 39 Lib.Math.max.name) :: []
def wsX7_freedWeight_r2 : List Cond := (Cond.static Lib.Math.max.name) :: (Cond.code Lib.Math.max.name Lib.Math.max.code 2 (some .int)) :: (Cond.methodLink RX2 29 yX2_calmWaysAt) :: (Cond.instanceMethod yX2_calmWaysAt) :: (Cond.selects RX2 yX2_calmWaysAt yX2_calmWaysAt) :: (Cond.code yX2_calmWaysAt cX2_calmWaysAt 2 (some .int)) :: (Cond.fieldLink RX2 15 "TheLiningsInIt$Pull" "a" "I") :: []
def wsX7_freedWeight : List Cond := (.code yX7_freedWeight cX7_freedWeight 5 (some .int)) :: ((wsX7_freedWeight_r1 ++ wsX7_freedWeight_r2) ++ wsX70 ++ wsX00 ++ wsX40 ++ wsX20)
def wsX7_freed_r1 : List Cond := (Cond.fieldLink RX7 18 "TheLiningsInIt" "now" "LTheLiningsInIt$Jacket;") :: (Cond.methodLink RX7 59 yX7_shelfAt) :: (Cond.instanceMethod yX7_shelfAt) :: (Cond.selects RX7 yX7_shelfAt yX7_shelfAt) :: (Cond.initialized RX7) :: (Cond.code yX7_shelfAt cX7_shelfAt 2 (some (.object "TheLiningsInIt$Shelf"))) :: (Cond.fieldLink RX7 11 "TheLiningsInIt" "shelves" "[LTheLiningsInIt$Shelf;") :: (Cond.methodLink RX7 67 yX7_within) :: (Cond.static yX7_within) :: (Cond.code yX7_within cX7_within 3 (some .boolean)) :: (Cond.methodLink RX7 100 yX0_pullAt) :: (Cond.instanceMethod yX0_pullAt) :: (Cond.selects RX0 yX0_pullAt yX0_pullAt) :: (Cond.initialized RX0) :: (Cond.code yX0_pullAt cX0_pullAt 2 (some (.object "TheLiningsInIt$Pull"))) :: (Cond.fieldLink RX0 28 "TheLiningsInIt$Jacket" "pullCount" "I") :: (Cond.fieldLink RX0 20 "TheLiningsInIt$Jacket" "pulls" "[LTheLiningsInIt$Pull;") :: (Cond.methodLink RX7 63 yX7_refuse) :: (Cond.instanceMethod yX7_refuse) :: (Cond.selects RX7 yX7_refuse yX7_refuse) :: (Cond.code yX7_refuse cX7_refuse 2 (some .int)) :: (Cond.fieldLink RX7 46 "TheLiningsInIt" "refusals" "[I") :: (Cond.methodLink RX7 220 yX4_noBelief) :: (Cond.instanceMethod yX4_noBelief) :: []
def wsX7_freed_r2 : List Cond := (Cond.selects RX4 yX4_noBelief yX4_noBelief) :: (Cond.initialized RX4) :: (Cond.code yX4_noBelief cX4_noBelief 2 (some .int)) :: (Cond.fieldLink RX4 19 "TheLiningsInIt$Shelf" "size" "I") :: (Cond.methodLink RX4 28 yX4_noRow) :: (Cond.instanceMethod yX4_noRow) :: (Cond.selects RX4 yX4_noRow yX4_noRow) :: (Cond.code yX4_noRow cX4_noRow 1 (some .int)) :: (Cond.fieldLink RX4 15 "TheLiningsInIt$Shelf" "held" "I") :: (Cond.methodLink RX4 32 yX4_tellsWithin) :: (Cond.instanceMethod yX4_tellsWithin) :: (Cond.selects RX4 yX4_tellsWithin yX4_tellsWithin) :: (Cond.code yX4_tellsWithin cX4_tellsWithin 5 (some .boolean)) :: (Cond.methodLink RX4 40 yX4_tells) :: (Cond.instanceMethod yX4_tells) :: (Cond.selects RX4 yX4_tells yX4_tells) :: (Cond.code yX4_tells cX4_tells 2 (some .int)) :: (Cond.fieldLink RX4 9 "TheLiningsInIt$Shelf" "elements" "[J") :: (Cond.methodLink RX4 36 yX4_hasSpan) :: (Cond.instanceMethod yX4_hasSpan) :: (Cond.selects RX4 yX4_hasSpan yX4_hasSpan) :: (Cond.code yX4_hasSpan cX4_hasSpan 3 (some .boolean)) :: (Cond.methodLink RX7 223 yX7_freedWeight) :: (Cond.instanceMethod yX7_freedWeight) :: []
def wsX7_freed_r3 : List Cond := (Cond.selects RX7 yX7_freedWeight yX7_freedWeight) :: (Cond.code yX7_freedWeight cX7_freedWeight 5 (some .int)) :: (Cond.fieldLink RX7 116 "TheLiningsInIt$Jacket" "hurry" "I") :: (Cond.methodLink RX7 227 yX4_tells) :: (Cond.methodLink RX7 119 yX2_waysAt) :: (Cond.instanceMethod yX2_waysAt) :: (Cond.selects RX2 yX2_waysAt yX2_waysAt) :: (Cond.initialized RX2) :: (Cond.code yX2_waysAt cX2_waysAt 3 (some .int)) :: (Cond.fieldLink RX2 9 "TheLiningsInIt$Pull" "kind" "I") :: (Cond.methodLink RX2 33 Lib.Math.min.name) :: (Cond.static Lib.Math.min.name) :: (Cond.initialized "java/lang/Math") :: (Cond.code Lib.Math.min.name Lib.Math.min.code 2 (some .int)) :: (Cond.methodLink RX2 39 Lib.Math.max.name) :: (Cond.static Lib.Math.max.name) :: (Cond.code Lib.Math.max.name Lib.Math.max.code 2 (some .int)) :: (Cond.methodLink RX2 29 yX2_calmWaysAt) :: (Cond.instanceMethod yX2_calmWaysAt) :: (Cond.selects RX2 yX2_calmWaysAt yX2_calmWaysAt) :: (Cond.code yX2_calmWaysAt cX2_calmWaysAt 2 (some .int)) :: (Cond.fieldLink RX2 15 "TheLiningsInIt$Pull" "a" "I") :: []
def wsX7_freed : List Cond := (.code yX7_freed cX7_freed 6 (some .int)) :: ((wsX7_freed_r1 ++ (wsX7_freed_r2 ++ wsX7_freed_r3)) ++ wsX70 ++ wsX00 ++ wsX40 ++ wsX20)
def wsX7_best_r1 : List Cond := (Cond.fieldLink RX7 18 "TheLiningsInIt" "now" "LTheLiningsInIt$Jacket;") :: (Cond.fieldLink RX7 123 "TheLiningsInIt$Jacket" "pullCount" "I") :: (Cond.methodLink RX7 59 yX7_shelfAt) :: (Cond.instanceMethod yX7_shelfAt) :: (Cond.selects RX7 yX7_shelfAt yX7_shelfAt) :: (Cond.initialized RX7) :: (Cond.code yX7_shelfAt cX7_shelfAt 2 (some (.object "TheLiningsInIt$Shelf"))) :: (Cond.fieldLink RX7 11 "TheLiningsInIt" "shelves" "[LTheLiningsInIt$Shelf;") :: (Cond.methodLink RX7 67 yX7_within) :: (Cond.static yX7_within) :: (Cond.code yX7_within cX7_within 3 (some .boolean)) :: (Cond.methodLink RX7 192 yX7_refuseLower) :: (Cond.instanceMethod yX7_refuseLower) :: (Cond.selects RX7 yX7_refuseLower yX7_refuseLower) :: (Cond.code yX7_refuseLower cX7_refuseLower 2 (some .int)) :: (Cond.methodLink RX7 63 yX7_refuse) :: (Cond.instanceMethod yX7_refuse) :: (Cond.selects RX7 yX7_refuse yX7_refuse) :: (Cond.code yX7_refuse cX7_refuse 2 (some .int)) :: (Cond.fieldLink RX7 46 "TheLiningsInIt" "refusals" "[I") :: (Cond.methodLink RX7 220 yX4_noBelief) :: (Cond.instanceMethod yX4_noBelief) :: (Cond.selects RX4 yX4_noBelief yX4_noBelief) :: (Cond.initialized RX4) :: []
def wsX7_best_r2 : List Cond := (Cond.code yX4_noBelief cX4_noBelief 2 (some .int)) :: (Cond.fieldLink RX4 19 "TheLiningsInIt$Shelf" "size" "I") :: (Cond.methodLink RX4 28 yX4_noRow) :: (Cond.instanceMethod yX4_noRow) :: (Cond.selects RX4 yX4_noRow yX4_noRow) :: (Cond.code yX4_noRow cX4_noRow 1 (some .int)) :: (Cond.fieldLink RX4 15 "TheLiningsInIt$Shelf" "held" "I") :: (Cond.methodLink RX4 32 yX4_tellsWithin) :: (Cond.instanceMethod yX4_tellsWithin) :: (Cond.selects RX4 yX4_tellsWithin yX4_tellsWithin) :: (Cond.code yX4_tellsWithin cX4_tellsWithin 5 (some .boolean)) :: (Cond.methodLink RX4 40 yX4_tells) :: (Cond.instanceMethod yX4_tells) :: (Cond.selects RX4 yX4_tells yX4_tells) :: (Cond.code yX4_tells cX4_tells 2 (some .int)) :: (Cond.fieldLink RX4 9 "TheLiningsInIt$Shelf" "elements" "[J") :: (Cond.methodLink RX4 36 yX4_hasSpan) :: (Cond.instanceMethod yX4_hasSpan) :: (Cond.selects RX4 yX4_hasSpan yX4_hasSpan) :: (Cond.code yX4_hasSpan cX4_hasSpan 3 (some .boolean)) :: (Cond.methodLink RX7 100 yX0_pullAt) :: (Cond.instanceMethod yX0_pullAt) :: (Cond.selects RX0 yX0_pullAt yX0_pullAt) :: (Cond.initialized RX0) :: []
def wsX7_best_r3 : List Cond := (Cond.code yX0_pullAt cX0_pullAt 2 (some (.object "TheLiningsInIt$Pull"))) :: (Cond.fieldLink RX0 28 "TheLiningsInIt$Jacket" "pullCount" "I") :: (Cond.fieldLink RX0 20 "TheLiningsInIt$Jacket" "pulls" "[LTheLiningsInIt$Pull;") :: (Cond.methodLink RX7 223 yX7_freedWeight) :: (Cond.instanceMethod yX7_freedWeight) :: (Cond.selects RX7 yX7_freedWeight yX7_freedWeight) :: (Cond.code yX7_freedWeight cX7_freedWeight 5 (some .int)) :: (Cond.fieldLink RX7 116 "TheLiningsInIt$Jacket" "hurry" "I") :: (Cond.methodLink RX7 227 yX4_tells) :: (Cond.methodLink RX7 119 yX2_waysAt) :: (Cond.instanceMethod yX2_waysAt) :: (Cond.selects RX2 yX2_waysAt yX2_waysAt) :: (Cond.initialized RX2) :: (Cond.code yX2_waysAt cX2_waysAt 3 (some .int)) :: (Cond.fieldLink RX2 9 "TheLiningsInIt$Pull" "kind" "I") :: (Cond.methodLink RX2 33 Lib.Math.min.name) :: (Cond.static Lib.Math.min.name) :: (Cond.initialized "java/lang/Math") :: (Cond.code Lib.Math.min.name Lib.Math.min.code 2 (some .int)) :: (Cond.methodLink RX2 39 Lib.Math.max.name) :: (Cond.static Lib.Math.max.name) :: (Cond.code Lib.Math.max.name Lib.Math.max.code 2 (some .int)) :: (Cond.methodLink RX2 29 yX2_calmWaysAt) :: (Cond.instanceMethod yX2_calmWaysAt) :: []
def wsX7_best_r4 : List Cond := (Cond.selects RX2 yX2_calmWaysAt yX2_calmWaysAt) :: (Cond.code yX2_calmWaysAt cX2_calmWaysAt 2 (some .int)) :: (Cond.fieldLink RX2 15 "TheLiningsInIt$Pull" "a" "I") :: []
def wsX7_best : List Cond := (.code yX7_best cX7_best 9 (some .int)) :: ((wsX7_best_r1 ++ (wsX7_best_r2 ++ (wsX7_best_r3 ++ wsX7_best_r4))) ++ wsX70 ++ wsX00 ++ wsX40 ++ wsX20)
def wsX7_behind_r1 : List Cond := (Cond.fieldLink RX7 18 "TheLiningsInIt" "now" "LTheLiningsInIt$Jacket;") :: (Cond.fieldLink RX7 116 "TheLiningsInIt$Jacket" "hurry" "I") :: (Cond.methodLink RX7 59 yX7_shelfAt) :: (Cond.instanceMethod yX7_shelfAt) :: (Cond.selects RX7 yX7_shelfAt yX7_shelfAt) :: (Cond.initialized RX7) :: (Cond.code yX7_shelfAt cX7_shelfAt 2 (some (.object "TheLiningsInIt$Shelf"))) :: (Cond.fieldLink RX7 11 "TheLiningsInIt" "shelves" "[LTheLiningsInIt$Shelf;") :: (Cond.methodLink RX7 67 yX7_within) :: (Cond.static yX7_within) :: (Cond.code yX7_within cX7_within 3 (some .boolean)) :: (Cond.methodLink RX7 100 yX0_pullAt) :: (Cond.instanceMethod yX0_pullAt) :: (Cond.selects RX0 yX0_pullAt yX0_pullAt) :: (Cond.initialized RX0) :: (Cond.code yX0_pullAt cX0_pullAt 2 (some (.object "TheLiningsInIt$Pull"))) :: (Cond.fieldLink RX0 28 "TheLiningsInIt$Jacket" "pullCount" "I") :: (Cond.fieldLink RX0 20 "TheLiningsInIt$Jacket" "pulls" "[LTheLiningsInIt$Pull;") :: (Cond.methodLink RX7 63 yX7_refuse) :: (Cond.instanceMethod yX7_refuse) :: (Cond.selects RX7 yX7_refuse yX7_refuse) :: (Cond.code yX7_refuse cX7_refuse 2 (some .int)) :: (Cond.fieldLink RX7 46 "TheLiningsInIt" "refusals" "[I") :: (Cond.methodLink RX7 220 yX4_noBelief) :: []
def wsX7_behind_r2 : List Cond := (Cond.instanceMethod yX4_noBelief) :: (Cond.selects RX4 yX4_noBelief yX4_noBelief) :: (Cond.initialized RX4) :: (Cond.code yX4_noBelief cX4_noBelief 2 (some .int)) :: (Cond.fieldLink RX4 19 "TheLiningsInIt$Shelf" "size" "I") :: (Cond.methodLink RX4 28 yX4_noRow) :: (Cond.instanceMethod yX4_noRow) :: (Cond.selects RX4 yX4_noRow yX4_noRow) :: (Cond.code yX4_noRow cX4_noRow 1 (some .int)) :: (Cond.fieldLink RX4 15 "TheLiningsInIt$Shelf" "held" "I") :: (Cond.methodLink RX4 32 yX4_tellsWithin) :: (Cond.instanceMethod yX4_tellsWithin) :: (Cond.selects RX4 yX4_tellsWithin yX4_tellsWithin) :: (Cond.code yX4_tellsWithin cX4_tellsWithin 5 (some .boolean)) :: (Cond.methodLink RX4 40 yX4_tells) :: (Cond.instanceMethod yX4_tells) :: (Cond.selects RX4 yX4_tells yX4_tells) :: (Cond.code yX4_tells cX4_tells 2 (some .int)) :: (Cond.fieldLink RX4 9 "TheLiningsInIt$Shelf" "elements" "[J") :: (Cond.methodLink RX4 36 yX4_hasSpan) :: (Cond.instanceMethod yX4_hasSpan) :: (Cond.selects RX4 yX4_hasSpan yX4_hasSpan) :: (Cond.code yX4_hasSpan cX4_hasSpan 3 (some .boolean)) :: (Cond.methodLink RX7 227 yX4_tells) :: []
def wsX7_behind_r3 : List Cond := (Cond.methodLink RX7 119 yX2_waysAt) :: (Cond.instanceMethod yX2_waysAt) :: (Cond.selects RX2 yX2_waysAt yX2_waysAt) :: (Cond.initialized RX2) :: (Cond.code yX2_waysAt cX2_waysAt 3 (some .int)) :: (Cond.fieldLink RX2 9 "TheLiningsInIt$Pull" "kind" "I") :: (Cond.methodLink RX2 33 Lib.Math.min.name) :: (Cond.static Lib.Math.min.name) :: (Cond.initialized "java/lang/Math") :: (Cond.code Lib.Math.min.name Lib.Math.min.code 2 (some .int)) :: (Cond.methodLink RX2 39 Lib.Math.max.name) :: (Cond.static Lib.Math.max.name) :: (Cond.code Lib.Math.max.name Lib.Math.max.code 2 (some .int)) :: (Cond.methodLink RX2 29 yX2_calmWaysAt) :: (Cond.instanceMethod yX2_calmWaysAt) :: (Cond.selects RX2 yX2_calmWaysAt yX2_calmWaysAt) :: (Cond.code yX2_calmWaysAt cX2_calmWaysAt 2 (some .int)) :: (Cond.fieldLink RX2 15 "TheLiningsInIt$Pull" "a" "I") :: (Cond.methodLink RX7 186 yX2_shallower) :: (Cond.instanceMethod yX2_shallower) :: (Cond.selects RX2 yX2_shallower yX2_shallower) :: (Cond.code yX2_shallower cX2_shallower 2 (some .int)) :: (Cond.methodLink RX2 42 yX2_step) :: (Cond.instanceMethod yX2_step) :: []
def wsX7_behind_r4 : List Cond := (Cond.selects RX2 yX2_step yX2_step) :: (Cond.code yX2_step cX2_step 1 (some .int)) :: (Cond.methodLink RX7 189 yX2_deeper) :: (Cond.instanceMethod yX2_deeper) :: (Cond.selects RX2 yX2_deeper yX2_deeper) :: (Cond.code yX2_deeper cX2_deeper 4 (some .int)) :: []
def wsX7_behind : List Cond := (.code yX7_behind cX7_behind 10 (some .int)) :: ((wsX7_behind_r1 ++ (wsX7_behind_r2 ++ (wsX7_behind_r3 ++ wsX7_behind_r4))) ++ wsX70 ++ wsX00 ++ wsX40 ++ wsX20)
def wsX7_strong_r1 : List Cond := (Cond.fieldLink RX7 18 "TheLiningsInIt" "now" "LTheLiningsInIt$Jacket;") :: (Cond.fieldLink RX7 140 "TheLiningsInIt$Jacket" "zip" "LTheLiningsInIt$Zip;") :: (Cond.methodLink RX7 230 yX6_isStrong) :: (Cond.instanceMethod yX6_isStrong) :: (Cond.selects RX6 yX6_isStrong yX6_isStrong) :: (Cond.initialized RX6) :: (Cond.code yX6_isStrong cX6_isStrong 2 (some .boolean)) :: (Cond.fieldLink RX6 19 "TheLiningsInIt$Zip" "size" "I") :: (Cond.methodLink RX6 36 yX6_lacksThreeFrom) :: (Cond.instanceMethod yX6_lacksThreeFrom) :: (Cond.selects RX6 yX6_lacksThreeFrom yX6_lacksThreeFrom) :: (Cond.code yX6_lacksThreeFrom cX6_lacksThreeFrom 2 (some .boolean)) :: (Cond.methodLink RX6 33 yX6_lacksAt) :: (Cond.instanceMethod yX6_lacksAt) :: (Cond.selects RX6 yX6_lacksAt yX6_lacksAt) :: (Cond.code yX6_lacksAt cX6_lacksAt 2 (some .boolean)) :: (Cond.fieldLink RX6 9 "TheLiningsInIt$Zip" "lacking" "[Z") :: (Cond.methodLink RX6 29 yX6_has) :: (Cond.instanceMethod yX6_has) :: (Cond.selects RX6 yX6_has yX6_has) :: (Cond.code yX6_has cX6_has 2 (some .boolean)) :: (Cond.methodLink RX7 234 yX6_frailTeeth) :: (Cond.instanceMethod yX6_frailTeeth) :: (Cond.selects RX6 yX6_frailTeeth yX6_frailTeeth) :: []
def wsX7_strong_r2 : List Cond := (Cond.code yX6_frailTeeth cX6_frailTeeth 3 (some .int)) :: (Cond.methodLink RX6 39 yX6_isStrong) :: (Cond.methodLink RX6 43 yX6_isFrail) :: (Cond.instanceMethod yX6_isFrail) :: (Cond.selects RX6 yX6_isFrail yX6_isFrail) :: (Cond.code yX6_isFrail cX6_isFrail 4 (some .boolean)) :: (Cond.methodLink RX7 237 yX6_spareTeeth) :: (Cond.instanceMethod yX6_spareTeeth) :: (Cond.selects RX6 yX6_spareTeeth yX6_spareTeeth) :: (Cond.code yX6_spareTeeth cX6_spareTeeth 8 (some .int)) :: (Cond.methodLink RX6 46 Lib.Math.max.name) :: (Cond.static Lib.Math.max.name) :: (Cond.initialized "java/lang/Math") :: (Cond.code Lib.Math.max.name Lib.Math.max.code 2 (some .int)) :: (Cond.methodLink RX7 240 yX6_lackingTeeth) :: (Cond.instanceMethod yX6_lackingTeeth) :: (Cond.selects RX6 yX6_lackingTeeth yX6_lackingTeeth) :: (Cond.code yX6_lackingTeeth cX6_lackingTeeth 3 (some .int)) :: (Cond.methodLink RX7 63 yX7_refuse) :: (Cond.instanceMethod yX7_refuse) :: (Cond.selects RX7 yX7_refuse yX7_refuse) :: (Cond.initialized RX7) :: (Cond.code yX7_refuse cX7_refuse 2 (some .int)) :: (Cond.fieldLink RX7 46 "TheLiningsInIt" "refusals" "[I") :: []
def wsX7_strong_r3 : List Cond := (Cond.methodLink RX7 67 yX7_within) :: (Cond.static yX7_within) :: (Cond.code yX7_within cX7_within 3 (some .boolean)) :: []
def wsX7_strong : List Cond := (.code yX7_strong cX7_strong 2 (some .int)) :: ((wsX7_strong_r1 ++ (wsX7_strong_r2 ++ wsX7_strong_r3)) ++ wsX70 ++ wsX00 ++ wsX60)
def wsX7_catches_r1 : List Cond := (Cond.fieldLink RX7 18 "TheLiningsInIt" "now" "LTheLiningsInIt$Jacket;") :: (Cond.fieldLink RX7 140 "TheLiningsInIt$Jacket" "zip" "LTheLiningsInIt$Zip;") :: (Cond.methodLink RX7 243 yX6_catchingTeeth) :: (Cond.instanceMethod yX6_catchingTeeth) :: (Cond.selects RX6 yX6_catchingTeeth yX6_catchingTeeth) :: (Cond.initialized RX6) :: (Cond.code yX6_catchingTeeth cX6_catchingTeeth 4 (some .int)) :: (Cond.fieldLink RX6 19 "TheLiningsInIt$Zip" "size" "I") :: (Cond.methodLink RX6 52 yX6_catchesAt) :: (Cond.instanceMethod yX6_catchesAt) :: (Cond.selects RX6 yX6_catchesAt yX6_catchesAt) :: (Cond.code yX6_catchesAt cX6_catchesAt 2 (some .boolean)) :: (Cond.fieldLink RX6 9 "TheLiningsInIt$Zip" "lacking" "[Z") :: (Cond.fieldLink RX6 15 "TheLiningsInIt$Zip" "slacks" "[I") :: (Cond.fieldLink RX6 26 "TheLiningsInIt$Zip" "gap" "I") :: (Cond.methodLink RX6 29 yX6_has) :: (Cond.instanceMethod yX6_has) :: (Cond.selects RX6 yX6_has yX6_has) :: (Cond.code yX6_has cX6_has 2 (some .boolean)) :: (Cond.methodLink RX7 63 yX7_refuse) :: (Cond.instanceMethod yX7_refuse) :: (Cond.selects RX7 yX7_refuse yX7_refuse) :: (Cond.initialized RX7) :: (Cond.code yX7_refuse cX7_refuse 2 (some .int)) :: []
def wsX7_catches_r2 : List Cond := (Cond.fieldLink RX7 46 "TheLiningsInIt" "refusals" "[I") :: (Cond.methodLink RX7 67 yX7_within) :: (Cond.static yX7_within) :: (Cond.code yX7_within cX7_within 3 (some .boolean)) :: []
def wsX7_catches : List Cond := (.code yX7_catches cX7_catches 3 (some .int)) :: ((wsX7_catches_r1 ++ wsX7_catches_r2) ++ wsX70 ++ wsX00 ++ wsX60)
def wsX7_stitches_r1 : List Cond := (Cond.fieldLink RX7 18 "TheLiningsInIt" "now" "LTheLiningsInIt$Jacket;") :: (Cond.fieldLink RX7 140 "TheLiningsInIt$Jacket" "zip" "LTheLiningsInIt$Zip;") :: (Cond.methodLink RX7 246 yX6_stitchesNeeded) :: (Cond.instanceMethod yX6_stitchesNeeded) :: (Cond.selects RX6 yX6_stitchesNeeded yX6_stitchesNeeded) :: (Cond.initialized RX6) :: (Cond.code yX6_stitchesNeeded cX6_stitchesNeeded 6 (some .int)) :: (Cond.fieldLink RX6 19 "TheLiningsInIt$Zip" "size" "I") :: (Cond.methodLink RX6 55 Lib.Math.min.name) :: (Cond.static Lib.Math.min.name) :: (Cond.initialized "java/lang/Math") :: (Cond.code Lib.Math.min.name Lib.Math.min.code 2 (some .int)) :: (Cond.methodLink RX6 52 yX6_catchesAt) :: (Cond.instanceMethod yX6_catchesAt) :: (Cond.selects RX6 yX6_catchesAt yX6_catchesAt) :: (Cond.code yX6_catchesAt cX6_catchesAt 2 (some .boolean)) :: (Cond.fieldLink RX6 9 "TheLiningsInIt$Zip" "lacking" "[Z") :: (Cond.fieldLink RX6 15 "TheLiningsInIt$Zip" "slacks" "[I") :: (Cond.fieldLink RX6 26 "TheLiningsInIt$Zip" "gap" "I") :: (Cond.methodLink RX6 29 yX6_has) :: (Cond.instanceMethod yX6_has) :: (Cond.selects RX6 yX6_has yX6_has) :: (Cond.code yX6_has cX6_has 2 (some .boolean)) :: (Cond.methodLink RX7 63 yX7_refuse) :: []
def wsX7_stitches_r2 : List Cond := (Cond.instanceMethod yX7_refuse) :: (Cond.selects RX7 yX7_refuse yX7_refuse) :: (Cond.initialized RX7) :: (Cond.code yX7_refuse cX7_refuse 2 (some .int)) :: (Cond.fieldLink RX7 46 "TheLiningsInIt" "refusals" "[I") :: (Cond.methodLink RX7 67 yX7_within) :: (Cond.static yX7_within) :: (Cond.code yX7_within cX7_within 3 (some .boolean)) :: []
def wsX7_stitches : List Cond := (.code yX7_stitches cX7_stitches 3 (some .int)) :: ((wsX7_stitches_r1 ++ wsX7_stitches_r2) ++ wsX70 ++ wsX00 ++ wsX60)
def wsX7_firstWrong_r1 : List Cond := (Cond.fieldLink RX7 18 "TheLiningsInIt" "now" "LTheLiningsInIt$Jacket;") :: (Cond.fieldLink RX7 199 "TheLiningsInIt$Jacket" "depth" "I") :: (Cond.fieldLink RX7 202 "TheLiningsInIt$Jacket" "seconds" "I") :: (Cond.fieldLink RX7 116 "TheLiningsInIt$Jacket" "hurry" "I") :: (Cond.fieldLink RX7 110 "TheLiningsInIt$Pull" "takes" "I") :: (Cond.methodLink RX7 227 yX4_tells) :: (Cond.instanceMethod yX4_tells) :: (Cond.selects RX4 yX4_tells yX4_tells) :: (Cond.initialized RX4) :: (Cond.code yX4_tells cX4_tells 2 (some .int)) :: (Cond.fieldLink RX4 9 "TheLiningsInIt$Shelf" "elements" "[J") :: (Cond.methodLink RX4 36 yX4_hasSpan) :: (Cond.instanceMethod yX4_hasSpan) :: (Cond.selects RX4 yX4_hasSpan yX4_hasSpan) :: (Cond.code yX4_hasSpan cX4_hasSpan 3 (some .boolean)) :: (Cond.fieldLink RX4 19 "TheLiningsInIt$Shelf" "size" "I") :: (Cond.methodLink RX7 100 yX0_pullAt) :: (Cond.instanceMethod yX0_pullAt) :: (Cond.selects RX0 yX0_pullAt yX0_pullAt) :: (Cond.initialized RX0) :: (Cond.code yX0_pullAt cX0_pullAt 2 (some (.object "TheLiningsInIt$Pull"))) :: (Cond.fieldLink RX0 28 "TheLiningsInIt$Jacket" "pullCount" "I") :: (Cond.fieldLink RX0 20 "TheLiningsInIt$Jacket" "pulls" "[LTheLiningsInIt$Pull;") :: (Cond.static yX7_within) :: []
def wsX7_firstWrong_r2 : List Cond := (Cond.initialized RX7) :: (Cond.code yX7_within cX7_within 3 (some .boolean)) :: (Cond.methodLink RX7 310 yX2_mayBe) :: (Cond.instanceMethod yX2_mayBe) :: (Cond.selects RX2 yX2_mayBe yX2_mayBe) :: (Cond.initialized RX2) :: (Cond.code yX2_mayBe cX2_mayBe 3 (some .boolean)) :: (Cond.fieldLink RX2 18 "TheLiningsInIt$Pull" "takes" "I") :: (Cond.methodLink RX7 119 yX2_waysAt) :: (Cond.instanceMethod yX2_waysAt) :: (Cond.selects RX2 yX2_waysAt yX2_waysAt) :: (Cond.code yX2_waysAt cX2_waysAt 3 (some .int)) :: (Cond.fieldLink RX2 9 "TheLiningsInIt$Pull" "kind" "I") :: (Cond.methodLink RX2 33 Lib.Math.min.name) :: (Cond.static Lib.Math.min.name) :: (Cond.initialized "java/lang/Math") :: (Cond.code Lib.Math.min.name Lib.Math.min.code 2 (some .int)) :: (Cond.methodLink RX2 39 Lib.Math.max.name) :: (Cond.static Lib.Math.max.name) :: (Cond.code Lib.Math.max.name Lib.Math.max.code 2 (some .int)) :: (Cond.methodLink RX2 29 yX2_calmWaysAt) :: (Cond.instanceMethod yX2_calmWaysAt) :: (Cond.selects RX2 yX2_calmWaysAt yX2_calmWaysAt) :: (Cond.code yX2_calmWaysAt cX2_calmWaysAt 2 (some .int)) :: []
def wsX7_firstWrong_r3 : List Cond := (Cond.fieldLink RX2 15 "TheLiningsInIt$Pull" "a" "I") :: (Cond.methodLink RX7 186 yX2_shallower) :: (Cond.instanceMethod yX2_shallower) :: (Cond.selects RX2 yX2_shallower yX2_shallower) :: (Cond.code yX2_shallower cX2_shallower 2 (some .int)) :: (Cond.methodLink RX2 42 yX2_step) :: (Cond.instanceMethod yX2_step) :: (Cond.selects RX2 yX2_step yX2_step) :: (Cond.code yX2_step cX2_step 1 (some .int)) :: (Cond.methodLink RX7 189 yX2_deeper) :: (Cond.instanceMethod yX2_deeper) :: (Cond.selects RX2 yX2_deeper yX2_deeper) :: (Cond.code yX2_deeper cX2_deeper 4 (some .int)) :: []
def wsX7_firstWrong : List Cond := (.code yX7_firstWrong cX7_firstWrong 8 (some .int)) :: ((wsX7_firstWrong_r1 ++ (wsX7_firstWrong_r2 ++ wsX7_firstWrong_r3)) ++ wsX70 ++ wsX00 ++ wsX20 ++ wsX40)
def wsX7_judge_r1 : List Cond := (Cond.methodLink RX7 59 yX7_shelfAt) :: (Cond.instanceMethod yX7_shelfAt) :: (Cond.selects RX7 yX7_shelfAt yX7_shelfAt) :: (Cond.initialized RX7) :: (Cond.code yX7_shelfAt cX7_shelfAt 2 (some (.object "TheLiningsInIt$Shelf"))) :: (Cond.fieldLink RX7 11 "TheLiningsInIt" "shelves" "[LTheLiningsInIt$Shelf;") :: (Cond.methodLink RX7 67 yX7_within) :: (Cond.static yX7_within) :: (Cond.code yX7_within cX7_within 3 (some .boolean)) :: (Cond.methodLink RX7 192 yX7_refuseLower) :: (Cond.instanceMethod yX7_refuseLower) :: (Cond.selects RX7 yX7_refuseLower yX7_refuseLower) :: (Cond.code yX7_refuseLower cX7_refuseLower 2 (some .int)) :: (Cond.methodLink RX7 63 yX7_refuse) :: (Cond.instanceMethod yX7_refuse) :: (Cond.selects RX7 yX7_refuse yX7_refuse) :: (Cond.code yX7_refuse cX7_refuse 2 (some .int)) :: (Cond.fieldLink RX7 46 "TheLiningsInIt" "refusals" "[I") :: (Cond.methodLink RX7 249 yX4_noTelling) :: (Cond.instanceMethod yX4_noTelling) :: (Cond.selects RX4 yX4_noTelling yX4_noTelling) :: (Cond.initialized RX4) :: (Cond.code yX4_noTelling cX4_noTelling 3 (some .int)) :: (Cond.fieldLink RX4 19 "TheLiningsInIt$Shelf" "size" "I") :: []
def wsX7_judge_r2 : List Cond := (Cond.methodLink RX4 28 yX4_noRow) :: (Cond.instanceMethod yX4_noRow) :: (Cond.selects RX4 yX4_noRow yX4_noRow) :: (Cond.code yX4_noRow cX4_noRow 1 (some .int)) :: (Cond.fieldLink RX4 15 "TheLiningsInIt$Shelf" "held" "I") :: (Cond.methodLink RX7 252 yX7_firstWrong) :: (Cond.instanceMethod yX7_firstWrong) :: (Cond.selects RX7 yX7_firstWrong yX7_firstWrong) :: (Cond.code yX7_firstWrong cX7_firstWrong 8 (some .int)) :: (Cond.fieldLink RX7 18 "TheLiningsInIt" "now" "LTheLiningsInIt$Jacket;") :: (Cond.fieldLink RX7 199 "TheLiningsInIt$Jacket" "depth" "I") :: (Cond.fieldLink RX7 202 "TheLiningsInIt$Jacket" "seconds" "I") :: (Cond.fieldLink RX7 116 "TheLiningsInIt$Jacket" "hurry" "I") :: (Cond.fieldLink RX7 110 "TheLiningsInIt$Pull" "takes" "I") :: (Cond.methodLink RX7 227 yX4_tells) :: (Cond.instanceMethod yX4_tells) :: (Cond.selects RX4 yX4_tells yX4_tells) :: (Cond.code yX4_tells cX4_tells 2 (some .int)) :: (Cond.fieldLink RX4 9 "TheLiningsInIt$Shelf" "elements" "[J") :: (Cond.methodLink RX4 36 yX4_hasSpan) :: (Cond.instanceMethod yX4_hasSpan) :: (Cond.selects RX4 yX4_hasSpan yX4_hasSpan) :: (Cond.code yX4_hasSpan cX4_hasSpan 3 (some .boolean)) :: (Cond.methodLink RX7 100 yX0_pullAt) :: []
def wsX7_judge_r3 : List Cond := (Cond.instanceMethod yX0_pullAt) :: (Cond.selects RX0 yX0_pullAt yX0_pullAt) :: (Cond.initialized RX0) :: (Cond.code yX0_pullAt cX0_pullAt 2 (some (.object "TheLiningsInIt$Pull"))) :: (Cond.fieldLink RX0 28 "TheLiningsInIt$Jacket" "pullCount" "I") :: (Cond.fieldLink RX0 20 "TheLiningsInIt$Jacket" "pulls" "[LTheLiningsInIt$Pull;") :: (Cond.methodLink RX7 310 yX2_mayBe) :: (Cond.instanceMethod yX2_mayBe) :: (Cond.selects RX2 yX2_mayBe yX2_mayBe) :: (Cond.initialized RX2) :: (Cond.code yX2_mayBe cX2_mayBe 3 (some .boolean)) :: (Cond.fieldLink RX2 18 "TheLiningsInIt$Pull" "takes" "I") :: (Cond.methodLink RX7 119 yX2_waysAt) :: (Cond.instanceMethod yX2_waysAt) :: (Cond.selects RX2 yX2_waysAt yX2_waysAt) :: (Cond.code yX2_waysAt cX2_waysAt 3 (some .int)) :: (Cond.fieldLink RX2 9 "TheLiningsInIt$Pull" "kind" "I") :: (Cond.methodLink RX2 33 Lib.Math.min.name) :: (Cond.static Lib.Math.min.name) :: (Cond.initialized "java/lang/Math") :: (Cond.code Lib.Math.min.name Lib.Math.min.code 2 (some .int)) :: (Cond.methodLink RX2 39 Lib.Math.max.name) :: (Cond.static Lib.Math.max.name) :: (Cond.code Lib.Math.max.name Lib.Math.max.code 2 (some .int)) :: []
def wsX7_judge_r4 : List Cond := (Cond.methodLink RX2 29 yX2_calmWaysAt) :: (Cond.instanceMethod yX2_calmWaysAt) :: (Cond.selects RX2 yX2_calmWaysAt yX2_calmWaysAt) :: (Cond.code yX2_calmWaysAt cX2_calmWaysAt 2 (some .int)) :: (Cond.fieldLink RX2 15 "TheLiningsInIt$Pull" "a" "I") :: (Cond.methodLink RX7 186 yX2_shallower) :: (Cond.instanceMethod yX2_shallower) :: (Cond.selects RX2 yX2_shallower yX2_shallower) :: (Cond.code yX2_shallower cX2_shallower 2 (some .int)) :: (Cond.methodLink RX2 42 yX2_step) :: (Cond.instanceMethod yX2_step) :: (Cond.selects RX2 yX2_step yX2_step) :: (Cond.code yX2_step cX2_step 1 (some .int)) :: (Cond.methodLink RX7 189 yX2_deeper) :: (Cond.instanceMethod yX2_deeper) :: (Cond.selects RX2 yX2_deeper yX2_deeper) :: (Cond.code yX2_deeper cX2_deeper 4 (some .int)) :: []
def wsX7_judge : List Cond := (.code yX7_judge cX7_judge 5 (some .int)) :: ((wsX7_judge_r1 ++ (wsX7_judge_r2 ++ (wsX7_judge_r3 ++ wsX7_judge_r4))) ++ wsX70 ++ wsX40 ++ wsX00 ++ wsX20)
def wsX7_rowsMeant_r1 : List Cond := (Cond.fieldLink RX7 18 "TheLiningsInIt" "now" "LTheLiningsInIt$Jacket;") :: (Cond.fieldLink RX7 199 "TheLiningsInIt$Jacket" "depth" "I") :: (Cond.constant RX7 312 (1000000)) :: (Cond.methodLink RX7 316 Lib.Math.min.name) :: (Cond.static Lib.Math.min.name) :: (Cond.initialized "java/lang/Math") :: (Cond.code Lib.Math.min.name Lib.Math.min.code 2 (some .int)) :: (Cond.methodLink RX7 227 yX4_tells) :: (Cond.instanceMethod yX4_tells) :: (Cond.selects RX4 yX4_tells yX4_tells) :: (Cond.initialized RX4) :: (Cond.code yX4_tells cX4_tells 2 (some .int)) :: (Cond.fieldLink RX4 9 "TheLiningsInIt$Shelf" "elements" "[J") :: (Cond.methodLink RX4 36 yX4_hasSpan) :: (Cond.instanceMethod yX4_hasSpan) :: (Cond.selects RX4 yX4_hasSpan yX4_hasSpan) :: (Cond.code yX4_hasSpan cX4_hasSpan 3 (some .boolean)) :: (Cond.fieldLink RX4 19 "TheLiningsInIt$Shelf" "size" "I") :: (Cond.methodLink RX7 313 yX0_pullsMaking) :: (Cond.instanceMethod yX0_pullsMaking) :: (Cond.selects RX0 yX0_pullsMaking yX0_pullsMaking) :: (Cond.initialized RX0) :: (Cond.code yX0_pullsMaking cX0_pullsMaking 6 (some .int)) :: (Cond.fieldLink RX0 28 "TheLiningsInIt$Jacket" "pullCount" "I") :: []
def wsX7_rowsMeant_r2 : List Cond := (Cond.fieldLink RX0 41 "TheLiningsInIt$Jacket" "hurry" "I") :: (Cond.methodLink RX0 77 yX0_pullAt) :: (Cond.instanceMethod yX0_pullAt) :: (Cond.selects RX0 yX0_pullAt yX0_pullAt) :: (Cond.code yX0_pullAt cX0_pullAt 2 (some (.object "TheLiningsInIt$Pull"))) :: (Cond.fieldLink RX0 20 "TheLiningsInIt$Jacket" "pulls" "[LTheLiningsInIt$Pull;") :: (Cond.static yX7_within) :: (Cond.initialized RX7) :: (Cond.code yX7_within cX7_within 3 (some .boolean)) :: (Cond.methodLink RX0 81 yX2_makes) :: (Cond.instanceMethod yX2_makes) :: (Cond.selects RX2 yX2_makes yX2_makes) :: (Cond.initialized RX2) :: (Cond.code yX2_makes cX2_makes 5 (some .boolean)) :: (Cond.methodLink RX2 46 yX2_waysAt) :: (Cond.instanceMethod yX2_waysAt) :: (Cond.selects RX2 yX2_waysAt yX2_waysAt) :: (Cond.code yX2_waysAt cX2_waysAt 3 (some .int)) :: (Cond.fieldLink RX2 9 "TheLiningsInIt$Pull" "kind" "I") :: (Cond.methodLink RX2 33 Lib.Math.min.name) :: (Cond.methodLink RX2 39 Lib.Math.max.name) :: (Cond.static Lib.Math.max.name) :: (Cond.code Lib.Math.max.name Lib.Math.max.code 2 (some .int)) :: (Cond.methodLink RX2 29 yX2_calmWaysAt) :: []
def wsX7_rowsMeant_r3 : List Cond := (Cond.instanceMethod yX2_calmWaysAt) :: (Cond.selects RX2 yX2_calmWaysAt yX2_calmWaysAt) :: (Cond.code yX2_calmWaysAt cX2_calmWaysAt 2 (some .int)) :: (Cond.fieldLink RX2 15 "TheLiningsInIt$Pull" "a" "I") :: (Cond.methodLink RX2 49 yX2_shallower) :: (Cond.instanceMethod yX2_shallower) :: (Cond.selects RX2 yX2_shallower yX2_shallower) :: (Cond.code yX2_shallower cX2_shallower 2 (some .int)) :: (Cond.methodLink RX2 42 yX2_step) :: (Cond.instanceMethod yX2_step) :: (Cond.selects RX2 yX2_step yX2_step) :: (Cond.code yX2_step cX2_step 1 (some .int)) :: (Cond.methodLink RX2 52 yX2_deeper) :: (Cond.instanceMethod yX2_deeper) :: (Cond.selects RX2 yX2_deeper yX2_deeper) :: (Cond.code yX2_deeper cX2_deeper 4 (some .int)) :: []
def wsX7_rowsMeant : List Cond := (.code yX7_rowsMeant cX7_rowsMeant 7 (some .int)) :: ((wsX7_rowsMeant_r1 ++ (wsX7_rowsMeant_r2 ++ wsX7_rowsMeant_r3)) ++ wsX70 ++ wsX00 ++ wsX40 ++ wsX20)
def wsX7_meant_r1 : List Cond := (Cond.fieldLink RX7 18 "TheLiningsInIt" "now" "LTheLiningsInIt$Jacket;") :: (Cond.fieldLink RX7 199 "TheLiningsInIt$Jacket" "depth" "I") :: (Cond.methodLink RX7 59 yX7_shelfAt) :: (Cond.instanceMethod yX7_shelfAt) :: (Cond.selects RX7 yX7_shelfAt yX7_shelfAt) :: (Cond.initialized RX7) :: (Cond.code yX7_shelfAt cX7_shelfAt 2 (some (.object "TheLiningsInIt$Shelf"))) :: (Cond.fieldLink RX7 11 "TheLiningsInIt" "shelves" "[LTheLiningsInIt$Shelf;") :: (Cond.methodLink RX7 67 yX7_within) :: (Cond.static yX7_within) :: (Cond.code yX7_within cX7_within 3 (some .boolean)) :: (Cond.methodLink RX7 63 yX7_refuse) :: (Cond.instanceMethod yX7_refuse) :: (Cond.selects RX7 yX7_refuse yX7_refuse) :: (Cond.code yX7_refuse cX7_refuse 2 (some .int)) :: (Cond.fieldLink RX7 46 "TheLiningsInIt" "refusals" "[I") :: (Cond.methodLink RX7 249 yX4_noTelling) :: (Cond.instanceMethod yX4_noTelling) :: (Cond.selects RX4 yX4_noTelling yX4_noTelling) :: (Cond.initialized RX4) :: (Cond.code yX4_noTelling cX4_noTelling 3 (some .int)) :: (Cond.fieldLink RX4 19 "TheLiningsInIt$Shelf" "size" "I") :: (Cond.methodLink RX4 28 yX4_noRow) :: (Cond.instanceMethod yX4_noRow) :: []
def wsX7_meant_r2 : List Cond := (Cond.selects RX4 yX4_noRow yX4_noRow) :: (Cond.code yX4_noRow cX4_noRow 1 (some .int)) :: (Cond.fieldLink RX4 15 "TheLiningsInIt$Shelf" "held" "I") :: (Cond.methodLink RX7 256 yX4_tellsWithin) :: (Cond.instanceMethod yX4_tellsWithin) :: (Cond.selects RX4 yX4_tellsWithin yX4_tellsWithin) :: (Cond.code yX4_tellsWithin cX4_tellsWithin 5 (some .boolean)) :: (Cond.methodLink RX4 40 yX4_tells) :: (Cond.instanceMethod yX4_tells) :: (Cond.selects RX4 yX4_tells yX4_tells) :: (Cond.code yX4_tells cX4_tells 2 (some .int)) :: (Cond.fieldLink RX4 9 "TheLiningsInIt$Shelf" "elements" "[J") :: (Cond.methodLink RX4 36 yX4_hasSpan) :: (Cond.instanceMethod yX4_hasSpan) :: (Cond.selects RX4 yX4_hasSpan yX4_hasSpan) :: (Cond.code yX4_hasSpan cX4_hasSpan 3 (some .boolean)) :: (Cond.methodLink RX7 259 yX7_rowsMeant) :: (Cond.instanceMethod yX7_rowsMeant) :: (Cond.selects RX7 yX7_rowsMeant yX7_rowsMeant) :: (Cond.code yX7_rowsMeant cX7_rowsMeant 7 (some .int)) :: (Cond.constant RX7 312 (1000000)) :: (Cond.methodLink RX7 316 Lib.Math.min.name) :: (Cond.static Lib.Math.min.name) :: (Cond.initialized "java/lang/Math") :: []
def wsX7_meant_r3 : List Cond := (Cond.code Lib.Math.min.name Lib.Math.min.code 2 (some .int)) :: (Cond.methodLink RX7 227 yX4_tells) :: (Cond.methodLink RX7 313 yX0_pullsMaking) :: (Cond.instanceMethod yX0_pullsMaking) :: (Cond.selects RX0 yX0_pullsMaking yX0_pullsMaking) :: (Cond.initialized RX0) :: (Cond.code yX0_pullsMaking cX0_pullsMaking 6 (some .int)) :: (Cond.fieldLink RX0 28 "TheLiningsInIt$Jacket" "pullCount" "I") :: (Cond.fieldLink RX0 41 "TheLiningsInIt$Jacket" "hurry" "I") :: (Cond.methodLink RX0 77 yX0_pullAt) :: (Cond.instanceMethod yX0_pullAt) :: (Cond.selects RX0 yX0_pullAt yX0_pullAt) :: (Cond.code yX0_pullAt cX0_pullAt 2 (some (.object "TheLiningsInIt$Pull"))) :: (Cond.fieldLink RX0 20 "TheLiningsInIt$Jacket" "pulls" "[LTheLiningsInIt$Pull;") :: (Cond.methodLink RX0 81 yX2_makes) :: (Cond.instanceMethod yX2_makes) :: (Cond.selects RX2 yX2_makes yX2_makes) :: (Cond.initialized RX2) :: (Cond.code yX2_makes cX2_makes 5 (some .boolean)) :: (Cond.methodLink RX2 46 yX2_waysAt) :: (Cond.instanceMethod yX2_waysAt) :: (Cond.selects RX2 yX2_waysAt yX2_waysAt) :: (Cond.code yX2_waysAt cX2_waysAt 3 (some .int)) :: (Cond.fieldLink RX2 9 "TheLiningsInIt$Pull" "kind" "I") :: []
def wsX7_meant_r4 : List Cond := (Cond.methodLink RX2 33 Lib.Math.min.name) :: (Cond.methodLink RX2 39 Lib.Math.max.name) :: (Cond.static Lib.Math.max.name) :: (Cond.code Lib.Math.max.name Lib.Math.max.code 2 (some .int)) :: (Cond.methodLink RX2 29 yX2_calmWaysAt) :: (Cond.instanceMethod yX2_calmWaysAt) :: (Cond.selects RX2 yX2_calmWaysAt yX2_calmWaysAt) :: (Cond.code yX2_calmWaysAt cX2_calmWaysAt 2 (some .int)) :: (Cond.fieldLink RX2 15 "TheLiningsInIt$Pull" "a" "I") :: (Cond.methodLink RX2 49 yX2_shallower) :: (Cond.instanceMethod yX2_shallower) :: (Cond.selects RX2 yX2_shallower yX2_shallower) :: (Cond.code yX2_shallower cX2_shallower 2 (some .int)) :: (Cond.methodLink RX2 42 yX2_step) :: (Cond.instanceMethod yX2_step) :: (Cond.selects RX2 yX2_step yX2_step) :: (Cond.code yX2_step cX2_step 1 (some .int)) :: (Cond.methodLink RX2 52 yX2_deeper) :: (Cond.instanceMethod yX2_deeper) :: (Cond.selects RX2 yX2_deeper yX2_deeper) :: (Cond.code yX2_deeper cX2_deeper 4 (some .int)) :: (Cond.methodLink RX7 262 yX0_firstMaking) :: (Cond.instanceMethod yX0_firstMaking) :: (Cond.selects RX0 yX0_firstMaking yX0_firstMaking) :: []
def wsX7_meant_r5 : List Cond := (Cond.code yX0_firstMaking cX0_firstMaking 5 (some .int)) :: []
def wsX7_meant : List Cond := (.code yX7_meant cX7_meant 8 (some .int)) :: ((wsX7_meant_r1 ++ (wsX7_meant_r2 ++ (wsX7_meant_r3 ++ (wsX7_meant_r4 ++ wsX7_meant_r5)))) ++ wsX70 ++ wsX00 ++ wsX40 ++ wsX20)
def wsX7_closed_r1 : List Cond := (Cond.fieldLink RX7 18 "TheLiningsInIt" "now" "LTheLiningsInIt$Jacket;") :: (Cond.fieldLink RX7 140 "TheLiningsInIt$Jacket" "zip" "LTheLiningsInIt$Zip;") :: (Cond.methodLink RX7 265 yX6_runsTo) :: (Cond.instanceMethod yX6_runsTo) :: (Cond.selects RX6 yX6_runsTo yX6_runsTo) :: (Cond.initialized RX6) :: (Cond.code yX6_runsTo cX6_runsTo 2 (some .int)) :: (Cond.fieldLink RX6 23 "TheLiningsInIt$Zip" "at" "I") :: (Cond.fieldLink RX6 19 "TheLiningsInIt$Zip" "size" "I") :: (Cond.methodLink RX6 52 yX6_catchesAt) :: (Cond.instanceMethod yX6_catchesAt) :: (Cond.selects RX6 yX6_catchesAt yX6_catchesAt) :: (Cond.code yX6_catchesAt cX6_catchesAt 2 (some .boolean)) :: (Cond.fieldLink RX6 9 "TheLiningsInIt$Zip" "lacking" "[Z") :: (Cond.fieldLink RX6 15 "TheLiningsInIt$Zip" "slacks" "[I") :: (Cond.fieldLink RX6 26 "TheLiningsInIt$Zip" "gap" "I") :: (Cond.methodLink RX6 29 yX6_has) :: (Cond.instanceMethod yX6_has) :: (Cond.selects RX6 yX6_has yX6_has) :: (Cond.code yX6_has cX6_has 2 (some .boolean)) :: (Cond.methodLink RX6 36 yX6_lacksThreeFrom) :: (Cond.instanceMethod yX6_lacksThreeFrom) :: (Cond.selects RX6 yX6_lacksThreeFrom yX6_lacksThreeFrom) :: (Cond.code yX6_lacksThreeFrom cX6_lacksThreeFrom 2 (some .boolean)) :: []
def wsX7_closed_r2 : List Cond := (Cond.methodLink RX6 33 yX6_lacksAt) :: (Cond.instanceMethod yX6_lacksAt) :: (Cond.selects RX6 yX6_lacksAt yX6_lacksAt) :: (Cond.code yX6_lacksAt cX6_lacksAt 2 (some .boolean)) :: []
def wsX7_closed : List Cond := (.code yX7_closed cX7_closed 1 (some .int)) :: ((wsX7_closed_r1 ++ wsX7_closed_r2) ++ wsX70 ++ wsX00 ++ wsX60)
def wsX7_pulls_r1 : List Cond := (Cond.fieldLink RX7 18 "TheLiningsInIt" "now" "LTheLiningsInIt$Jacket;") :: (Cond.fieldLink RX7 199 "TheLiningsInIt$Jacket" "depth" "I") :: (Cond.methodLink RX7 100 yX0_pullAt) :: (Cond.instanceMethod yX0_pullAt) :: (Cond.selects RX0 yX0_pullAt yX0_pullAt) :: (Cond.initialized RX0) :: (Cond.code yX0_pullAt cX0_pullAt 2 (some (.object "TheLiningsInIt$Pull"))) :: (Cond.fieldLink RX0 28 "TheLiningsInIt$Jacket" "pullCount" "I") :: (Cond.fieldLink RX0 20 "TheLiningsInIt$Jacket" "pulls" "[LTheLiningsInIt$Pull;") :: (Cond.static yX7_within) :: (Cond.initialized RX7) :: (Cond.code yX7_within cX7_within 3 (some .boolean)) :: (Cond.methodLink RX7 63 yX7_refuse) :: (Cond.instanceMethod yX7_refuse) :: (Cond.selects RX7 yX7_refuse yX7_refuse) :: (Cond.code yX7_refuse cX7_refuse 2 (some .int)) :: (Cond.fieldLink RX7 46 "TheLiningsInIt" "refusals" "[I") :: (Cond.methodLink RX7 67 yX7_within) :: (Cond.methodLink RX7 136 yX0_mayBe) :: (Cond.instanceMethod yX0_mayBe) :: (Cond.selects RX0 yX0_mayBe yX0_mayBe) :: (Cond.code yX0_mayBe cX0_mayBe 2 (some .boolean)) :: (Cond.fieldLink RX0 32 "TheLiningsInIt$Jacket" "depth" "I") :: (Cond.fieldLink RX0 38 "TheLiningsInIt$Jacket" "seconds" "I") :: []
def wsX7_pulls_r2 : List Cond := (Cond.methodLink RX0 73 yX2_mayBe) :: (Cond.instanceMethod yX2_mayBe) :: (Cond.selects RX2 yX2_mayBe yX2_mayBe) :: (Cond.initialized RX2) :: (Cond.code yX2_mayBe cX2_mayBe 3 (some .boolean)) :: (Cond.fieldLink RX2 18 "TheLiningsInIt$Pull" "takes" "I") :: (Cond.methodLink RX7 268 yX0_pullInTruth) :: (Cond.instanceMethod yX0_pullInTruth) :: (Cond.selects RX0 yX0_pullInTruth yX0_pullInTruth) :: (Cond.code yX0_pullInTruth cX0_pullInTruth 3 none) :: (Cond.fieldLink RX0 41 "TheLiningsInIt$Jacket" "hurry" "I") :: (Cond.fieldLink RX0 99 "TheLiningsInIt$Pull" "takes" "I") :: (Cond.fieldLink RX0 102 "TheLiningsInIt$Pull" "kind" "I") :: (Cond.fieldLink RX0 35 "TheLiningsInIt$Jacket" "torn" "I") :: (Cond.methodLink RX0 85 yX0_draw) :: (Cond.instanceMethod yX0_draw) :: (Cond.selects RX0 yX0_draw yX0_draw) :: (Cond.code yX0_draw cX0_draw 2 (some .int)) :: (Cond.fieldLink RX0 44 "TheLiningsInIt$Jacket" "seedNow" "I") :: (Cond.constant RX0 84 (1103515245)) :: (Cond.methodLink RX0 89 yX2_waysAt) :: (Cond.instanceMethod yX2_waysAt) :: (Cond.selects RX2 yX2_waysAt yX2_waysAt) :: (Cond.code yX2_waysAt cX2_waysAt 3 (some .int)) :: []
def wsX7_pulls_r3 : List Cond := (Cond.fieldLink RX2 9 "TheLiningsInIt$Pull" "kind" "I") :: (Cond.methodLink RX2 33 Lib.Math.min.name) :: (Cond.static Lib.Math.min.name) :: (Cond.initialized "java/lang/Math") :: (Cond.code Lib.Math.min.name Lib.Math.min.code 2 (some .int)) :: (Cond.methodLink RX2 39 Lib.Math.max.name) :: (Cond.static Lib.Math.max.name) :: (Cond.code Lib.Math.max.name Lib.Math.max.code 2 (some .int)) :: (Cond.methodLink RX2 29 yX2_calmWaysAt) :: (Cond.instanceMethod yX2_calmWaysAt) :: (Cond.selects RX2 yX2_calmWaysAt yX2_calmWaysAt) :: (Cond.code yX2_calmWaysAt cX2_calmWaysAt 2 (some .int)) :: (Cond.fieldLink RX2 15 "TheLiningsInIt$Pull" "a" "I") :: (Cond.methodLink RX0 93 yX2_shallower) :: (Cond.instanceMethod yX2_shallower) :: (Cond.selects RX2 yX2_shallower yX2_shallower) :: (Cond.code yX2_shallower cX2_shallower 2 (some .int)) :: (Cond.methodLink RX2 42 yX2_step) :: (Cond.instanceMethod yX2_step) :: (Cond.selects RX2 yX2_step yX2_step) :: (Cond.code yX2_step cX2_step 1 (some .int)) :: (Cond.methodLink RX0 96 yX2_deeper) :: (Cond.instanceMethod yX2_deeper) :: (Cond.selects RX2 yX2_deeper yX2_deeper) :: []
def wsX7_pulls_r4 : List Cond := (Cond.code yX2_deeper cX2_deeper 4 (some .int)) :: []
def wsX7_pulls : List Cond := (.code yX7_pulls cX7_pulls 3 (some .int)) :: ((wsX7_pulls_r1 ++ (wsX7_pulls_r2 ++ (wsX7_pulls_r3 ++ wsX7_pulls_r4))) ++ wsX70 ++ wsX00 ++ wsX20)
def wsX7_close_r1 : List Cond := (Cond.fieldLink RX7 18 "TheLiningsInIt" "now" "LTheLiningsInIt$Jacket;") :: (Cond.fieldLink RX7 199 "TheLiningsInIt$Jacket" "depth" "I") :: (Cond.fieldLink RX7 140 "TheLiningsInIt$Jacket" "zip" "LTheLiningsInIt$Zip;") :: (Cond.fieldLink RX7 275 "TheLiningsInIt$Zip" "at" "I") :: (Cond.methodLink RX7 63 yX7_refuse) :: (Cond.instanceMethod yX7_refuse) :: (Cond.selects RX7 yX7_refuse yX7_refuse) :: (Cond.initialized RX7) :: (Cond.code yX7_refuse cX7_refuse 2 (some .int)) :: (Cond.fieldLink RX7 46 "TheLiningsInIt" "refusals" "[I") :: (Cond.methodLink RX7 67 yX7_within) :: (Cond.static yX7_within) :: (Cond.code yX7_within cX7_within 3 (some .boolean)) :: (Cond.methodLink RX7 272 yX0_closeInTruth) :: (Cond.instanceMethod yX0_closeInTruth) :: (Cond.selects RX0 yX0_closeInTruth yX0_closeInTruth) :: (Cond.initialized RX0) :: (Cond.code yX0_closeInTruth cX0_closeInTruth 2 none) :: (Cond.fieldLink RX0 12 "TheLiningsInIt$Jacket" "zip" "LTheLiningsInIt$Zip;") :: (Cond.fieldLink RX0 63 "TheLiningsInIt$Zip" "at" "I") :: (Cond.fieldLink RX0 57 "TheLiningsInIt$Zip" "size" "I") :: (Cond.fieldLink RX0 109 "TheLiningsInIt$Zip" "slacks" "[I") :: (Cond.fieldLink RX0 60 "TheLiningsInIt$Zip" "gap" "I") :: (Cond.fieldLink RX0 32 "TheLiningsInIt$Jacket" "depth" "I") :: []
def wsX7_close_r2 : List Cond := (Cond.methodLink RX0 105 yX6_catchesAt) :: (Cond.instanceMethod yX6_catchesAt) :: (Cond.selects RX6 yX6_catchesAt yX6_catchesAt) :: (Cond.initialized RX6) :: (Cond.code yX6_catchesAt cX6_catchesAt 2 (some .boolean)) :: (Cond.fieldLink RX6 9 "TheLiningsInIt$Zip" "lacking" "[Z") :: (Cond.fieldLink RX6 15 "TheLiningsInIt$Zip" "slacks" "[I") :: (Cond.fieldLink RX6 26 "TheLiningsInIt$Zip" "gap" "I") :: (Cond.methodLink RX6 29 yX6_has) :: (Cond.instanceMethod yX6_has) :: (Cond.selects RX6 yX6_has yX6_has) :: (Cond.code yX6_has cX6_has 2 (some .boolean)) :: (Cond.fieldLink RX6 19 "TheLiningsInIt$Zip" "size" "I") :: (Cond.methodLink RX0 85 yX0_draw) :: (Cond.instanceMethod yX0_draw) :: (Cond.selects RX0 yX0_draw yX0_draw) :: (Cond.code yX0_draw cX0_draw 2 (some .int)) :: (Cond.fieldLink RX0 44 "TheLiningsInIt$Jacket" "seedNow" "I") :: (Cond.constant RX0 84 (1103515245)) :: (Cond.methodLink RX0 112 yX6_lacksThreeFrom) :: (Cond.instanceMethod yX6_lacksThreeFrom) :: (Cond.selects RX6 yX6_lacksThreeFrom yX6_lacksThreeFrom) :: (Cond.code yX6_lacksThreeFrom cX6_lacksThreeFrom 2 (some .boolean)) :: (Cond.methodLink RX6 33 yX6_lacksAt) :: []
def wsX7_close_r3 : List Cond := (Cond.instanceMethod yX6_lacksAt) :: (Cond.selects RX6 yX6_lacksAt yX6_lacksAt) :: (Cond.code yX6_lacksAt cX6_lacksAt 2 (some .boolean)) :: []
def wsX7_close : List Cond := (.code yX7_close cX7_close 1 (some .int)) :: ((wsX7_close_r1 ++ (wsX7_close_r2 ++ wsX7_close_r3)) ++ wsX70 ++ wsX00 ++ wsX60)
def wsX7_winter_r1 : List Cond := (Cond.fieldLink RX7 28 "TheLiningsInIt" "ways" "LTheLiningsInIt$Ways;") :: (Cond.fieldLink RX7 18 "TheLiningsInIt" "now" "LTheLiningsInIt$Jacket;") :: (Cond.fieldLink RX7 116 "TheLiningsInIt$Jacket" "hurry" "I") :: (Cond.methodLink RX7 67 yX7_within) :: (Cond.static yX7_within) :: (Cond.initialized RX7) :: (Cond.code yX7_within cX7_within 3 (some .boolean)) :: (Cond.methodLink RX7 63 yX7_refuse) :: (Cond.instanceMethod yX7_refuse) :: (Cond.selects RX7 yX7_refuse yX7_refuse) :: (Cond.code yX7_refuse cX7_refuse 2 (some .int)) :: (Cond.fieldLink RX7 46 "TheLiningsInIt" "refusals" "[I") :: (Cond.methodLink RX7 195 yX5_look) :: (Cond.instanceMethod yX5_look) :: (Cond.selects RX5 yX5_look yX5_look) :: (Cond.initialized RX5) :: (Cond.code yX5_look cX5_look 7 none) :: (Cond.fieldLink RX5 37 "TheLiningsInIt$Jacket" "pullCount" "I") :: (Cond.fieldLink RX5 27 "TheLiningsInIt$Ways" "count" "I") :: (Cond.fieldLink RX5 31 "TheLiningsInIt$Ways" "hurry" "I") :: (Cond.fieldLink RX5 34 "TheLiningsInIt$Ways" "longest" "I") :: (Cond.fieldLink RX5 46 "TheLiningsInIt$Pull" "kind" "I") :: (Cond.fieldLink RX5 23 "TheLiningsInIt$Ways" "pulls" "[LTheLiningsInIt$Pull;") :: (Cond.fieldLink RX5 49 "TheLiningsInIt$Pull" "takes" "I") :: []
def wsX7_winter_r2 : List Cond := (Cond.methodLink RX5 52 Lib.Math.max.name) :: (Cond.static Lib.Math.max.name) :: (Cond.initialized "java/lang/Math") :: (Cond.code Lib.Math.max.name Lib.Math.max.code 2 (some .int)) :: (Cond.fieldLink RX5 58 "TheLiningsInIt$Jacket" "costs" "[I") :: (Cond.fieldLink RX5 18 "TheLiningsInIt$Ways" "costs" "[I") :: (Cond.methodLink RX5 59 arraycopyName) :: (Cond.native arraycopyName) :: (Cond.static arraycopyName) :: (Cond.initialized "java/lang/System") :: (Cond.fieldLink RX5 9 "TheLiningsInIt$Ways" "knownMost" "[I") :: (Cond.fieldLink RX5 15 "TheLiningsInIt$Ways" "knownLeast" "[I") :: (Cond.methodLink RX5 42 yX0_pullAt) :: (Cond.instanceMethod yX0_pullAt) :: (Cond.selects RX0 yX0_pullAt yX0_pullAt) :: (Cond.initialized RX0) :: (Cond.code yX0_pullAt cX0_pullAt 2 (some (.object "TheLiningsInIt$Pull"))) :: (Cond.fieldLink RX0 28 "TheLiningsInIt$Jacket" "pullCount" "I") :: (Cond.fieldLink RX0 20 "TheLiningsInIt$Jacket" "pulls" "[LTheLiningsInIt$Pull;") :: (Cond.methodLink RX5 65 yJ7_fill_53178) :: (Cond.static yJ7_fill_53178) :: (Cond.initialized RJ7) :: (Cond.code yJ7_fill_53178 cJ7_fill_53178 4 none) :: (Cond.methodLink RX7 278 yX0_dayInTruth) :: []
def wsX7_winter_r3 : List Cond := (Cond.instanceMethod yX0_dayInTruth) :: (Cond.selects RX0 yX0_dayInTruth yX0_dayInTruth) :: (Cond.code yX0_dayInTruth cX0_dayInTruth 3 (some .boolean)) :: (Cond.fieldLink RX0 12 "TheLiningsInIt$Jacket" "zip" "LTheLiningsInIt$Zip;") :: (Cond.fieldLink RX0 63 "TheLiningsInIt$Zip" "at" "I") :: (Cond.fieldLink RX0 32 "TheLiningsInIt$Jacket" "depth" "I") :: (Cond.fieldLink RX0 38 "TheLiningsInIt$Jacket" "seconds" "I") :: (Cond.fieldLink RX0 57 "TheLiningsInIt$Zip" "size" "I") :: (Cond.methodLink RX0 115 yX0_closeInTruth) :: (Cond.instanceMethod yX0_closeInTruth) :: (Cond.selects RX0 yX0_closeInTruth yX0_closeInTruth) :: (Cond.code yX0_closeInTruth cX0_closeInTruth 2 none) :: (Cond.fieldLink RX0 109 "TheLiningsInIt$Zip" "slacks" "[I") :: (Cond.fieldLink RX0 60 "TheLiningsInIt$Zip" "gap" "I") :: (Cond.methodLink RX0 105 yX6_catchesAt) :: (Cond.instanceMethod yX6_catchesAt) :: (Cond.selects RX6 yX6_catchesAt yX6_catchesAt) :: (Cond.initialized RX6) :: (Cond.code yX6_catchesAt cX6_catchesAt 2 (some .boolean)) :: (Cond.fieldLink RX6 9 "TheLiningsInIt$Zip" "lacking" "[Z") :: (Cond.fieldLink RX6 15 "TheLiningsInIt$Zip" "slacks" "[I") :: (Cond.fieldLink RX6 26 "TheLiningsInIt$Zip" "gap" "I") :: (Cond.methodLink RX6 29 yX6_has) :: (Cond.instanceMethod yX6_has) :: []
def wsX7_winter_r4 : List Cond := (Cond.selects RX6 yX6_has yX6_has) :: (Cond.code yX6_has cX6_has 2 (some .boolean)) :: (Cond.fieldLink RX6 19 "TheLiningsInIt$Zip" "size" "I") :: (Cond.methodLink RX0 85 yX0_draw) :: (Cond.instanceMethod yX0_draw) :: (Cond.selects RX0 yX0_draw yX0_draw) :: (Cond.code yX0_draw cX0_draw 2 (some .int)) :: (Cond.fieldLink RX0 44 "TheLiningsInIt$Jacket" "seedNow" "I") :: (Cond.constant RX0 84 (1103515245)) :: (Cond.methodLink RX0 112 yX6_lacksThreeFrom) :: (Cond.instanceMethod yX6_lacksThreeFrom) :: (Cond.selects RX6 yX6_lacksThreeFrom yX6_lacksThreeFrom) :: (Cond.code yX6_lacksThreeFrom cX6_lacksThreeFrom 2 (some .boolean)) :: (Cond.methodLink RX6 33 yX6_lacksAt) :: (Cond.instanceMethod yX6_lacksAt) :: (Cond.selects RX6 yX6_lacksAt yX6_lacksAt) :: (Cond.code yX6_lacksAt cX6_lacksAt 2 (some .boolean)) :: (Cond.methodLink RX0 118 yX0_pullFreeInTruth) :: (Cond.instanceMethod yX0_pullFreeInTruth) :: (Cond.selects RX0 yX0_pullFreeInTruth yX0_pullFreeInTruth) :: (Cond.code yX0_pullFreeInTruth cX0_pullFreeInTruth 4 none) :: (Cond.methodLink RX0 122 yX5_next) :: (Cond.instanceMethod yX5_next) :: (Cond.selects RX5 yX5_next yX5_next) :: []
def wsX7_winter_r5 : List Cond := (Cond.code yX5_next cX5_next 9 (some .int)) :: (Cond.methodLink RX5 82 yX5_mayBeAt) :: (Cond.instanceMethod yX5_mayBeAt) :: (Cond.selects RX5 yX5_mayBeAt yX5_mayBeAt) :: (Cond.code yX5_mayBeAt cX5_mayBeAt 5 (some (.object "TheLiningsInIt$Pull"))) :: (Cond.methodLink RX5 75 yX2_mayBe) :: (Cond.instanceMethod yX2_mayBe) :: (Cond.selects RX2 yX2_mayBe yX2_mayBe) :: (Cond.initialized RX2) :: (Cond.code yX2_mayBe cX2_mayBe 3 (some .boolean)) :: (Cond.fieldLink RX2 18 "TheLiningsInIt$Pull" "takes" "I") :: (Cond.methodLink RX5 86 yX5_mostBy) :: (Cond.instanceMethod yX5_mostBy) :: (Cond.selects RX5 yX5_mostBy yX5_mostBy) :: (Cond.code yX5_mostBy cX5_mostBy 8 (some .int)) :: (Cond.methodLink RX5 90 yX2_waysAt) :: (Cond.instanceMethod yX2_waysAt) :: (Cond.selects RX2 yX2_waysAt yX2_waysAt) :: (Cond.code yX2_waysAt cX2_waysAt 3 (some .int)) :: (Cond.fieldLink RX2 9 "TheLiningsInIt$Pull" "kind" "I") :: (Cond.methodLink RX2 33 Lib.Math.min.name) :: (Cond.static Lib.Math.min.name) :: (Cond.code Lib.Math.min.name Lib.Math.min.code 2 (some .int)) :: (Cond.methodLink RX2 39 Lib.Math.max.name) :: []
def wsX7_winter_r6 : List Cond := (Cond.methodLink RX2 29 yX2_calmWaysAt) :: (Cond.instanceMethod yX2_calmWaysAt) :: (Cond.selects RX2 yX2_calmWaysAt yX2_calmWaysAt) :: (Cond.code yX2_calmWaysAt cX2_calmWaysAt 2 (some .int)) :: (Cond.fieldLink RX2 15 "TheLiningsInIt$Pull" "a" "I") :: (Cond.methodLink RX5 93 yX2_shallower) :: (Cond.instanceMethod yX2_shallower) :: (Cond.selects RX2 yX2_shallower yX2_shallower) :: (Cond.code yX2_shallower cX2_shallower 2 (some .int)) :: (Cond.methodLink RX2 42 yX2_step) :: (Cond.instanceMethod yX2_step) :: (Cond.selects RX2 yX2_step yX2_step) :: (Cond.code yX2_step cX2_step 1 (some .int)) :: (Cond.methodLink RX5 97 yX5_most) :: (Cond.instanceMethod yX5_most) :: (Cond.selects RX5 yX5_most yX5_most) :: (Cond.methodLink RX5 101 yX2_deeper) :: (Cond.instanceMethod yX2_deeper) :: (Cond.selects RX2 yX2_deeper yX2_deeper) :: (Cond.code yX2_deeper cX2_deeper 4 (some .int)) :: (Cond.code yX5_most cX5_most 9 (some .int)) :: (Cond.fieldLink RX5 79 "TheLiningsInIt$Ways" "POWERS" "[I") :: (Cond.methodLink RX0 77 yX0_pullAt) :: (Cond.methodLink RX0 128 yX0_pullInTruth) :: []
def wsX7_winter_r7 : List Cond := (Cond.instanceMethod yX0_pullInTruth) :: (Cond.selects RX0 yX0_pullInTruth yX0_pullInTruth) :: (Cond.code yX0_pullInTruth cX0_pullInTruth 3 none) :: (Cond.fieldLink RX0 41 "TheLiningsInIt$Jacket" "hurry" "I") :: (Cond.fieldLink RX0 99 "TheLiningsInIt$Pull" "takes" "I") :: (Cond.fieldLink RX0 102 "TheLiningsInIt$Pull" "kind" "I") :: (Cond.fieldLink RX0 35 "TheLiningsInIt$Jacket" "torn" "I") :: (Cond.methodLink RX0 89 yX2_waysAt) :: (Cond.methodLink RX0 93 yX2_shallower) :: (Cond.methodLink RX0 96 yX2_deeper) :: []
def wsX7_winter : List Cond := (.code yX7_winter cX7_winter 4 (some .int)) :: ((wsX7_winter_r1 ++ (wsX7_winter_r2 ++ (wsX7_winter_r3 ++ (wsX7_winter_r4 ++ (wsX7_winter_r5 ++ (wsX7_winter_r6 ++ wsX7_winter_r7)))))) ++ wsX70 ++ wsX00 ++ wsX50 ++ wsX20 ++ wsX60)
def wsX7_stitch : List Cond := (.code yX7_stitch cX7_stitch 2 (some .int)) :: (.fieldLink RX7 18 "TheLiningsInIt" "now" "LTheLiningsInIt$Jacket;") :: (.fieldLink RX7 140 "TheLiningsInIt$Jacket" "zip" "LTheLiningsInIt$Zip;") :: (.methodLink RX7 153 yX6_has) :: (.instanceMethod yX6_has) :: (.selects RX6 yX6_has yX6_has) :: (.initialized RX6) :: (.code yX6_has cX6_has 2 (some .boolean)) :: (.fieldLink RX6 19 "TheLiningsInIt$Zip" "size" "I") :: (.methodLink RX7 63 yX7_refuse) :: (.instanceMethod yX7_refuse) :: (.selects RX7 yX7_refuse yX7_refuse) :: (.initialized RX7) :: (.code yX7_refuse cX7_refuse 2 (some .int)) :: (.fieldLink RX7 46 "TheLiningsInIt" "refusals" "[I") :: (.methodLink RX7 67 yX7_within) :: (.static yX7_within) :: (.code yX7_within cX7_within 3 (some .boolean)) :: (.methodLink RX7 282 yX6_takeSlack) :: (.instanceMethod yX6_takeSlack) :: (.selects RX6 yX6_takeSlack yX6_takeSlack) :: (.code yX6_takeSlack cX6_takeSlack 4 (some .int)) :: (.fieldLink RX6 15 "TheLiningsInIt$Zip" "slacks" "[I") :: (.methodLink RX6 29 yX6_has) :: (wsX70 ++ wsX00 ++ wsX60)
def wsX7_seed : List Cond := (.code yX7_seed cX7_seed 3 (some .int)) :: (.fieldLink RX7 18 "TheLiningsInIt" "now" "LTheLiningsInIt$Jacket;") :: (.fieldLink RX7 285 "TheLiningsInIt$Jacket" "seedNow" "I") :: (wsX70 ++ wsX00)
def wsX7_act_r1 : List Cond := (Cond.fieldLink RX7 42 "TheLiningsInIt" "moves" "LTheLiningsInIt$Moves;") :: (Cond.fieldLink RX7 288 "TheLiningsInIt$Moves" "ran" "I") :: (Cond.fieldLink RX7 18 "TheLiningsInIt" "now" "LTheLiningsInIt$Jacket;") :: (Cond.methodLink RX7 100 yX0_pullAt) :: (Cond.instanceMethod yX0_pullAt) :: (Cond.selects RX0 yX0_pullAt yX0_pullAt) :: (Cond.initialized RX0) :: (Cond.code yX0_pullAt cX0_pullAt 2 (some (.object "TheLiningsInIt$Pull"))) :: (Cond.fieldLink RX0 28 "TheLiningsInIt$Jacket" "pullCount" "I") :: (Cond.fieldLink RX0 20 "TheLiningsInIt$Jacket" "pulls" "[LTheLiningsInIt$Pull;") :: (Cond.static yX7_within) :: (Cond.initialized RX7) :: (Cond.code yX7_within cX7_within 3 (some .boolean)) :: (Cond.methodLink RX7 67 yX7_within) :: (Cond.methodLink RX7 291 yX1_begin) :: (Cond.instanceMethod yX1_begin) :: (Cond.selects RX1 yX1_begin yX1_begin) :: (Cond.initialized RX1) :: (Cond.code yX1_begin cX1_begin 5 (some .int)) :: (Cond.fieldLink RX1 28 "TheLiningsInIt$Pull" "kind" "I") :: (Cond.fieldLink RX1 19 "TheLiningsInIt$Moves" "kind" "I") :: (Cond.fieldLink RX1 22 "TheLiningsInIt$Moves" "m" "I") :: (Cond.fieldLink RX1 31 "TheLiningsInIt$Pull" "a" "I") :: (Cond.fieldLink RX1 25 "TheLiningsInIt$Moves" "k" "I") :: []
def wsX7_act_r2 : List Cond := (Cond.methodLink RX1 34 yX1_run) :: (Cond.instanceMethod yX1_run) :: (Cond.selects RX1 yX1_run yX1_run) :: (Cond.code yX1_run cX1_run 7 (some .int)) :: (Cond.methodLink RX1 48 yX1_bodyFor) :: (Cond.static yX1_bodyFor) :: (Cond.code yX1_bodyFor cX1_bodyFor 5 (some .int)) :: (Cond.methodLink RX1 55 yX1_ownBody) :: (Cond.static yX1_ownBody) :: (Cond.code yX1_ownBody cX1_ownBody 2 (some .int)) :: (Cond.methodLink RX1 51 yX1_note) :: (Cond.instanceMethod yX1_note) :: (Cond.selects RX1 yX1_note yX1_note) :: (Cond.code yX1_note cX1_note 2 none) :: (Cond.fieldLink RX1 15 "TheLiningsInIt$Moves" "ran" "I") :: (Cond.fieldLink RX1 11 "TheLiningsInIt$Moves" "bodies" "[I") :: []
def wsX7_act : List Cond := (.code yX7_act cX7_act 5 (some .int)) :: ((wsX7_act_r1 ++ wsX7_act_r2) ++ wsX70 ++ wsX10 ++ wsX00 ++ wsX20)
def wsX7_trace : List Cond := (.code yX7_trace cX7_trace 2 (some .int)) :: (.fieldLink RX7 42 "TheLiningsInIt" "moves" "LTheLiningsInIt$Moves;") :: (.methodLink RX7 295 yX1_bodyAt) :: (.instanceMethod yX1_bodyAt) :: (.selects RX1 yX1_bodyAt yX1_bodyAt) :: (.initialized RX1) :: (.code yX1_bodyAt cX1_bodyAt 2 (some .int)) :: (.fieldLink RX1 15 "TheLiningsInIt$Moves" "ran" "I") :: (.methodLink RX1 38 Lib.Math.min.name) :: (.static Lib.Math.min.name) :: (.initialized "java/lang/Math") :: (.code Lib.Math.min.name Lib.Math.min.code 2 (some .int)) :: (.fieldLink RX1 11 "TheLiningsInIt$Moves" "bodies" "[I") :: (.static yX7_within) :: (.initialized RX7) :: (.code yX7_within cX7_within 3 (some .boolean)) :: (wsX70 ++ wsX10)
def wsX7_image_r1 : List Cond := (Cond.fieldLink RX7 22 "TheLiningsInIt" "kept" "LTheLiningsInIt$Jacket;") :: (Cond.fieldLink RX7 18 "TheLiningsInIt" "now" "LTheLiningsInIt$Jacket;") :: (Cond.fieldLink RX7 50 "TheLiningsInIt" "imaged" "Z") :: (Cond.fieldLink RX7 123 "TheLiningsInIt$Jacket" "pullCount" "I") :: (Cond.methodLink RX7 298 yX0_become) :: (Cond.instanceMethod yX0_become) :: (Cond.selects RX0 yX0_become yX0_become) :: (Cond.initialized RX0) :: (Cond.code yX0_become cX0_become 3 none) :: (Cond.fieldLink RX0 12 "TheLiningsInIt$Jacket" "zip" "LTheLiningsInIt$Zip;") :: (Cond.fieldLink RX0 20 "TheLiningsInIt$Jacket" "pulls" "[LTheLiningsInIt$Pull;") :: (Cond.fieldLink RX0 24 "TheLiningsInIt$Jacket" "costs" "[I") :: (Cond.methodLink RX0 51 arraycopyName) :: (Cond.native arraycopyName) :: (Cond.static arraycopyName) :: (Cond.initialized "java/lang/System") :: (Cond.fieldLink RX0 28 "TheLiningsInIt$Jacket" "pullCount" "I") :: (Cond.fieldLink RX0 32 "TheLiningsInIt$Jacket" "depth" "I") :: (Cond.fieldLink RX0 35 "TheLiningsInIt$Jacket" "torn" "I") :: (Cond.fieldLink RX0 38 "TheLiningsInIt$Jacket" "seconds" "I") :: (Cond.fieldLink RX0 41 "TheLiningsInIt$Jacket" "hurry" "I") :: (Cond.fieldLink RX0 44 "TheLiningsInIt$Jacket" "seedNow" "I") :: (Cond.methodLink RX0 47 yX6_become) :: (Cond.instanceMethod yX6_become) :: []
def wsX7_image_r2 : List Cond := (Cond.selects RX6 yX6_become yX6_become) :: (Cond.initialized RX6) :: (Cond.code yX6_become cX6_become 3 none) :: (Cond.fieldLink RX6 9 "TheLiningsInIt$Zip" "lacking" "[Z") :: (Cond.fieldLink RX6 15 "TheLiningsInIt$Zip" "slacks" "[I") :: (Cond.fieldLink RX6 19 "TheLiningsInIt$Zip" "size" "I") :: (Cond.fieldLink RX6 23 "TheLiningsInIt$Zip" "at" "I") :: (Cond.fieldLink RX6 26 "TheLiningsInIt$Zip" "gap" "I") :: []
def wsX7_image : List Cond := (.code yX7_image cX7_image 1 (some .int)) :: ((wsX7_image_r1 ++ wsX7_image_r2) ++ wsX70 ++ wsX00 ++ wsX60)
def wsX7_restore_r1 : List Cond := (Cond.fieldLink RX7 50 "TheLiningsInIt" "imaged" "Z") :: (Cond.fieldLink RX7 18 "TheLiningsInIt" "now" "LTheLiningsInIt$Jacket;") :: (Cond.fieldLink RX7 22 "TheLiningsInIt" "kept" "LTheLiningsInIt$Jacket;") :: (Cond.fieldLink RX7 11 "TheLiningsInIt" "shelves" "[LTheLiningsInIt$Shelf;") :: (Cond.fieldLink RX7 123 "TheLiningsInIt$Jacket" "pullCount" "I") :: (Cond.methodLink RX7 63 yX7_refuse) :: (Cond.instanceMethod yX7_refuse) :: (Cond.selects RX7 yX7_refuse yX7_refuse) :: (Cond.initialized RX7) :: (Cond.code yX7_refuse cX7_refuse 2 (some .int)) :: (Cond.fieldLink RX7 46 "TheLiningsInIt" "refusals" "[I") :: (Cond.methodLink RX7 67 yX7_within) :: (Cond.static yX7_within) :: (Cond.code yX7_within cX7_within 3 (some .boolean)) :: (Cond.methodLink RX7 298 yX0_become) :: (Cond.instanceMethod yX0_become) :: (Cond.selects RX0 yX0_become yX0_become) :: (Cond.initialized RX0) :: (Cond.code yX0_become cX0_become 3 none) :: (Cond.fieldLink RX0 12 "TheLiningsInIt$Jacket" "zip" "LTheLiningsInIt$Zip;") :: (Cond.fieldLink RX0 20 "TheLiningsInIt$Jacket" "pulls" "[LTheLiningsInIt$Pull;") :: (Cond.fieldLink RX0 24 "TheLiningsInIt$Jacket" "costs" "[I") :: (Cond.methodLink RX0 51 arraycopyName) :: (Cond.native arraycopyName) :: []
def wsX7_restore_r2 : List Cond := (Cond.static arraycopyName) :: (Cond.initialized "java/lang/System") :: (Cond.fieldLink RX0 28 "TheLiningsInIt$Jacket" "pullCount" "I") :: (Cond.fieldLink RX0 32 "TheLiningsInIt$Jacket" "depth" "I") :: (Cond.fieldLink RX0 35 "TheLiningsInIt$Jacket" "torn" "I") :: (Cond.fieldLink RX0 38 "TheLiningsInIt$Jacket" "seconds" "I") :: (Cond.fieldLink RX0 41 "TheLiningsInIt$Jacket" "hurry" "I") :: (Cond.fieldLink RX0 44 "TheLiningsInIt$Jacket" "seedNow" "I") :: (Cond.methodLink RX0 47 yX6_become) :: (Cond.instanceMethod yX6_become) :: (Cond.selects RX6 yX6_become yX6_become) :: (Cond.initialized RX6) :: (Cond.code yX6_become cX6_become 3 none) :: (Cond.fieldLink RX6 9 "TheLiningsInIt$Zip" "lacking" "[Z") :: (Cond.fieldLink RX6 15 "TheLiningsInIt$Zip" "slacks" "[I") :: (Cond.fieldLink RX6 19 "TheLiningsInIt$Zip" "size" "I") :: (Cond.fieldLink RX6 23 "TheLiningsInIt$Zip" "at" "I") :: (Cond.fieldLink RX6 26 "TheLiningsInIt$Zip" "gap" "I") :: (Cond.methodLink RX7 301 yX4_forgetFrom) :: (Cond.instanceMethod yX4_forgetFrom) :: (Cond.selects RX4 yX4_forgetFrom yX4_forgetFrom) :: (Cond.initialized RX4) :: (Cond.code yX4_forgetFrom cX4_forgetFrom 2 none) :: (Cond.fieldLink RX4 15 "TheLiningsInIt$Shelf" "held" "I") :: []
def wsX7_restore : List Cond := (.code yX7_restore cX7_restore 2 (some .int)) :: ((wsX7_restore_r1 ++ wsX7_restore_r2) ++ wsX70 ++ wsX00 ++ wsX60 ++ wsX40)
def wsX7_status : List Cond := (.code yX7_status cX7_status 2 (some .int)) :: (.fieldLink RX7 46 "TheLiningsInIt" "refusals" "[I") :: (.fieldLink RX7 18 "TheLiningsInIt" "now" "LTheLiningsInIt$Jacket;") :: (.fieldLink RX7 123 "TheLiningsInIt$Jacket" "pullCount" "I") :: (.fieldLink RX7 140 "TheLiningsInIt$Jacket" "zip" "LTheLiningsInIt$Zip;") :: (.fieldLink RX7 144 "TheLiningsInIt$Zip" "size" "I") :: (.fieldLink RX7 275 "TheLiningsInIt$Zip" "at" "I") :: (.fieldLink RX7 199 "TheLiningsInIt$Jacket" "depth" "I") :: (.fieldLink RX7 304 "TheLiningsInIt$Jacket" "torn" "I") :: (.fieldLink RX7 202 "TheLiningsInIt$Jacket" "seconds" "I") :: (.fieldLink RX7 116 "TheLiningsInIt$Jacket" "hurry" "I") :: (.fieldLink RX7 307 "TheLiningsInIt$Zip" "gap" "I") :: (.fieldLink RX7 285 "TheLiningsInIt$Jacket" "seedNow" "I") :: (.fieldLink RX7 42 "TheLiningsInIt" "moves" "LTheLiningsInIt$Moves;") :: (.fieldLink RX7 288 "TheLiningsInIt$Moves" "ran" "I") :: (.methodLink RX7 67 yX7_within) :: (.static yX7_within) :: (.initialized RX7) :: (.code yX7_within cX7_within 3 (some .boolean)) :: (wsX70 ++ wsX00 ++ wsX60 ++ wsX10)
set_option maxRecDepth 20000 in
theorem gl_X7_row_X70 : GoodIn wsX7_row wsX70 := (dg_t (dg_l (dg_r gw_wsX70)))
theorem ggX7_row_X7_shelfAt : GoodIn wsX7_row wsX7_shelfAt := (dg_c 5 rfl rfl (dg_c 6 rfl rfl (dg_c 7 rfl rfl (dg_c 8 rfl rfl (dg_c 4 rfl rfl (dg_c 9 rfl rfl gl_X7_row_X70))))))
set_option maxRecDepth 20000 in
theorem gX7_row_X7_shelfAt : GoodIn wsX7_row (wsV RX7 59 RX7 yX7_shelfAt wsX7_shelfAt) := goodIn_app (dg_c 1 rfl rfl (dg_c 2 rfl rfl (dg_c 3 rfl rfl (dg_c 4 rfl rfl dg_0)))) ggX7_row_X7_shelfAt
set_option maxRecDepth 20000 in
theorem ggX7_row_X7_refuse : GoodIn wsX7_row wsX7_refuse := (dg_c 13 rfl rfl (dg_c 14 rfl rfl (dg_c 7 rfl rfl (dg_c 8 rfl rfl (dg_c 4 rfl rfl (dg_c 9 rfl rfl gl_X7_row_X70))))))
set_option maxRecDepth 20000 in
theorem gX7_row_X7_refuse : GoodIn wsX7_row (wsV RX7 63 RX7 yX7_refuse wsX7_refuse) := goodIn_app (dg_c 10 rfl rfl (dg_c 11 rfl rfl (dg_c 12 rfl rfl (dg_c 4 rfl rfl dg_0)))) ggX7_row_X7_refuse
set_option maxRecDepth 20000 in
theorem ggX7_row_X7_within : GoodIn wsX7_row wsX7_within := (dg_c 9 rfl rfl dg_0)
set_option maxRecDepth 20000 in
theorem gX7_row_X7_within : GoodIn wsX7_row (va_wsS RX7 67 yX7_within wsX7_within) := goodIn_app (dg_c 7 rfl rfl (dg_c 8 rfl rfl (dg_c 4 rfl rfl dg_0))) ggX7_row_X7_within
set_option maxRecDepth 20000 in
theorem gl_X7_row_X40 : GoodIn wsX7_row wsX40 := (dg_t (dg_r gw_wsX40))
theorem ggX7_row_X4_holdRow : GoodIn wsX7_row wsX4_holdRow := (dg_c 19 rfl rfl (dg_c 20 rfl rfl (dg_c 21 rfl rfl (dg_c 22 rfl rfl (dg_c 23 rfl rfl (dg_c 24 rfl rfl (dg_c 25 rfl rfl (dg_c 26 rfl rfl gl_X7_row_X40))))))))
set_option maxRecDepth 20000 in
theorem gX7_row_X4_holdRow : GoodIn wsX7_row (wsV RX7 71 RX4 yX4_holdRow wsX4_holdRow) := goodIn_app (dg_c 15 rfl rfl (dg_c 16 rfl rfl (dg_c 17 rfl rfl (dg_c 18 rfl rfl dg_0)))) ggX7_row_X4_holdRow
theorem dX7_row_0 : decode cX7_row 0 = .ok (.aload_n 0, 1) := dq_42 dp_cX7_row rfl
theorem dX7_row_1 : decode cX7_row 1 = .ok (.iload_n 1, 1) := dq_27 dp_cX7_row rfl
theorem dX7_row_2 : decode cX7_row 2 = .ok (.invokevirtual 59, 3) := dq_182 dp_cX7_row rfl
theorem dX7_row_5 : decode cX7_row 5 = .ok (.astore 4, 2) := dq_58 dp_cX7_row rfl
theorem dX7_row_7 : decode cX7_row 7 = .ok (.aload 4, 2) := dq_25 dp_cX7_row rfl
theorem dX7_row_9 : decode cX7_row 9 = .ok (.ifnonnull 9, 3) := dq_199 (v := 9) dp_cX7_row rfl rfl
theorem dX7_row_12 : decode cX7_row 12 = .ok (.aload_n 0, 1) := dq_42 dp_cX7_row rfl
theorem dX7_row_13 : decode cX7_row 13 = .ok (.iconst 1, 1) := dq_4 dp_cX7_row rfl
theorem dX7_row_14 : decode cX7_row 14 = .ok (.invokevirtual 63, 3) := dq_182 dp_cX7_row rfl
theorem dX7_row_17 : decode cX7_row 17 = .ok (.ireturn, 1) := dq_172 dp_cX7_row rfl
theorem dX7_row_18 : decode cX7_row 18 = .ok (.iload_n 3, 1) := dq_29 dp_cX7_row rfl
theorem dX7_row_19 : decode cX7_row 19 = .ok (.ifCond .ge 9, 3) := dq_156 (v := 9) dp_cX7_row rfl rfl
theorem dX7_row_22 : decode cX7_row 22 = .ok (.aload_n 0, 1) := dq_42 dp_cX7_row rfl
theorem dX7_row_23 : decode cX7_row 23 = .ok (.iconst 4, 1) := dq_7 dp_cX7_row rfl
theorem dX7_row_24 : decode cX7_row 24 = .ok (.invokevirtual 63, 3) := dq_182 dp_cX7_row rfl
theorem dX7_row_27 : decode cX7_row 27 = .ok (.ireturn, 1) := dq_172 dp_cX7_row rfl
theorem dX7_row_28 : decode cX7_row 28 = .ok (.iload_n 2, 1) := dq_28 dp_cX7_row rfl
theorem dX7_row_29 : decode cX7_row 29 = .ok (.iconst 0, 1) := dq_3 dp_cX7_row rfl
theorem dX7_row_30 : decode cX7_row 30 = .ok (.iconst 3, 1) := dq_6 dp_cX7_row rfl
theorem dX7_row_31 : decode cX7_row 31 = .ok (.invokestatic 67, 3) := dq_184 dp_cX7_row rfl
theorem dX7_row_34 : decode cX7_row 34 = .ok (.ifCond .ne 10, 3) := dq_154 (v := 10) dp_cX7_row rfl rfl
theorem dX7_row_37 : decode cX7_row 37 = .ok (.aload_n 0, 1) := dq_42 dp_cX7_row rfl
theorem dX7_row_38 : decode cX7_row 38 = .ok (.bipush 6, 2) := dq_16 (v := 6) dp_cX7_row rfl rfl
theorem dX7_row_40 : decode cX7_row 40 = .ok (.invokevirtual 63, 3) := dq_182 dp_cX7_row rfl
theorem dX7_row_43 : decode cX7_row 43 = .ok (.ireturn, 1) := dq_172 dp_cX7_row rfl
theorem dX7_row_44 : decode cX7_row 44 = .ok (.iload_n 3, 1) := dq_29 dp_cX7_row rfl
theorem dX7_row_45 : decode cX7_row 45 = .ok (.sipush 160, 3) := dq_17 (v := 160) dp_cX7_row rfl rfl
theorem dX7_row_48 : decode cX7_row 48 = .ok (.if_icmp .le 10, 3) := dq_164 (v := 10) dp_cX7_row rfl rfl
theorem dX7_row_51 : decode cX7_row 51 = .ok (.aload_n 0, 1) := dq_42 dp_cX7_row rfl
theorem dX7_row_52 : decode cX7_row 52 = .ok (.bipush 7, 2) := dq_16 (v := 7) dp_cX7_row rfl rfl
theorem dX7_row_54 : decode cX7_row 54 = .ok (.invokevirtual 63, 3) := dq_182 dp_cX7_row rfl
theorem dX7_row_57 : decode cX7_row 57 = .ok (.ireturn, 1) := dq_172 dp_cX7_row rfl
theorem dX7_row_58 : decode cX7_row 58 = .ok (.aload 4, 2) := dq_25 dp_cX7_row rfl
theorem dX7_row_60 : decode cX7_row 60 = .ok (.iload_n 2, 1) := dq_28 dp_cX7_row rfl
theorem dX7_row_61 : decode cX7_row 61 = .ok (.iload_n 3, 1) := dq_29 dp_cX7_row rfl
theorem dX7_row_62 : decode cX7_row 62 = .ok (.invokevirtual 71, 3) := dq_182 dp_cX7_row rfl
theorem dX7_row_65 : decode cX7_row 65 = .ok (.iconst 1, 1) := dq_4 dp_cX7_row rfl
theorem dX7_row_66 : decode cX7_row 66 = .ok (.ireturn, 1) := dq_172 dp_cX7_row rfl
set_option maxRecDepth 20000 in
theorem gl_X7_set_X70 : GoodIn wsX7_set wsX70 := (dg_t (dg_l (dg_r gw_wsX70)))
theorem ggX7_set_X7_shelfAt : GoodIn wsX7_set wsX7_shelfAt := (dg_c 5 rfl rfl (dg_c 6 rfl rfl (dg_c 7 rfl rfl (dg_c 8 rfl rfl (dg_c 4 rfl rfl (dg_c 9 rfl rfl gl_X7_set_X70))))))
set_option maxRecDepth 20000 in
theorem gX7_set_X7_shelfAt : GoodIn wsX7_set (wsV RX7 59 RX7 yX7_shelfAt wsX7_shelfAt) := goodIn_app (dg_c 1 rfl rfl (dg_c 2 rfl rfl (dg_c 3 rfl rfl (dg_c 4 rfl rfl dg_0)))) ggX7_set_X7_shelfAt
set_option maxRecDepth 20000 in
theorem ggX7_set_X7_refuse : GoodIn wsX7_set wsX7_refuse := (dg_c 13 rfl rfl (dg_c 14 rfl rfl (dg_c 7 rfl rfl (dg_c 8 rfl rfl (dg_c 4 rfl rfl (dg_c 9 rfl rfl gl_X7_set_X70))))))
set_option maxRecDepth 20000 in
theorem gX7_set_X7_refuse : GoodIn wsX7_set (wsV RX7 63 RX7 yX7_refuse wsX7_refuse) := goodIn_app (dg_c 10 rfl rfl (dg_c 11 rfl rfl (dg_c 12 rfl rfl (dg_c 4 rfl rfl dg_0)))) ggX7_set_X7_refuse
set_option maxRecDepth 20000 in
theorem gl_X7_set_X40 : GoodIn wsX7_set wsX40 := (dg_t (dg_r gw_wsX40))
theorem ggX7_set_X4_noRow : GoodIn wsX7_set wsX4_noRow := (dg_c 19 rfl rfl (dg_c 20 rfl rfl gl_X7_set_X40))
set_option maxRecDepth 20000 in
theorem gX7_set_X4_noRow : GoodIn wsX7_set (wsV RX7 75 RX4 yX4_noRow wsX4_noRow) := goodIn_app (dg_c 15 rfl rfl (dg_c 16 rfl rfl (dg_c 17 rfl rfl (dg_c 18 rfl rfl dg_0)))) ggX7_set_X4_noRow
set_option maxRecDepth 20000 in
theorem ggX7_set_X4_hasSpan : GoodIn wsX7_set wsX4_hasSpan := (dg_c 24 rfl rfl (dg_c 25 rfl rfl gl_X7_set_X40))
set_option maxRecDepth 20000 in
theorem gX7_set_X4_hasSpan : GoodIn wsX7_set (wsV RX7 79 RX4 yX4_hasSpan wsX4_hasSpan) := goodIn_app (dg_c 21 rfl rfl (dg_c 22 rfl rfl (dg_c 23 rfl rfl (dg_c 18 rfl rfl dg_0)))) ggX7_set_X4_hasSpan
set_option maxRecDepth 20000 in
theorem ggX7_set_X4_put : GoodIn wsX7_set wsX4_put := (dg_c 29 rfl rfl (dg_c 20 rfl rfl (dg_c 30 rfl rfl gl_X7_set_X40)))
set_option maxRecDepth 20000 in
theorem gX7_set_X4_put : GoodIn wsX7_set (wsV RX7 83 RX4 yX4_put wsX4_put) := goodIn_app (dg_c 26 rfl rfl (dg_c 27 rfl rfl (dg_c 28 rfl rfl (dg_c 18 rfl rfl dg_0)))) ggX7_set_X4_put
theorem dX7_set_0 : decode cX7_set 0 = .ok (.aload_n 0, 1) := dq_42 dp_cX7_set rfl
theorem dX7_set_1 : decode cX7_set 1 = .ok (.iload_n 1, 1) := dq_27 dp_cX7_set rfl
theorem dX7_set_2 : decode cX7_set 2 = .ok (.invokevirtual 59, 3) := dq_182 dp_cX7_set rfl
theorem dX7_set_5 : decode cX7_set 5 = .ok (.astore 5, 2) := dq_58 dp_cX7_set rfl
theorem dX7_set_7 : decode cX7_set 7 = .ok (.aload 5, 2) := dq_25 dp_cX7_set rfl
theorem dX7_set_9 : decode cX7_set 9 = .ok (.ifnonnull 9, 3) := dq_199 (v := 9) dp_cX7_set rfl rfl
theorem dX7_set_12 : decode cX7_set 12 = .ok (.aload_n 0, 1) := dq_42 dp_cX7_set rfl
theorem dX7_set_13 : decode cX7_set 13 = .ok (.iconst 1, 1) := dq_4 dp_cX7_set rfl
theorem dX7_set_14 : decode cX7_set 14 = .ok (.invokevirtual 63, 3) := dq_182 dp_cX7_set rfl
theorem dX7_set_17 : decode cX7_set 17 = .ok (.ireturn, 1) := dq_172 dp_cX7_set rfl
theorem dX7_set_18 : decode cX7_set 18 = .ok (.aload 5, 2) := dq_25 dp_cX7_set rfl
theorem dX7_set_20 : decode cX7_set 20 = .ok (.invokevirtual 75, 3) := dq_182 dp_cX7_set rfl
theorem dX7_set_23 : decode cX7_set 23 = .ok (.istore 6, 2) := dq_54 dp_cX7_set rfl
theorem dX7_set_25 : decode cX7_set 25 = .ok (.iload 6, 2) := dq_21 dp_cX7_set rfl
theorem dX7_set_27 : decode cX7_set 27 = .ok (.ifCond .eq 10, 3) := dq_153 (v := 10) dp_cX7_set rfl rfl
theorem dX7_set_30 : decode cX7_set 30 = .ok (.aload_n 0, 1) := dq_42 dp_cX7_set rfl
theorem dX7_set_31 : decode cX7_set 31 = .ok (.iload 6, 2) := dq_21 dp_cX7_set rfl
theorem dX7_set_33 : decode cX7_set 33 = .ok (.invokevirtual 63, 3) := dq_182 dp_cX7_set rfl
theorem dX7_set_36 : decode cX7_set 36 = .ok (.ireturn, 1) := dq_172 dp_cX7_set rfl
theorem dX7_set_37 : decode cX7_set 37 = .ok (.aload 5, 2) := dq_25 dp_cX7_set rfl
theorem dX7_set_39 : decode cX7_set 39 = .ok (.iload_n 2, 1) := dq_28 dp_cX7_set rfl
theorem dX7_set_40 : decode cX7_set 40 = .ok (.iconst 1, 1) := dq_4 dp_cX7_set rfl
theorem dX7_set_41 : decode cX7_set 41 = .ok (.invokevirtual 79, 3) := dq_182 dp_cX7_set rfl
theorem dX7_set_44 : decode cX7_set 44 = .ok (.ifCond .ne 9, 3) := dq_154 (v := 9) dp_cX7_set rfl rfl
theorem dX7_set_47 : decode cX7_set 47 = .ok (.aload_n 0, 1) := dq_42 dp_cX7_set rfl
theorem dX7_set_48 : decode cX7_set 48 = .ok (.iconst 5, 1) := dq_8 dp_cX7_set rfl
theorem dX7_set_49 : decode cX7_set 49 = .ok (.invokevirtual 63, 3) := dq_182 dp_cX7_set rfl
theorem dX7_set_52 : decode cX7_set 52 = .ok (.ireturn, 1) := dq_172 dp_cX7_set rfl
theorem dX7_set_53 : decode cX7_set 53 = .ok (.aload 5, 2) := dq_25 dp_cX7_set rfl
theorem dX7_set_55 : decode cX7_set 55 = .ok (.iload_n 2, 1) := dq_28 dp_cX7_set rfl
theorem dX7_set_56 : decode cX7_set 56 = .ok (.lload_n 3, 1) := dq_33 dp_cX7_set rfl
theorem dX7_set_57 : decode cX7_set 57 = .ok (.invokevirtual 83, 3) := dq_182 dp_cX7_set rfl
theorem dX7_set_60 : decode cX7_set 60 = .ok (.iconst 1, 1) := dq_4 dp_cX7_set rfl
theorem dX7_set_61 : decode cX7_set 61 = .ok (.ireturn, 1) := dq_172 dp_cX7_set rfl
set_option maxRecDepth 20000 in
theorem gl_X7_copy_X70 : GoodIn wsX7_copy wsX70 := (dg_t (dg_r gw_wsX70))
theorem ggX7_copy_X7_shelfAt : GoodIn wsX7_copy wsX7_shelfAt := (dg_c 11 rfl rfl (dg_c 12 rfl rfl (dg_c 13 rfl rfl (dg_c 14 rfl rfl (dg_c 10 rfl rfl (dg_c 15 rfl rfl gl_X7_copy_X70))))))
set_option maxRecDepth 20000 in
theorem gX7_copy_X7_shelfAt : GoodIn wsX7_copy (wsV RX7 59 RX7 yX7_shelfAt wsX7_shelfAt) := goodIn_app (dg_c 7 rfl rfl (dg_c 8 rfl rfl (dg_c 9 rfl rfl (dg_c 10 rfl rfl dg_0)))) ggX7_copy_X7_shelfAt
set_option maxRecDepth 20000 in
theorem ggX7_copy_X7_refuse : GoodIn wsX7_copy wsX7_refuse := (dg_c 19 rfl rfl (dg_c 20 rfl rfl (dg_c 13 rfl rfl (dg_c 14 rfl rfl (dg_c 10 rfl rfl (dg_c 15 rfl rfl gl_X7_copy_X70))))))
set_option maxRecDepth 20000 in
theorem gX7_copy_X7_refuse : GoodIn wsX7_copy (wsV RX7 63 RX7 yX7_refuse wsX7_refuse) := goodIn_app (dg_c 16 rfl rfl (dg_c 17 rfl rfl (dg_c 18 rfl rfl (dg_c 10 rfl rfl dg_0)))) ggX7_copy_X7_refuse
set_option maxRecDepth 20000 in
theorem gl_X7_copy_X40 : GoodIn wsX7_copy wsX40 := (dg_t (dg_l (dg_r gw_wsX40)))
theorem ggX7_copy_X4_noRow : GoodIn wsX7_copy wsX4_noRow := (dg_c 25 rfl rfl (dg_c 26 rfl rfl gl_X7_copy_X40))
set_option maxRecDepth 20000 in
theorem gX7_copy_X4_noRow : GoodIn wsX7_copy (wsV RX7 75 RX4 yX4_noRow wsX4_noRow) := goodIn_app (dg_c 21 rfl rfl (dg_c 22 rfl rfl (dg_c 23 rfl rfl (dg_c 24 rfl rfl dg_0)))) ggX7_copy_X4_noRow
set_option maxRecDepth 20000 in
theorem ggX7_copy_X4_hasSpan : GoodIn wsX7_copy wsX4_hasSpan := (dg_c 30 rfl rfl (dg_c 31 rfl rfl gl_X7_copy_X40))
set_option maxRecDepth 20000 in
theorem gX7_copy_X4_hasSpan : GoodIn wsX7_copy (wsV RX7 79 RX4 yX4_hasSpan wsX4_hasSpan) := goodIn_app (dg_c 27 rfl rfl (dg_c 28 rfl rfl (dg_c 29 rfl rfl (dg_c 24 rfl rfl dg_0)))) ggX7_copy_X4_hasSpan
theorem dX7_copy_0 : decode cX7_copy 0 = .ok (.aload_n 0, 1) := dq_42 dp_cX7_copy rfl
theorem dX7_copy_1 : decode cX7_copy 1 = .ok (.iload_n 1, 1) := dq_27 dp_cX7_copy rfl
theorem dX7_copy_2 : decode cX7_copy 2 = .ok (.invokevirtual 59, 3) := dq_182 dp_cX7_copy rfl
theorem dX7_copy_5 : decode cX7_copy 5 = .ok (.astore 6, 2) := dq_58 dp_cX7_copy rfl
theorem dX7_copy_7 : decode cX7_copy 7 = .ok (.aload_n 0, 1) := dq_42 dp_cX7_copy rfl
theorem dX7_copy_8 : decode cX7_copy 8 = .ok (.iload_n 2, 1) := dq_28 dp_cX7_copy rfl
theorem dX7_copy_9 : decode cX7_copy 9 = .ok (.invokevirtual 59, 3) := dq_182 dp_cX7_copy rfl
theorem dX7_copy_12 : decode cX7_copy 12 = .ok (.astore 7, 2) := dq_58 dp_cX7_copy rfl
theorem dX7_copy_14 : decode cX7_copy 14 = .ok (.aload 6, 2) := dq_25 dp_cX7_copy rfl
theorem dX7_copy_16 : decode cX7_copy 16 = .ok (.ifnull 8, 3) := dq_198 (v := 8) dp_cX7_copy rfl rfl
theorem dX7_copy_19 : decode cX7_copy 19 = .ok (.aload 7, 2) := dq_25 dp_cX7_copy rfl
theorem dX7_copy_21 : decode cX7_copy 21 = .ok (.ifnonnull 9, 3) := dq_199 (v := 9) dp_cX7_copy rfl rfl
theorem dX7_copy_24 : decode cX7_copy 24 = .ok (.aload_n 0, 1) := dq_42 dp_cX7_copy rfl
theorem dX7_copy_25 : decode cX7_copy 25 = .ok (.iconst 1, 1) := dq_4 dp_cX7_copy rfl
theorem dX7_copy_26 : decode cX7_copy 26 = .ok (.invokevirtual 63, 3) := dq_182 dp_cX7_copy rfl
theorem dX7_copy_29 : decode cX7_copy 29 = .ok (.ireturn, 1) := dq_172 dp_cX7_copy rfl
theorem dX7_copy_30 : decode cX7_copy 30 = .ok (.aload 6, 2) := dq_25 dp_cX7_copy rfl
theorem dX7_copy_32 : decode cX7_copy 32 = .ok (.invokevirtual 75, 3) := dq_182 dp_cX7_copy rfl
theorem dX7_copy_35 : decode cX7_copy 35 = .ok (.istore 8, 2) := dq_54 dp_cX7_copy rfl
theorem dX7_copy_37 : decode cX7_copy 37 = .ok (.aload 7, 2) := dq_25 dp_cX7_copy rfl
theorem dX7_copy_39 : decode cX7_copy 39 = .ok (.invokevirtual 75, 3) := dq_182 dp_cX7_copy rfl
theorem dX7_copy_42 : decode cX7_copy 42 = .ok (.istore 9, 2) := dq_54 dp_cX7_copy rfl
theorem dX7_copy_44 : decode cX7_copy 44 = .ok (.iload 8, 2) := dq_21 dp_cX7_copy rfl
theorem dX7_copy_46 : decode cX7_copy 46 = .ok (.ifCond .ne 25, 3) := dq_154 (v := 25) dp_cX7_copy rfl rfl
theorem dX7_copy_49 : decode cX7_copy 49 = .ok (.iload 9, 2) := dq_21 dp_cX7_copy rfl
theorem dX7_copy_51 : decode cX7_copy 51 = .ok (.ifCond .ne 20, 3) := dq_154 (v := 20) dp_cX7_copy rfl rfl
theorem dX7_copy_54 : decode cX7_copy 54 = .ok (.aload 6, 2) := dq_25 dp_cX7_copy rfl
theorem dX7_copy_56 : decode cX7_copy 56 = .ok (.getfield 87, 3) := dq_180 dp_cX7_copy rfl
theorem dX7_copy_59 : decode cX7_copy 59 = .ok (.aload 7, 2) := dq_25 dp_cX7_copy rfl
theorem dX7_copy_61 : decode cX7_copy 61 = .ok (.getfield 87, 3) := dq_180 dp_cX7_copy rfl
theorem dX7_copy_64 : decode cX7_copy 64 = .ok (.if_icmp .eq 7, 3) := dq_159 (v := 7) dp_cX7_copy rfl rfl
theorem dX7_copy_67 : decode cX7_copy 67 = .ok (.iconst 1, 1) := dq_4 dp_cX7_copy rfl
theorem dX7_copy_68 : decode cX7_copy 68 = .ok (.goto 4, 3) := dq_167 (v := 4) dp_cX7_copy rfl rfl
theorem dX7_copy_71 : decode cX7_copy 71 = .ok (.iconst 0, 1) := dq_3 dp_cX7_copy rfl
theorem dX7_copy_72 : decode cX7_copy 72 = .ok (.istore 10, 2) := dq_54 dp_cX7_copy rfl
theorem dX7_copy_74 : decode cX7_copy 74 = .ok (.iload 8, 2) := dq_21 dp_cX7_copy rfl
theorem dX7_copy_76 : decode cX7_copy 76 = .ok (.iconst 2, 1) := dq_5 dp_cX7_copy rfl
theorem dX7_copy_77 : decode cX7_copy 77 = .ok (.if_icmp .eq 14, 3) := dq_159 (v := 14) dp_cX7_copy rfl rfl
theorem dX7_copy_80 : decode cX7_copy 80 = .ok (.iload 9, 2) := dq_21 dp_cX7_copy rfl
theorem dX7_copy_82 : decode cX7_copy 82 = .ok (.iconst 2, 1) := dq_5 dp_cX7_copy rfl
theorem dX7_copy_83 : decode cX7_copy 83 = .ok (.if_icmp .eq 8, 3) := dq_159 (v := 8) dp_cX7_copy rfl rfl
theorem dX7_copy_86 : decode cX7_copy 86 = .ok (.iload 10, 2) := dq_21 dp_cX7_copy rfl
theorem dX7_copy_88 : decode cX7_copy 88 = .ok (.ifCond .eq 9, 3) := dq_153 (v := 9) dp_cX7_copy rfl rfl
theorem dX7_copy_91 : decode cX7_copy 91 = .ok (.aload_n 0, 1) := dq_42 dp_cX7_copy rfl
theorem dX7_copy_92 : decode cX7_copy 92 = .ok (.iconst 2, 1) := dq_5 dp_cX7_copy rfl
theorem dX7_copy_93 : decode cX7_copy 93 = .ok (.invokevirtual 63, 3) := dq_182 dp_cX7_copy rfl
theorem dX7_copy_96 : decode cX7_copy 96 = .ok (.ireturn, 1) := dq_172 dp_cX7_copy rfl
theorem dX7_copy_97 : decode cX7_copy 97 = .ok (.iload 8, 2) := dq_21 dp_cX7_copy rfl
theorem dX7_copy_99 : decode cX7_copy 99 = .ok (.iconst 3, 1) := dq_6 dp_cX7_copy rfl
theorem dX7_copy_100 : decode cX7_copy 100 = .ok (.if_icmp .eq 9, 3) := dq_159 (v := 9) dp_cX7_copy rfl rfl
theorem dX7_copy_103 : decode cX7_copy 103 = .ok (.iload 9, 2) := dq_21 dp_cX7_copy rfl
theorem dX7_copy_105 : decode cX7_copy 105 = .ok (.iconst 3, 1) := dq_6 dp_cX7_copy rfl
theorem dX7_copy_106 : decode cX7_copy 106 = .ok (.if_icmp .ne 9, 3) := dq_160 (v := 9) dp_cX7_copy rfl rfl
theorem dX7_copy_109 : decode cX7_copy 109 = .ok (.aload_n 0, 1) := dq_42 dp_cX7_copy rfl
theorem dX7_copy_110 : decode cX7_copy 110 = .ok (.iconst 3, 1) := dq_6 dp_cX7_copy rfl
theorem dX7_copy_111 : decode cX7_copy 111 = .ok (.invokevirtual 63, 3) := dq_182 dp_cX7_copy rfl
theorem dX7_copy_114 : decode cX7_copy 114 = .ok (.ireturn, 1) := dq_172 dp_cX7_copy rfl
theorem dX7_copy_115 : decode cX7_copy 115 = .ok (.iload 5, 2) := dq_21 dp_cX7_copy rfl
theorem dX7_copy_117 : decode cX7_copy 117 = .ok (.ifCond .ge 9, 3) := dq_156 (v := 9) dp_cX7_copy rfl rfl
theorem dX7_copy_120 : decode cX7_copy 120 = .ok (.aload_n 0, 1) := dq_42 dp_cX7_copy rfl
theorem dX7_copy_121 : decode cX7_copy 121 = .ok (.iconst 4, 1) := dq_7 dp_cX7_copy rfl
theorem dX7_copy_122 : decode cX7_copy 122 = .ok (.invokevirtual 63, 3) := dq_182 dp_cX7_copy rfl
theorem dX7_copy_125 : decode cX7_copy 125 = .ok (.ireturn, 1) := dq_172 dp_cX7_copy rfl
theorem dX7_copy_126 : decode cX7_copy 126 = .ok (.aload 6, 2) := dq_25 dp_cX7_copy rfl
theorem dX7_copy_128 : decode cX7_copy 128 = .ok (.iload_n 3, 1) := dq_29 dp_cX7_copy rfl
theorem dX7_copy_129 : decode cX7_copy 129 = .ok (.iload 5, 2) := dq_21 dp_cX7_copy rfl
theorem dX7_copy_131 : decode cX7_copy 131 = .ok (.invokevirtual 79, 3) := dq_182 dp_cX7_copy rfl
theorem dX7_copy_134 : decode cX7_copy 134 = .ok (.ifCond .eq 15, 3) := dq_153 (v := 15) dp_cX7_copy rfl rfl
theorem dX7_copy_137 : decode cX7_copy 137 = .ok (.aload 7, 2) := dq_25 dp_cX7_copy rfl
theorem dX7_copy_139 : decode cX7_copy 139 = .ok (.iload 4, 2) := dq_21 dp_cX7_copy rfl
theorem dX7_copy_141 : decode cX7_copy 141 = .ok (.iload 5, 2) := dq_21 dp_cX7_copy rfl
theorem dX7_copy_143 : decode cX7_copy 143 = .ok (.invokevirtual 79, 3) := dq_182 dp_cX7_copy rfl
theorem dX7_copy_146 : decode cX7_copy 146 = .ok (.ifCond .ne 9, 3) := dq_154 (v := 9) dp_cX7_copy rfl rfl
theorem dX7_copy_149 : decode cX7_copy 149 = .ok (.aload_n 0, 1) := dq_42 dp_cX7_copy rfl
theorem dX7_copy_150 : decode cX7_copy 150 = .ok (.iconst 5, 1) := dq_8 dp_cX7_copy rfl
theorem dX7_copy_151 : decode cX7_copy 151 = .ok (.invokevirtual 63, 3) := dq_182 dp_cX7_copy rfl
theorem dX7_copy_154 : decode cX7_copy 154 = .ok (.ireturn, 1) := dq_172 dp_cX7_copy rfl
theorem dX7_copy_155 : decode cX7_copy 155 = .ok (.aload 6, 2) := dq_25 dp_cX7_copy rfl
theorem dX7_copy_157 : decode cX7_copy 157 = .ok (.getfield 90, 3) := dq_180 dp_cX7_copy rfl
theorem dX7_copy_160 : decode cX7_copy 160 = .ok (.iload_n 3, 1) := dq_29 dp_cX7_copy rfl
theorem dX7_copy_161 : decode cX7_copy 161 = .ok (.aload 7, 2) := dq_25 dp_cX7_copy rfl
theorem dX7_copy_163 : decode cX7_copy 163 = .ok (.getfield 90, 3) := dq_180 dp_cX7_copy rfl
theorem dX7_copy_166 : decode cX7_copy 166 = .ok (.iload 4, 2) := dq_21 dp_cX7_copy rfl
theorem dX7_copy_168 : decode cX7_copy 168 = .ok (.iload 5, 2) := dq_21 dp_cX7_copy rfl
theorem dX7_copy_170 : decode cX7_copy 170 = .ok (.invokestatic 94, 3) := dq_184 dp_cX7_copy rfl
theorem dX7_copy_173 : decode cX7_copy 173 = .ok (.iconst 1, 1) := dq_4 dp_cX7_copy rfl
theorem dX7_copy_174 : decode cX7_copy 174 = .ok (.ireturn, 1) := dq_172 dp_cX7_copy rfl
set_option maxRecDepth 20000 in
theorem gl_X7_element_X70 : GoodIn wsX7_element wsX70 := (dg_t (dg_t (dg_t (dg_t (dg_t (dg_t (dg_t (dg_t (dg_t (dg_t (dg_t (dg_t (dg_t (dg_t (dg_t (dg_t (dg_t (dg_t (dg_t (dg_t (dg_t (dg_t (dg_r gw_wsX70)))))))))))))))))))))))
theorem ggX7_element_X7_shelfAt : GoodIn wsX7_element wsX7_shelfAt := (dg_c 6 rfl rfl (dg_c 7 rfl rfl (dg_c 8 rfl rfl (dg_c 9 rfl rfl (dg_c 5 rfl rfl (dg_c 10 rfl rfl gl_X7_element_X70))))))
set_option maxRecDepth 20000 in
theorem gX7_element_X7_shelfAt : GoodIn wsX7_element (wsV RX7 59 RX7 yX7_shelfAt wsX7_shelfAt) := goodIn_app (dg_c 2 rfl rfl (dg_c 3 rfl rfl (dg_c 4 rfl rfl (dg_c 5 rfl rfl dg_0)))) ggX7_element_X7_shelfAt
set_option maxRecDepth 20000 in
theorem gl_X7_element_X40 : GoodIn wsX7_element wsX40 := (dg_t (dg_t (dg_t (dg_t (dg_t (dg_t (dg_t (dg_t (dg_t (dg_t (dg_t (dg_t (dg_t (dg_t (dg_t (dg_t (dg_t (dg_t (dg_t (dg_t (dg_t (dg_t (dg_l gw_wsX40)))))))))))))))))))))))
theorem ggX7_element_X4_noRow : GoodIn wsX7_element wsX4_noRow := (dg_c 15 rfl rfl (dg_c 16 rfl rfl gl_X7_element_X40))
set_option maxRecDepth 20000 in
theorem gX7_element_X4_noRow : GoodIn wsX7_element (wsV RX7 75 RX4 yX4_noRow wsX4_noRow) := goodIn_app (dg_c 11 rfl rfl (dg_c 12 rfl rfl (dg_c 13 rfl rfl (dg_c 14 rfl rfl dg_0)))) ggX7_element_X4_noRow
set_option maxRecDepth 20000 in
theorem ggX7_element_X4_hasSpan : GoodIn wsX7_element wsX4_hasSpan := (dg_c 20 rfl rfl (dg_c 21 rfl rfl gl_X7_element_X40))
set_option maxRecDepth 20000 in
theorem gX7_element_X4_hasSpan : GoodIn wsX7_element (wsV RX7 79 RX4 yX4_hasSpan wsX4_hasSpan) := goodIn_app (dg_c 17 rfl rfl (dg_c 18 rfl rfl (dg_c 19 rfl rfl (dg_c 14 rfl rfl dg_0)))) ggX7_element_X4_hasSpan
theorem dX7_element_0 : decode cX7_element 0 = .ok (.aload_n 0, 1) := dq_42 dp_cX7_element rfl
theorem dX7_element_1 : decode cX7_element 1 = .ok (.iload_n 1, 1) := dq_27 dp_cX7_element rfl
theorem dX7_element_2 : decode cX7_element 2 = .ok (.invokevirtual 59, 3) := dq_182 dp_cX7_element rfl
theorem dX7_element_5 : decode cX7_element 5 = .ok (.astore_n 3, 1) := dq_78 dp_cX7_element rfl
theorem dX7_element_6 : decode cX7_element 6 = .ok (.aload_n 3, 1) := dq_45 dp_cX7_element rfl
theorem dX7_element_7 : decode cX7_element 7 = .ok (.ifnull 19, 3) := dq_198 (v := 19) dp_cX7_element rfl rfl
theorem dX7_element_10 : decode cX7_element 10 = .ok (.aload_n 3, 1) := dq_45 dp_cX7_element rfl
theorem dX7_element_11 : decode cX7_element 11 = .ok (.invokevirtual 75, 3) := dq_182 dp_cX7_element rfl
theorem dX7_element_14 : decode cX7_element 14 = .ok (.ifCond .ne 12, 3) := dq_154 (v := 12) dp_cX7_element rfl rfl
theorem dX7_element_17 : decode cX7_element 17 = .ok (.aload_n 3, 1) := dq_45 dp_cX7_element rfl
theorem dX7_element_18 : decode cX7_element 18 = .ok (.iload_n 2, 1) := dq_28 dp_cX7_element rfl
theorem dX7_element_19 : decode cX7_element 19 = .ok (.iconst 1, 1) := dq_4 dp_cX7_element rfl
theorem dX7_element_20 : decode cX7_element 20 = .ok (.invokevirtual 79, 3) := dq_182 dp_cX7_element rfl
theorem dX7_element_23 : decode cX7_element 23 = .ok (.ifCond .ne 5, 3) := dq_154 (v := 5) dp_cX7_element rfl rfl
theorem dX7_element_26 : decode cX7_element 26 = .ok (.lconst 0, 1) := dq_9 dp_cX7_element rfl
theorem dX7_element_27 : decode cX7_element 27 = .ok (.lreturn, 1) := dq_173 dp_cX7_element rfl
theorem dX7_element_28 : decode cX7_element 28 = .ok (.aload_n 3, 1) := dq_45 dp_cX7_element rfl
theorem dX7_element_29 : decode cX7_element 29 = .ok (.getfield 90, 3) := dq_180 dp_cX7_element rfl
theorem dX7_element_32 : decode cX7_element 32 = .ok (.iload_n 2, 1) := dq_28 dp_cX7_element rfl
theorem dX7_element_33 : decode cX7_element 33 = .ok (.laload, 1) := dq_47 dp_cX7_element rfl
theorem dX7_element_34 : decode cX7_element 34 = .ok (.lreturn, 1) := dq_173 dp_cX7_element rfl
set_option maxRecDepth 20000 in
theorem gl_X7_show_X70 : GoodIn wsX7_show wsX70 := (dg_t (dg_t (dg_t (dg_t (dg_t (dg_t (dg_t (dg_t (dg_t (dg_t (dg_t (dg_t (dg_t (dg_t (dg_t (dg_t (dg_t (dg_t (dg_t (dg_t (dg_t (dg_t (dg_t (dg_t (dg_l (dg_l gw_wsX70))))))))))))))))))))))))))
theorem ggX7_show_X7_shelfAt : GoodIn wsX7_show wsX7_shelfAt := (dg_c 7 rfl rfl (dg_c 8 rfl rfl (dg_c 9 rfl rfl (dg_c 10 rfl rfl (dg_c 6 rfl rfl (dg_c 11 rfl rfl gl_X7_show_X70))))))
set_option maxRecDepth 20000 in
theorem gX7_show_X7_shelfAt : GoodIn wsX7_show (wsV RX7 59 RX7 yX7_shelfAt wsX7_shelfAt) := goodIn_app (dg_c 3 rfl rfl (dg_c 4 rfl rfl (dg_c 5 rfl rfl (dg_c 6 rfl rfl dg_0)))) ggX7_show_X7_shelfAt
set_option maxRecDepth 20000 in
theorem gl_X7_show_X00 : GoodIn wsX7_show wsX00 := (dg_t (dg_t (dg_t (dg_t (dg_t (dg_t (dg_t (dg_t (dg_t (dg_t (dg_t (dg_t (dg_t (dg_t (dg_t (dg_t (dg_t (dg_t (dg_t (dg_t (dg_t (dg_t (dg_t (dg_t (dg_r gw_wsX00)))))))))))))))))))))))))
theorem ggX7_show_X0_pullAt : GoodIn wsX7_show wsX0_pullAt := (dg_c 16 rfl rfl (dg_c 17 rfl rfl (dg_c 18 rfl rfl (dg_c 10 rfl rfl (dg_c 6 rfl rfl (dg_c 11 rfl rfl gl_X7_show_X00))))))
set_option maxRecDepth 20000 in
theorem gX7_show_X0_pullAt : GoodIn wsX7_show (wsV RX7 100 RX0 yX0_pullAt wsX0_pullAt) := goodIn_app (dg_c 12 rfl rfl (dg_c 13 rfl rfl (dg_c 14 rfl rfl (dg_c 15 rfl rfl dg_0)))) ggX7_show_X0_pullAt
set_option maxRecDepth 20000 in
theorem ggX7_show_X7_refuse : GoodIn wsX7_show wsX7_refuse := (dg_c 22 rfl rfl (dg_c 23 rfl rfl (dg_c 9 rfl rfl (dg_c 10 rfl rfl (dg_c 6 rfl rfl (dg_c 11 rfl rfl gl_X7_show_X70))))))
set_option maxRecDepth 20000 in
theorem gX7_show_X7_refuse : GoodIn wsX7_show (wsV RX7 63 RX7 yX7_refuse wsX7_refuse) := goodIn_app (dg_c 19 rfl rfl (dg_c 20 rfl rfl (dg_c 21 rfl rfl (dg_c 6 rfl rfl dg_0)))) ggX7_show_X7_refuse
theorem dX7_show_0 : decode cX7_show 0 = .ok (.aload_n 0, 1) := dq_42 dp_cX7_show rfl
theorem dX7_show_1 : decode cX7_show 1 = .ok (.iload_n 1, 1) := dq_27 dp_cX7_show rfl
theorem dX7_show_2 : decode cX7_show 2 = .ok (.invokevirtual 59, 3) := dq_182 dp_cX7_show rfl
theorem dX7_show_5 : decode cX7_show 5 = .ok (.astore_n 3, 1) := dq_78 dp_cX7_show rfl
theorem dX7_show_6 : decode cX7_show 6 = .ok (.aload_n 3, 1) := dq_45 dp_cX7_show rfl
theorem dX7_show_7 : decode cX7_show 7 = .ok (.ifnull 19, 3) := dq_198 (v := 19) dp_cX7_show rfl rfl
theorem dX7_show_10 : decode cX7_show 10 = .ok (.iload_n 2, 1) := dq_28 dp_cX7_show rfl
theorem dX7_show_11 : decode cX7_show 11 = .ok (.iconst (-1), 1) := dq_2 dp_cX7_show rfl
theorem dX7_show_12 : decode cX7_show 12 = .ok (.if_icmp .eq 20, 3) := dq_159 (v := 20) dp_cX7_show rfl rfl
theorem dX7_show_15 : decode cX7_show 15 = .ok (.aload_n 0, 1) := dq_42 dp_cX7_show rfl
theorem dX7_show_16 : decode cX7_show 16 = .ok (.getfield 18, 3) := dq_180 dp_cX7_show rfl
theorem dX7_show_19 : decode cX7_show 19 = .ok (.iload_n 2, 1) := dq_28 dp_cX7_show rfl
theorem dX7_show_20 : decode cX7_show 20 = .ok (.invokevirtual 100, 3) := dq_182 dp_cX7_show rfl
theorem dX7_show_23 : decode cX7_show 23 = .ok (.ifnonnull 9, 3) := dq_199 (v := 9) dp_cX7_show rfl rfl
theorem dX7_show_26 : decode cX7_show 26 = .ok (.aload_n 0, 1) := dq_42 dp_cX7_show rfl
theorem dX7_show_27 : decode cX7_show 27 = .ok (.iconst 1, 1) := dq_4 dp_cX7_show rfl
theorem dX7_show_28 : decode cX7_show 28 = .ok (.invokevirtual 63, 3) := dq_182 dp_cX7_show rfl
theorem dX7_show_31 : decode cX7_show 31 = .ok (.ireturn, 1) := dq_172 dp_cX7_show rfl
theorem dX7_show_32 : decode cX7_show 32 = .ok (.aload_n 3, 1) := dq_45 dp_cX7_show rfl
theorem dX7_show_33 : decode cX7_show 33 = .ok (.iload_n 2, 1) := dq_28 dp_cX7_show rfl
theorem dX7_show_34 : decode cX7_show 34 = .ok (.putfield 87, 3) := dq_181 dp_cX7_show rfl
theorem dX7_show_37 : decode cX7_show 37 = .ok (.iload_n 2, 1) := dq_28 dp_cX7_show rfl
theorem dX7_show_38 : decode cX7_show 38 = .ok (.iconst (-1), 1) := dq_2 dp_cX7_show rfl
theorem dX7_show_39 : decode cX7_show 39 = .ok (.if_icmp .ne 7, 3) := dq_160 (v := 7) dp_cX7_show rfl rfl
theorem dX7_show_42 : decode cX7_show 42 = .ok (.iconst 0, 1) := dq_3 dp_cX7_show rfl
theorem dX7_show_43 : decode cX7_show 43 = .ok (.goto 4, 3) := dq_167 (v := 4) dp_cX7_show rfl rfl
theorem dX7_show_46 : decode cX7_show 46 = .ok (.iconst 1, 1) := dq_4 dp_cX7_show rfl
theorem dX7_show_47 : decode cX7_show 47 = .ok (.ireturn, 1) := dq_172 dp_cX7_show rfl
set_option maxRecDepth 20000 in
theorem gl_X7_holds_X70 : GoodIn wsX7_holds wsX70 := (dg_t (dg_t (dg_t (dg_t (dg_t (dg_t (dg_t (dg_t (dg_t (dg_t (dg_t (dg_r gw_wsX70))))))))))))
theorem ggX7_holds_X7_shelfAt : GoodIn wsX7_holds wsX7_shelfAt := (dg_c 6 rfl rfl (dg_c 7 rfl rfl (dg_c 8 rfl rfl (dg_c 9 rfl rfl (dg_c 5 rfl rfl (dg_c 10 rfl rfl gl_X7_holds_X70))))))
set_option maxRecDepth 20000 in
theorem gX7_holds_X7_shelfAt : GoodIn wsX7_holds (wsV RX7 59 RX7 yX7_shelfAt wsX7_shelfAt) := goodIn_app (dg_c 2 rfl rfl (dg_c 3 rfl rfl (dg_c 4 rfl rfl (dg_c 5 rfl rfl dg_0)))) ggX7_holds_X7_shelfAt
theorem dX7_holds_0 : decode cX7_holds 0 = .ok (.aload_n 0, 1) := dq_42 dp_cX7_holds rfl
theorem dX7_holds_1 : decode cX7_holds 1 = .ok (.iload_n 1, 1) := dq_27 dp_cX7_holds rfl
theorem dX7_holds_2 : decode cX7_holds 2 = .ok (.invokevirtual 59, 3) := dq_182 dp_cX7_holds rfl
theorem dX7_holds_5 : decode cX7_holds 5 = .ok (.astore_n 2, 1) := dq_77 dp_cX7_holds rfl
theorem dX7_holds_6 : decode cX7_holds 6 = .ok (.aload_n 2, 1) := dq_44 dp_cX7_holds rfl
theorem dX7_holds_7 : decode cX7_holds 7 = .ok (.ifnonnull 7, 3) := dq_199 (v := 7) dp_cX7_holds rfl rfl
theorem dX7_holds_10 : decode cX7_holds 10 = .ok (.iconst (-1), 1) := dq_2 dp_cX7_holds rfl
theorem dX7_holds_11 : decode cX7_holds 11 = .ok (.goto 7, 3) := dq_167 (v := 7) dp_cX7_holds rfl rfl
theorem dX7_holds_14 : decode cX7_holds 14 = .ok (.aload_n 2, 1) := dq_44 dp_cX7_holds rfl
theorem dX7_holds_15 : decode cX7_holds 15 = .ok (.getfield 87, 3) := dq_180 dp_cX7_holds rfl
theorem dX7_holds_18 : decode cX7_holds 18 = .ok (.ireturn, 1) := dq_172 dp_cX7_holds rfl
set_option maxRecDepth 20000 in
theorem gl_X7_says_X70 : GoodIn wsX7_says wsX70 := (dg_t (dg_l (dg_l (dg_r gw_wsX70))))
theorem ggX7_says_X7_shelfAt : GoodIn wsX7_says wsX7_shelfAt := (dg_c 9 rfl rfl (dg_c 10 rfl rfl (dg_c 11 rfl rfl (dg_c 12 rfl rfl (dg_c 8 rfl rfl (dg_c 13 rfl rfl gl_X7_says_X70))))))
set_option maxRecDepth 20000 in
theorem gX7_says_X7_shelfAt : GoodIn wsX7_says (wsV RX7 59 RX7 yX7_shelfAt wsX7_shelfAt) := goodIn_app (dg_c 5 rfl rfl (dg_c 6 rfl rfl (dg_c 7 rfl rfl (dg_c 8 rfl rfl dg_0)))) ggX7_says_X7_shelfAt
set_option maxRecDepth 20000 in
theorem ggX7_says_X7_within : GoodIn wsX7_says wsX7_within := (dg_c 13 rfl rfl dg_0)
set_option maxRecDepth 20000 in
theorem gX7_says_X7_within : GoodIn wsX7_says (va_wsS RX7 67 yX7_within wsX7_within) := goodIn_app (dg_c 11 rfl rfl (dg_c 12 rfl rfl (dg_c 8 rfl rfl dg_0))) ggX7_says_X7_within
set_option maxRecDepth 20000 in
theorem ggX7_says_X7_refuse : GoodIn wsX7_says wsX7_refuse := (dg_c 17 rfl rfl (dg_c 18 rfl rfl (dg_c 11 rfl rfl (dg_c 12 rfl rfl (dg_c 8 rfl rfl (dg_c 13 rfl rfl gl_X7_says_X70))))))
set_option maxRecDepth 20000 in
theorem gX7_says_X7_refuse : GoodIn wsX7_says (wsV RX7 63 RX7 yX7_refuse wsX7_refuse) := goodIn_app (dg_c 14 rfl rfl (dg_c 15 rfl rfl (dg_c 16 rfl rfl (dg_c 8 rfl rfl dg_0)))) ggX7_says_X7_refuse
set_option maxRecDepth 20000 in
theorem gl_X7_says_X00 : GoodIn wsX7_says wsX00 := (dg_t (dg_r gw_wsX00))
theorem ggX7_says_X0_pullAt : GoodIn wsX7_says wsX0_pullAt := (dg_c 23 rfl rfl (dg_c 24 rfl rfl (dg_c 25 rfl rfl (dg_c 12 rfl rfl (dg_c 8 rfl rfl (dg_c 13 rfl rfl gl_X7_says_X00))))))
set_option maxRecDepth 20000 in
theorem gX7_says_X0_pullAt : GoodIn wsX7_says (wsV RX7 100 RX0 yX0_pullAt wsX0_pullAt) := goodIn_app (dg_c 19 rfl rfl (dg_c 20 rfl rfl (dg_c 21 rfl rfl (dg_c 22 rfl rfl dg_0)))) ggX7_says_X0_pullAt
set_option maxRecDepth 20000 in
theorem gl_X7_says_X20 : GoodIn wsX7_says wsX20 := (dg_t (dg_l (dg_r gw_wsX20)))
theorem ggX7_says_X2_isOf : GoodIn wsX7_says wsX2_isOf := (dg_c 30 rfl rfl (dg_c 31 rfl rfl (dg_c 12 rfl rfl (dg_c 8 rfl rfl (dg_c 13 rfl rfl gl_X7_says_X20)))))
set_option maxRecDepth 20000 in
theorem gX7_says_X2_isOf : GoodIn wsX7_says (wsV RX7 104 RX2 yX2_isOf wsX2_isOf) := goodIn_app (dg_c 26 rfl rfl (dg_c 27 rfl rfl (dg_c 28 rfl rfl (dg_c 29 rfl rfl dg_0)))) ggX7_says_X2_isOf
set_option maxRecDepth 20000 in
theorem ggX7_says_X2_step : GoodIn wsX7_says wsX2_step := (dg_c 35 rfl rfl (dg_c 31 rfl rfl (dg_c 36 rfl rfl gl_X7_says_X20)))
set_option maxRecDepth 20000 in
theorem gX7_says_X2_step : GoodIn wsX7_says (wsV RX7 113 RX2 yX2_step wsX2_step) := goodIn_app (dg_c 32 rfl rfl (dg_c 33 rfl rfl (dg_c 34 rfl rfl (dg_c 29 rfl rfl dg_0)))) ggX7_says_X2_step
set_option maxRecDepth 20000 in
theorem ggX7_says_X2_waysAt : GoodIn wsX7_says wsX2_waysAt := (dg_c 40 rfl rfl (dg_c 31 rfl rfl (dg_c 41 rfl rfl (dg_c 42 rfl rfl (dg_c 43 rfl rfl (dg_c 44 rfl rfl (dg_c 45 rfl rfl (dg_c 46 rfl rfl (dg_c 47 rfl rfl (dg_c 48 rfl rfl (dg_c 49 rfl rfl (dg_c 50 rfl rfl (dg_c 29 rfl rfl (dg_c 51 rfl rfl (dg_c 36 rfl rfl gl_X7_says_X20)))))))))))))))
set_option maxRecDepth 20000 in
theorem gX7_says_X2_waysAt : GoodIn wsX7_says (wsV RX7 119 RX2 yX2_waysAt wsX2_waysAt) := goodIn_app (dg_c 37 rfl rfl (dg_c 38 rfl rfl (dg_c 39 rfl rfl (dg_c 29 rfl rfl dg_0)))) ggX7_says_X2_waysAt
theorem dX7_says_0 : decode cX7_says 0 = .ok (.aload_n 0, 1) := dq_42 dp_cX7_says rfl
theorem dX7_says_1 : decode cX7_says 1 = .ok (.iload_n 1, 1) := dq_27 dp_cX7_says rfl
theorem dX7_says_2 : decode cX7_says 2 = .ok (.invokevirtual 59, 3) := dq_182 dp_cX7_says rfl
theorem dX7_says_5 : decode cX7_says 5 = .ok (.astore_n 3, 1) := dq_78 dp_cX7_says rfl
theorem dX7_says_6 : decode cX7_says 6 = .ok (.aload_n 3, 1) := dq_45 dp_cX7_says rfl
theorem dX7_says_7 : decode cX7_says 7 = .ok (.ifnull 13, 3) := dq_198 (v := 13) dp_cX7_says rfl rfl
theorem dX7_says_10 : decode cX7_says 10 = .ok (.iload_n 2, 1) := dq_28 dp_cX7_says rfl
theorem dX7_says_11 : decode cX7_says 11 = .ok (.iconst 0, 1) := dq_3 dp_cX7_says rfl
theorem dX7_says_12 : decode cX7_says 12 = .ok (.bipush 6, 2) := dq_16 (v := 6) dp_cX7_says rfl rfl
theorem dX7_says_14 : decode cX7_says 14 = .ok (.invokestatic 67, 3) := dq_184 dp_cX7_says rfl
theorem dX7_says_17 : decode cX7_says 17 = .ok (.ifCond .ne 9, 3) := dq_154 (v := 9) dp_cX7_says rfl rfl
theorem dX7_says_20 : decode cX7_says 20 = .ok (.aload_n 0, 1) := dq_42 dp_cX7_says rfl
theorem dX7_says_21 : decode cX7_says 21 = .ok (.iconst 1, 1) := dq_4 dp_cX7_says rfl
theorem dX7_says_22 : decode cX7_says 22 = .ok (.invokevirtual 63, 3) := dq_182 dp_cX7_says rfl
theorem dX7_says_25 : decode cX7_says 25 = .ok (.ireturn, 1) := dq_172 dp_cX7_says rfl
theorem dX7_says_26 : decode cX7_says 26 = .ok (.aload_n 3, 1) := dq_45 dp_cX7_says rfl
theorem dX7_says_27 : decode cX7_says 27 = .ok (.getfield 87, 3) := dq_180 dp_cX7_says rfl
theorem dX7_says_30 : decode cX7_says 30 = .ok (.iconst (-1), 1) := dq_2 dp_cX7_says rfl
theorem dX7_says_31 : decode cX7_says 31 = .ok (.if_icmp .ne 9, 3) := dq_160 (v := 9) dp_cX7_says rfl rfl
theorem dX7_says_34 : decode cX7_says 34 = .ok (.aload_n 0, 1) := dq_42 dp_cX7_says rfl
theorem dX7_says_35 : decode cX7_says 35 = .ok (.iconst 3, 1) := dq_6 dp_cX7_says rfl
theorem dX7_says_36 : decode cX7_says 36 = .ok (.invokevirtual 63, 3) := dq_182 dp_cX7_says rfl
theorem dX7_says_39 : decode cX7_says 39 = .ok (.ireturn, 1) := dq_172 dp_cX7_says rfl
theorem dX7_says_40 : decode cX7_says 40 = .ok (.aload_n 0, 1) := dq_42 dp_cX7_says rfl
theorem dX7_says_41 : decode cX7_says 41 = .ok (.getfield 18, 3) := dq_180 dp_cX7_says rfl
theorem dX7_says_44 : decode cX7_says 44 = .ok (.aload_n 3, 1) := dq_45 dp_cX7_says rfl
theorem dX7_says_45 : decode cX7_says 45 = .ok (.getfield 87, 3) := dq_180 dp_cX7_says rfl
theorem dX7_says_48 : decode cX7_says 48 = .ok (.invokevirtual 100, 3) := dq_182 dp_cX7_says rfl
theorem dX7_says_51 : decode cX7_says 51 = .ok (.astore 4, 2) := dq_58 dp_cX7_says rfl
theorem dX7_says_53 : decode cX7_says 53 = .ok (.aload 4, 2) := dq_25 dp_cX7_says rfl
theorem dX7_says_55 : decode cX7_says 55 = .ok (.ifnull 12, 3) := dq_198 (v := 12) dp_cX7_says rfl rfl
theorem dX7_says_58 : decode cX7_says 58 = .ok (.aload 4, 2) := dq_25 dp_cX7_says rfl
theorem dX7_says_60 : decode cX7_says 60 = .ok (.iload_n 2, 1) := dq_28 dp_cX7_says rfl
theorem dX7_says_61 : decode cX7_says 61 = .ok (.invokevirtual 104, 3) := dq_182 dp_cX7_says rfl
theorem dX7_says_64 : decode cX7_says 64 = .ok (.ifCond .ne 9, 3) := dq_154 (v := 9) dp_cX7_says rfl rfl
theorem dX7_says_67 : decode cX7_says 67 = .ok (.aload_n 0, 1) := dq_42 dp_cX7_says rfl
theorem dX7_says_68 : decode cX7_says 68 = .ok (.iconst 2, 1) := dq_5 dp_cX7_says rfl
theorem dX7_says_69 : decode cX7_says 69 = .ok (.invokevirtual 63, 3) := dq_182 dp_cX7_says rfl
theorem dX7_says_72 : decode cX7_says 72 = .ok (.ireturn, 1) := dq_172 dp_cX7_says rfl
theorem dX7_says_73 : decode cX7_says 73 = .ok (.iload_n 2, 1) := dq_28 dp_cX7_says rfl
theorem dX7_says_74 : decode cX7_says 74 = .ok (.tableswitch 65 0 5 #[38, 65, 44, 65, 50, 44], 38) := by decide +kernel
theorem dX7_says_112 : decode cX7_says 112 = .ok (.aload 4, 2) := dq_25 dp_cX7_says rfl
theorem dX7_says_114 : decode cX7_says 114 = .ok (.getfield 110, 3) := dq_180 dp_cX7_says rfl
theorem dX7_says_117 : decode cX7_says 117 = .ok (.ireturn, 1) := dq_172 dp_cX7_says rfl
theorem dX7_says_118 : decode cX7_says 118 = .ok (.aload 4, 2) := dq_25 dp_cX7_says rfl
theorem dX7_says_120 : decode cX7_says 120 = .ok (.invokevirtual 113, 3) := dq_182 dp_cX7_says rfl
theorem dX7_says_123 : decode cX7_says 123 = .ok (.ireturn, 1) := dq_172 dp_cX7_says rfl
theorem dX7_says_124 : decode cX7_says 124 = .ok (.aload 4, 2) := dq_25 dp_cX7_says rfl
theorem dX7_says_126 : decode cX7_says 126 = .ok (.bipush 12, 2) := dq_16 (v := 12) dp_cX7_says rfl rfl
theorem dX7_says_128 : decode cX7_says 128 = .ok (.aload_n 0, 1) := dq_42 dp_cX7_says rfl
theorem dX7_says_129 : decode cX7_says 129 = .ok (.getfield 18, 3) := dq_180 dp_cX7_says rfl
theorem dX7_says_132 : decode cX7_says 132 = .ok (.getfield 116, 3) := dq_180 dp_cX7_says rfl
theorem dX7_says_135 : decode cX7_says 135 = .ok (.invokevirtual 119, 3) := dq_182 dp_cX7_says rfl
theorem dX7_says_138 : decode cX7_says 138 = .ok (.ireturn, 1) := dq_172 dp_cX7_says rfl
theorem dX7_says_139 : decode cX7_says 139 = .ok (.aload 4, 2) := dq_25 dp_cX7_says rfl
theorem dX7_says_141 : decode cX7_says 141 = .ok (.bipush 8, 2) := dq_16 (v := 8) dp_cX7_says rfl rfl
theorem dX7_says_143 : decode cX7_says 143 = .ok (.aload_n 0, 1) := dq_42 dp_cX7_says rfl
theorem dX7_says_144 : decode cX7_says 144 = .ok (.getfield 18, 3) := dq_180 dp_cX7_says rfl
theorem dX7_says_147 : decode cX7_says 147 = .ok (.getfield 116, 3) := dq_180 dp_cX7_says rfl
theorem dX7_says_150 : decode cX7_says 150 = .ok (.invokevirtual 119, 3) := dq_182 dp_cX7_says rfl
theorem dX7_says_153 : decode cX7_says 153 = .ok (.ireturn, 1) := dq_172 dp_cX7_says rfl
set_option maxRecDepth 20000 in
theorem ggX7_pull_X7_within : GoodIn wsX7_pull wsX7_within := (dg_c 6 rfl rfl dg_0)
set_option maxRecDepth 20000 in
theorem gX7_pull_X7_within : GoodIn wsX7_pull (va_wsS RX7 67 yX7_within wsX7_within) := goodIn_app (dg_c 3 rfl rfl (dg_c 4 rfl rfl (dg_c 5 rfl rfl dg_0))) ggX7_pull_X7_within
set_option maxRecDepth 20000 in
theorem gl_X7_pull_X70 : GoodIn wsX7_pull wsX70 := (dg_t (dg_l (dg_l (dg_r gw_wsX70))))
theorem ggX7_pull_X7_refuse : GoodIn wsX7_pull wsX7_refuse := (dg_c 10 rfl rfl (dg_c 11 rfl rfl (dg_c 3 rfl rfl (dg_c 4 rfl rfl (dg_c 5 rfl rfl (dg_c 6 rfl rfl gl_X7_pull_X70))))))
set_option maxRecDepth 20000 in
theorem gX7_pull_X7_refuse : GoodIn wsX7_pull (wsV RX7 63 RX7 yX7_refuse wsX7_refuse) := goodIn_app (dg_c 7 rfl rfl (dg_c 8 rfl rfl (dg_c 9 rfl rfl (dg_c 5 rfl rfl dg_0)))) ggX7_pull_X7_refuse
set_option maxRecDepth 20000 in
theorem gl_X7_pull_X00 : GoodIn wsX7_pull wsX00 := (dg_t (dg_l (dg_r gw_wsX00)))
theorem gl_X7_pull_X20 : GoodIn wsX7_pull wsX20 := (dg_t (dg_r gw_wsX20))
theorem ggX7_pull_X0_addPull : GoodIn wsX7_pull wsX0_addPull := (dg_c 16 rfl rfl (dg_c 17 rfl rfl (dg_c 18 rfl rfl (dg_c 19 rfl rfl (dg_c 20 rfl rfl (dg_c 21 rfl rfl (dg_c 22 rfl rfl (dg_c 23 rfl rfl (dg_c 24 rfl rfl (dg_c 25 rfl rfl (dg_c 26 rfl rfl (dg_c 27 rfl rfl (dg_c 28 rfl rfl (dg_c 29 rfl rfl (dg_c 30 rfl rfl (goodIn_app gl_X7_pull_X00 gl_X7_pull_X20))))))))))))))))
set_option maxRecDepth 20000 in
theorem gX7_pull_X0_addPull : GoodIn wsX7_pull (wsV RX7 126 RX0 yX0_addPull wsX0_addPull) := goodIn_app (dg_c 12 rfl rfl (dg_c 13 rfl rfl (dg_c 14 rfl rfl (dg_c 15 rfl rfl dg_0)))) ggX7_pull_X0_addPull
theorem dX7_pull_0 : decode cX7_pull 0 = .ok (.iload_n 1, 1) := dq_27 dp_cX7_pull rfl
theorem dX7_pull_1 : decode cX7_pull 1 = .ok (.iconst 0, 1) := dq_3 dp_cX7_pull rfl
theorem dX7_pull_2 : decode cX7_pull 2 = .ok (.bipush 6, 2) := dq_16 (v := 6) dp_cX7_pull rfl rfl
theorem dX7_pull_4 : decode cX7_pull 4 = .ok (.invokestatic 67, 3) := dq_184 dp_cX7_pull rfl
theorem dX7_pull_7 : decode cX7_pull 7 = .ok (.ifCond .ne 9, 3) := dq_154 (v := 9) dp_cX7_pull rfl rfl
theorem dX7_pull_10 : decode cX7_pull 10 = .ok (.aload_n 0, 1) := dq_42 dp_cX7_pull rfl
theorem dX7_pull_11 : decode cX7_pull 11 = .ok (.iconst 1, 1) := dq_4 dp_cX7_pull rfl
theorem dX7_pull_12 : decode cX7_pull 12 = .ok (.invokevirtual 63, 3) := dq_182 dp_cX7_pull rfl
theorem dX7_pull_15 : decode cX7_pull 15 = .ok (.ireturn, 1) := dq_172 dp_cX7_pull rfl
theorem dX7_pull_16 : decode cX7_pull 16 = .ok (.iload_n 2, 1) := dq_28 dp_cX7_pull rfl
theorem dX7_pull_17 : decode cX7_pull 17 = .ok (.iconst 0, 1) := dq_3 dp_cX7_pull rfl
theorem dX7_pull_18 : decode cX7_pull 18 = .ok (.bipush 9, 2) := dq_16 (v := 9) dp_cX7_pull rfl rfl
theorem dX7_pull_20 : decode cX7_pull 20 = .ok (.invokestatic 67, 3) := dq_184 dp_cX7_pull rfl
theorem dX7_pull_23 : decode cX7_pull 23 = .ok (.ifCond .eq 13, 3) := dq_153 (v := 13) dp_cX7_pull rfl rfl
theorem dX7_pull_26 : decode cX7_pull 26 = .ok (.iload_n 3, 1) := dq_29 dp_cX7_pull rfl
theorem dX7_pull_27 : decode cX7_pull 27 = .ok (.iconst 1, 1) := dq_4 dp_cX7_pull rfl
theorem dX7_pull_28 : decode cX7_pull 28 = .ok (.bipush 60, 2) := dq_16 (v := 60) dp_cX7_pull rfl rfl
theorem dX7_pull_30 : decode cX7_pull 30 = .ok (.invokestatic 67, 3) := dq_184 dp_cX7_pull rfl
theorem dX7_pull_33 : decode cX7_pull 33 = .ok (.ifCond .ne 10, 3) := dq_154 (v := 10) dp_cX7_pull rfl rfl
theorem dX7_pull_36 : decode cX7_pull 36 = .ok (.aload_n 0, 1) := dq_42 dp_cX7_pull rfl
theorem dX7_pull_37 : decode cX7_pull 37 = .ok (.bipush 6, 2) := dq_16 (v := 6) dp_cX7_pull rfl rfl
theorem dX7_pull_39 : decode cX7_pull 39 = .ok (.invokevirtual 63, 3) := dq_182 dp_cX7_pull rfl
theorem dX7_pull_42 : decode cX7_pull 42 = .ok (.ireturn, 1) := dq_172 dp_cX7_pull rfl
theorem dX7_pull_43 : decode cX7_pull 43 = .ok (.aload_n 0, 1) := dq_42 dp_cX7_pull rfl
theorem dX7_pull_44 : decode cX7_pull 44 = .ok (.getfield 18, 3) := dq_180 dp_cX7_pull rfl
theorem dX7_pull_47 : decode cX7_pull 47 = .ok (.getfield 123, 3) := dq_180 dp_cX7_pull rfl
theorem dX7_pull_50 : decode cX7_pull 50 = .ok (.bipush 8, 2) := dq_16 (v := 8) dp_cX7_pull rfl rfl
theorem dX7_pull_52 : decode cX7_pull 52 = .ok (.if_icmp .lt 10, 3) := dq_161 (v := 10) dp_cX7_pull rfl rfl
theorem dX7_pull_55 : decode cX7_pull 55 = .ok (.aload_n 0, 1) := dq_42 dp_cX7_pull rfl
theorem dX7_pull_56 : decode cX7_pull 56 = .ok (.bipush 7, 2) := dq_16 (v := 7) dp_cX7_pull rfl rfl
theorem dX7_pull_58 : decode cX7_pull 58 = .ok (.invokevirtual 63, 3) := dq_182 dp_cX7_pull rfl
theorem dX7_pull_61 : decode cX7_pull 61 = .ok (.ireturn, 1) := dq_172 dp_cX7_pull rfl
theorem dX7_pull_62 : decode cX7_pull 62 = .ok (.aload_n 0, 1) := dq_42 dp_cX7_pull rfl
theorem dX7_pull_63 : decode cX7_pull 63 = .ok (.getfield 18, 3) := dq_180 dp_cX7_pull rfl
theorem dX7_pull_66 : decode cX7_pull 66 = .ok (.iload_n 1, 1) := dq_27 dp_cX7_pull rfl
theorem dX7_pull_67 : decode cX7_pull 67 = .ok (.iload_n 2, 1) := dq_28 dp_cX7_pull rfl
theorem dX7_pull_68 : decode cX7_pull 68 = .ok (.iload_n 3, 1) := dq_29 dp_cX7_pull rfl
theorem dX7_pull_69 : decode cX7_pull 69 = .ok (.invokevirtual 126, 3) := dq_182 dp_cX7_pull rfl
theorem dX7_pull_72 : decode cX7_pull 72 = .ok (.ireturn, 1) := dq_172 dp_cX7_pull rfl
set_option maxRecDepth 20000 in
theorem gl_X7_pullOf_X00 : GoodIn wsX7_pullOf wsX00 := (dg_t (dg_r gw_wsX00))
theorem ggX7_pullOf_X0_pullAt : GoodIn wsX7_pullOf wsX0_pullAt := (dg_c 9 rfl rfl (dg_c 10 rfl rfl (dg_c 11 rfl rfl (dg_c 12 rfl rfl (dg_c 13 rfl rfl (dg_c 14 rfl rfl gl_X7_pullOf_X00))))))
set_option maxRecDepth 20000 in
theorem gX7_pullOf_X0_pullAt : GoodIn wsX7_pullOf (wsV RX7 100 RX0 yX0_pullAt wsX0_pullAt) := goodIn_app (dg_c 5 rfl rfl (dg_c 6 rfl rfl (dg_c 7 rfl rfl (dg_c 8 rfl rfl dg_0)))) ggX7_pullOf_X0_pullAt
set_option maxRecDepth 20000 in
theorem gl_X7_pullOf_X70 : GoodIn wsX7_pullOf wsX70 := (dg_t (dg_l (dg_l (dg_r gw_wsX70))))
theorem ggX7_pullOf_X7_refuse : GoodIn wsX7_pullOf wsX7_refuse := (dg_c 18 rfl rfl (dg_c 19 rfl rfl (dg_c 20 rfl rfl (dg_c 12 rfl rfl (dg_c 13 rfl rfl (dg_c 14 rfl rfl gl_X7_pullOf_X70))))))
set_option maxRecDepth 20000 in
theorem gX7_pullOf_X7_refuse : GoodIn wsX7_pullOf (wsV RX7 63 RX7 yX7_refuse wsX7_refuse) := goodIn_app (dg_c 15 rfl rfl (dg_c 16 rfl rfl (dg_c 17 rfl rfl (dg_c 13 rfl rfl dg_0)))) ggX7_pullOf_X7_refuse
set_option maxRecDepth 20000 in
theorem gl_X7_pullOf_X20 : GoodIn wsX7_pullOf wsX20 := (dg_t (dg_l (dg_r gw_wsX20)))
theorem ggX7_pullOf_X2_step : GoodIn wsX7_pullOf wsX2_step := (dg_c 25 rfl rfl (dg_c 26 rfl rfl (dg_c 27 rfl rfl gl_X7_pullOf_X20)))
set_option maxRecDepth 20000 in
theorem gX7_pullOf_X2_step : GoodIn wsX7_pullOf (wsV RX7 113 RX2 yX2_step wsX2_step) := goodIn_app (dg_c 21 rfl rfl (dg_c 22 rfl rfl (dg_c 23 rfl rfl (dg_c 24 rfl rfl dg_0)))) ggX7_pullOf_X2_step
set_option maxRecDepth 20000 in
theorem ggX7_pullOf_X0_mayBe : GoodIn wsX7_pullOf wsX0_mayBe := (dg_c 31 rfl rfl (dg_c 32 rfl rfl (dg_c 33 rfl rfl (dg_c 34 rfl rfl (dg_c 35 rfl rfl (dg_c 36 rfl rfl (dg_c 24 rfl rfl (dg_c 37 rfl rfl (dg_c 38 rfl rfl (goodIn_app gl_X7_pullOf_X00 gl_X7_pullOf_X20))))))))))
set_option maxRecDepth 20000 in
theorem gX7_pullOf_X0_mayBe : GoodIn wsX7_pullOf (wsV RX7 136 RX0 yX0_mayBe wsX0_mayBe) := goodIn_app (dg_c 28 rfl rfl (dg_c 29 rfl rfl (dg_c 30 rfl rfl (dg_c 8 rfl rfl dg_0)))) ggX7_pullOf_X0_mayBe
theorem dX7_pullOf_0 : decode cX7_pullOf 0 = .ok (.aload_n 0, 1) := dq_42 dp_cX7_pullOf rfl
theorem dX7_pullOf_1 : decode cX7_pullOf 1 = .ok (.getfield 18, 3) := dq_180 dp_cX7_pullOf rfl
theorem dX7_pullOf_4 : decode cX7_pullOf 4 = .ok (.iload_n 1, 1) := dq_27 dp_cX7_pullOf rfl
theorem dX7_pullOf_5 : decode cX7_pullOf 5 = .ok (.invokevirtual 100, 3) := dq_182 dp_cX7_pullOf rfl
theorem dX7_pullOf_8 : decode cX7_pullOf 8 = .ok (.astore_n 3, 1) := dq_78 dp_cX7_pullOf rfl
theorem dX7_pullOf_9 : decode cX7_pullOf 9 = .ok (.aload_n 3, 1) := dq_45 dp_cX7_pullOf rfl
theorem dX7_pullOf_10 : decode cX7_pullOf 10 = .ok (.ifnonnull 9, 3) := dq_199 (v := 9) dp_cX7_pullOf rfl rfl
theorem dX7_pullOf_13 : decode cX7_pullOf 13 = .ok (.aload_n 0, 1) := dq_42 dp_cX7_pullOf rfl
theorem dX7_pullOf_14 : decode cX7_pullOf 14 = .ok (.iconst 5, 1) := dq_8 dp_cX7_pullOf rfl
theorem dX7_pullOf_15 : decode cX7_pullOf 15 = .ok (.invokevirtual 63, 3) := dq_182 dp_cX7_pullOf rfl
theorem dX7_pullOf_18 : decode cX7_pullOf 18 = .ok (.ireturn, 1) := dq_172 dp_cX7_pullOf rfl
theorem dX7_pullOf_19 : decode cX7_pullOf 19 = .ok (.iload_n 2, 1) := dq_28 dp_cX7_pullOf rfl
theorem dX7_pullOf_20 : decode cX7_pullOf 20 = .ok (.tableswitch 73 0 4 #[36, 41, 46, 51, 56], 36) := by decide +kernel
theorem dX7_pullOf_56 : decode cX7_pullOf 56 = .ok (.aload_n 3, 1) := dq_45 dp_cX7_pullOf rfl
theorem dX7_pullOf_57 : decode cX7_pullOf 57 = .ok (.getfield 130, 3) := dq_180 dp_cX7_pullOf rfl
theorem dX7_pullOf_60 : decode cX7_pullOf 60 = .ok (.ireturn, 1) := dq_172 dp_cX7_pullOf rfl
theorem dX7_pullOf_61 : decode cX7_pullOf 61 = .ok (.aload_n 3, 1) := dq_45 dp_cX7_pullOf rfl
theorem dX7_pullOf_62 : decode cX7_pullOf 62 = .ok (.getfield 133, 3) := dq_180 dp_cX7_pullOf rfl
theorem dX7_pullOf_65 : decode cX7_pullOf 65 = .ok (.ireturn, 1) := dq_172 dp_cX7_pullOf rfl
theorem dX7_pullOf_66 : decode cX7_pullOf 66 = .ok (.aload_n 3, 1) := dq_45 dp_cX7_pullOf rfl
theorem dX7_pullOf_67 : decode cX7_pullOf 67 = .ok (.getfield 110, 3) := dq_180 dp_cX7_pullOf rfl
theorem dX7_pullOf_70 : decode cX7_pullOf 70 = .ok (.ireturn, 1) := dq_172 dp_cX7_pullOf rfl
theorem dX7_pullOf_71 : decode cX7_pullOf 71 = .ok (.aload_n 3, 1) := dq_45 dp_cX7_pullOf rfl
theorem dX7_pullOf_72 : decode cX7_pullOf 72 = .ok (.invokevirtual 113, 3) := dq_182 dp_cX7_pullOf rfl
theorem dX7_pullOf_75 : decode cX7_pullOf 75 = .ok (.ireturn, 1) := dq_172 dp_cX7_pullOf rfl
theorem dX7_pullOf_76 : decode cX7_pullOf 76 = .ok (.aload_n 0, 1) := dq_42 dp_cX7_pullOf rfl
theorem dX7_pullOf_77 : decode cX7_pullOf 77 = .ok (.getfield 18, 3) := dq_180 dp_cX7_pullOf rfl
theorem dX7_pullOf_80 : decode cX7_pullOf 80 = .ok (.aload_n 3, 1) := dq_45 dp_cX7_pullOf rfl
theorem dX7_pullOf_81 : decode cX7_pullOf 81 = .ok (.invokevirtual 136, 3) := dq_182 dp_cX7_pullOf rfl
theorem dX7_pullOf_84 : decode cX7_pullOf 84 = .ok (.ifCond .eq 7, 3) := dq_153 (v := 7) dp_cX7_pullOf rfl rfl
theorem dX7_pullOf_87 : decode cX7_pullOf 87 = .ok (.iconst 1, 1) := dq_4 dp_cX7_pullOf rfl
theorem dX7_pullOf_88 : decode cX7_pullOf 88 = .ok (.goto 4, 3) := dq_167 (v := 4) dp_cX7_pullOf rfl rfl
theorem dX7_pullOf_91 : decode cX7_pullOf 91 = .ok (.iconst 0, 1) := dq_3 dp_cX7_pullOf rfl
theorem dX7_pullOf_92 : decode cX7_pullOf 92 = .ok (.ireturn, 1) := dq_172 dp_cX7_pullOf rfl
theorem dX7_pullOf_93 : decode cX7_pullOf 93 = .ok (.aload_n 0, 1) := dq_42 dp_cX7_pullOf rfl
theorem dX7_pullOf_94 : decode cX7_pullOf 94 = .ok (.iconst 5, 1) := dq_8 dp_cX7_pullOf rfl
theorem dX7_pullOf_95 : decode cX7_pullOf 95 = .ok (.invokevirtual 63, 3) := dq_182 dp_cX7_pullOf rfl
theorem dX7_pullOf_98 : decode cX7_pullOf 98 = .ok (.ireturn, 1) := dq_172 dp_cX7_pullOf rfl
set_option maxRecDepth 20000 in
theorem ggX7_teeth_X7_within : GoodIn wsX7_teeth wsX7_within := (dg_c 7 rfl rfl dg_0)
set_option maxRecDepth 20000 in
theorem gX7_teeth_X7_within : GoodIn wsX7_teeth (va_wsS RX7 67 yX7_within wsX7_within) := goodIn_app (dg_c 4 rfl rfl (dg_c 5 rfl rfl (dg_c 6 rfl rfl dg_0))) ggX7_teeth_X7_within
set_option maxRecDepth 20000 in
theorem gl_X7_teeth_X70 : GoodIn wsX7_teeth wsX70 := (dg_t (dg_t (dg_t (dg_t (dg_t (dg_t (dg_t (dg_t (dg_t (dg_t (dg_t (dg_t (dg_t (dg_t (dg_t (dg_t (dg_t (dg_t (dg_t (dg_t (dg_t (dg_t (dg_l (dg_l gw_wsX70))))))))))))))))))))))))
theorem ggX7_teeth_X7_refuse : GoodIn wsX7_teeth wsX7_refuse := (dg_c 11 rfl rfl (dg_c 12 rfl rfl (dg_c 4 rfl rfl (dg_c 5 rfl rfl (dg_c 6 rfl rfl (dg_c 7 rfl rfl gl_X7_teeth_X70))))))
set_option maxRecDepth 20000 in
theorem gX7_teeth_X7_refuse : GoodIn wsX7_teeth (wsV RX7 63 RX7 yX7_refuse wsX7_refuse) := goodIn_app (dg_c 8 rfl rfl (dg_c 9 rfl rfl (dg_c 10 rfl rfl (dg_c 6 rfl rfl dg_0)))) ggX7_teeth_X7_refuse
set_option maxRecDepth 20000 in
theorem gl_X7_teeth_X60 : GoodIn wsX7_teeth wsX60 := (dg_t (dg_t (dg_t (dg_t (dg_t (dg_t (dg_t (dg_t (dg_t (dg_t (dg_t (dg_t (dg_t (dg_t (dg_t (dg_t (dg_t (dg_t (dg_t (dg_t (dg_t (dg_t (dg_r gw_wsX60)))))))))))))))))))))))
theorem ggX7_teeth_X6_renew : GoodIn wsX7_teeth wsX6_renew := (dg_c 17 rfl rfl (dg_c 18 rfl rfl (dg_c 19 rfl rfl (dg_c 20 rfl rfl (dg_c 21 rfl rfl gl_X7_teeth_X60)))))
set_option maxRecDepth 20000 in
theorem gX7_teeth_X6_renew : GoodIn wsX7_teeth (wsV RX7 149 RX6 yX6_renew wsX6_renew) := goodIn_app (dg_c 13 rfl rfl (dg_c 14 rfl rfl (dg_c 15 rfl rfl (dg_c 16 rfl rfl dg_0)))) ggX7_teeth_X6_renew
theorem dX7_teeth_0 : decode cX7_teeth 0 = .ok (.iload_n 1, 1) := dq_27 dp_cX7_teeth rfl
theorem dX7_teeth_1 : decode cX7_teeth 1 = .ok (.iconst 4, 1) := dq_7 dp_cX7_teeth rfl
theorem dX7_teeth_2 : decode cX7_teeth 2 = .ok (.bipush 40, 2) := dq_16 (v := 40) dp_cX7_teeth rfl rfl
theorem dX7_teeth_4 : decode cX7_teeth 4 = .ok (.invokestatic 67, 3) := dq_184 dp_cX7_teeth rfl
theorem dX7_teeth_7 : decode cX7_teeth 7 = .ok (.ifCond .ne 10, 3) := dq_154 (v := 10) dp_cX7_teeth rfl rfl
theorem dX7_teeth_10 : decode cX7_teeth 10 = .ok (.aload_n 0, 1) := dq_42 dp_cX7_teeth rfl
theorem dX7_teeth_11 : decode cX7_teeth 11 = .ok (.bipush 6, 2) := dq_16 (v := 6) dp_cX7_teeth rfl rfl
theorem dX7_teeth_13 : decode cX7_teeth 13 = .ok (.invokevirtual 63, 3) := dq_182 dp_cX7_teeth rfl
theorem dX7_teeth_16 : decode cX7_teeth 16 = .ok (.ireturn, 1) := dq_172 dp_cX7_teeth rfl
theorem dX7_teeth_17 : decode cX7_teeth 17 = .ok (.aload_n 0, 1) := dq_42 dp_cX7_teeth rfl
theorem dX7_teeth_18 : decode cX7_teeth 18 = .ok (.getfield 18, 3) := dq_180 dp_cX7_teeth rfl
theorem dX7_teeth_21 : decode cX7_teeth 21 = .ok (.getfield 140, 3) := dq_180 dp_cX7_teeth rfl
theorem dX7_teeth_24 : decode cX7_teeth 24 = .ok (.getfield 144, 3) := dq_180 dp_cX7_teeth rfl
theorem dX7_teeth_27 : decode cX7_teeth 27 = .ok (.istore_n 2, 1) := dq_61 dp_cX7_teeth rfl
theorem dX7_teeth_28 : decode cX7_teeth 28 = .ok (.aload_n 0, 1) := dq_42 dp_cX7_teeth rfl
theorem dX7_teeth_29 : decode cX7_teeth 29 = .ok (.getfield 18, 3) := dq_180 dp_cX7_teeth rfl
theorem dX7_teeth_32 : decode cX7_teeth 32 = .ok (.getfield 140, 3) := dq_180 dp_cX7_teeth rfl
theorem dX7_teeth_35 : decode cX7_teeth 35 = .ok (.iload_n 1, 1) := dq_27 dp_cX7_teeth rfl
theorem dX7_teeth_36 : decode cX7_teeth 36 = .ok (.invokevirtual 149, 3) := dq_182 dp_cX7_teeth rfl
theorem dX7_teeth_39 : decode cX7_teeth 39 = .ok (.iload_n 2, 1) := dq_28 dp_cX7_teeth rfl
theorem dX7_teeth_40 : decode cX7_teeth 40 = .ok (.ireturn, 1) := dq_172 dp_cX7_teeth rfl
set_option maxRecDepth 20000 in
theorem gl_X7_lack_X60 : GoodIn wsX7_lack wsX60 := (dg_t (dg_t (dg_t (dg_t (dg_t (dg_t (dg_t (dg_t (dg_t (dg_t (dg_t (dg_t (dg_t (dg_t (dg_t (dg_t (dg_t (dg_t (dg_t (dg_r gw_wsX60))))))))))))))))))))
theorem ggX7_lack_X6_has : GoodIn wsX7_lack wsX6_has := (dg_c 8 rfl rfl (dg_c 9 rfl rfl gl_X7_lack_X60))
set_option maxRecDepth 20000 in
theorem gX7_lack_X6_has : GoodIn wsX7_lack (wsV RX7 153 RX6 yX6_has wsX6_has) := goodIn_app (dg_c 4 rfl rfl (dg_c 5 rfl rfl (dg_c 6 rfl rfl (dg_c 7 rfl rfl dg_0)))) ggX7_lack_X6_has
set_option maxRecDepth 20000 in
theorem gl_X7_lack_X70 : GoodIn wsX7_lack wsX70 := (dg_t (dg_t (dg_t (dg_t (dg_t (dg_t (dg_t (dg_t (dg_t (dg_t (dg_t (dg_t (dg_t (dg_t (dg_t (dg_t (dg_t (dg_t (dg_t (dg_l (dg_l gw_wsX70)))))))))))))))))))))
theorem ggX7_lack_X7_refuse : GoodIn wsX7_lack wsX7_refuse := (dg_c 14 rfl rfl (dg_c 15 rfl rfl (dg_c 16 rfl rfl (dg_c 17 rfl rfl (dg_c 13 rfl rfl (dg_c 18 rfl rfl gl_X7_lack_X70))))))
set_option maxRecDepth 20000 in
theorem gX7_lack_X7_refuse : GoodIn wsX7_lack (wsV RX7 63 RX7 yX7_refuse wsX7_refuse) := goodIn_app (dg_c 10 rfl rfl (dg_c 11 rfl rfl (dg_c 12 rfl rfl (dg_c 13 rfl rfl dg_0)))) ggX7_lack_X7_refuse
theorem dX7_lack_0 : decode cX7_lack 0 = .ok (.aload_n 0, 1) := dq_42 dp_cX7_lack rfl
theorem dX7_lack_1 : decode cX7_lack 1 = .ok (.getfield 18, 3) := dq_180 dp_cX7_lack rfl
theorem dX7_lack_4 : decode cX7_lack 4 = .ok (.getfield 140, 3) := dq_180 dp_cX7_lack rfl
theorem dX7_lack_7 : decode cX7_lack 7 = .ok (.iload_n 1, 1) := dq_27 dp_cX7_lack rfl
theorem dX7_lack_8 : decode cX7_lack 8 = .ok (.invokevirtual 153, 3) := dq_182 dp_cX7_lack rfl
theorem dX7_lack_11 : decode cX7_lack 11 = .ok (.ifCond .ne 9, 3) := dq_154 (v := 9) dp_cX7_lack rfl rfl
theorem dX7_lack_14 : decode cX7_lack 14 = .ok (.aload_n 0, 1) := dq_42 dp_cX7_lack rfl
theorem dX7_lack_15 : decode cX7_lack 15 = .ok (.iconst 1, 1) := dq_4 dp_cX7_lack rfl
theorem dX7_lack_16 : decode cX7_lack 16 = .ok (.invokevirtual 63, 3) := dq_182 dp_cX7_lack rfl
theorem dX7_lack_19 : decode cX7_lack 19 = .ok (.ireturn, 1) := dq_172 dp_cX7_lack rfl
theorem dX7_lack_20 : decode cX7_lack 20 = .ok (.aload_n 0, 1) := dq_42 dp_cX7_lack rfl
theorem dX7_lack_21 : decode cX7_lack 21 = .ok (.getfield 18, 3) := dq_180 dp_cX7_lack rfl
theorem dX7_lack_24 : decode cX7_lack 24 = .ok (.getfield 140, 3) := dq_180 dp_cX7_lack rfl
theorem dX7_lack_27 : decode cX7_lack 27 = .ok (.getfield 156, 3) := dq_180 dp_cX7_lack rfl
theorem dX7_lack_30 : decode cX7_lack 30 = .ok (.iload_n 1, 1) := dq_27 dp_cX7_lack rfl
theorem dX7_lack_31 : decode cX7_lack 31 = .ok (.baload, 1) := dq_51 dp_cX7_lack rfl
theorem dX7_lack_32 : decode cX7_lack 32 = .ok (.istore_n 3, 1) := dq_62 dp_cX7_lack rfl
theorem dX7_lack_33 : decode cX7_lack 33 = .ok (.aload_n 0, 1) := dq_42 dp_cX7_lack rfl
theorem dX7_lack_34 : decode cX7_lack 34 = .ok (.getfield 18, 3) := dq_180 dp_cX7_lack rfl
theorem dX7_lack_37 : decode cX7_lack 37 = .ok (.getfield 140, 3) := dq_180 dp_cX7_lack rfl
theorem dX7_lack_40 : decode cX7_lack 40 = .ok (.getfield 156, 3) := dq_180 dp_cX7_lack rfl
theorem dX7_lack_43 : decode cX7_lack 43 = .ok (.iload_n 1, 1) := dq_27 dp_cX7_lack rfl
theorem dX7_lack_44 : decode cX7_lack 44 = .ok (.iload_n 2, 1) := dq_28 dp_cX7_lack rfl
theorem dX7_lack_45 : decode cX7_lack 45 = .ok (.bastore, 1) := dq_84 dp_cX7_lack rfl
theorem dX7_lack_46 : decode cX7_lack 46 = .ok (.iload_n 3, 1) := dq_29 dp_cX7_lack rfl
theorem dX7_lack_47 : decode cX7_lack 47 = .ok (.ifCond .eq 7, 3) := dq_153 (v := 7) dp_cX7_lack rfl rfl
theorem dX7_lack_50 : decode cX7_lack 50 = .ok (.iconst 1, 1) := dq_4 dp_cX7_lack rfl
theorem dX7_lack_51 : decode cX7_lack 51 = .ok (.goto 4, 3) := dq_167 (v := 4) dp_cX7_lack rfl rfl
theorem dX7_lack_54 : decode cX7_lack 54 = .ok (.iconst 0, 1) := dq_3 dp_cX7_lack rfl
theorem dX7_lack_55 : decode cX7_lack 55 = .ok (.ireturn, 1) := dq_172 dp_cX7_lack rfl
set_option maxRecDepth 20000 in
theorem gl_X7_slack_X60 : GoodIn wsX7_slack wsX60 := (dg_t (dg_t (dg_t (dg_t (dg_t (dg_t (dg_t (dg_t (dg_t (dg_t (dg_t (dg_t (dg_t (dg_t (dg_t (dg_t (dg_t (dg_t (dg_t (dg_r gw_wsX60))))))))))))))))))))
theorem ggX7_slack_X6_has : GoodIn wsX7_slack wsX6_has := (dg_c 8 rfl rfl (dg_c 9 rfl rfl gl_X7_slack_X60))
set_option maxRecDepth 20000 in
theorem gX7_slack_X6_has : GoodIn wsX7_slack (wsV RX7 153 RX6 yX6_has wsX6_has) := goodIn_app (dg_c 4 rfl rfl (dg_c 5 rfl rfl (dg_c 6 rfl rfl (dg_c 7 rfl rfl dg_0)))) ggX7_slack_X6_has
set_option maxRecDepth 20000 in
theorem gl_X7_slack_X70 : GoodIn wsX7_slack wsX70 := (dg_t (dg_t (dg_t (dg_t (dg_t (dg_t (dg_t (dg_t (dg_t (dg_t (dg_t (dg_t (dg_t (dg_t (dg_t (dg_t (dg_t (dg_t (dg_t (dg_l (dg_l gw_wsX70)))))))))))))))))))))
theorem ggX7_slack_X7_refuse : GoodIn wsX7_slack wsX7_refuse := (dg_c 14 rfl rfl (dg_c 15 rfl rfl (dg_c 16 rfl rfl (dg_c 17 rfl rfl (dg_c 13 rfl rfl (dg_c 18 rfl rfl gl_X7_slack_X70))))))
set_option maxRecDepth 20000 in
theorem gX7_slack_X7_refuse : GoodIn wsX7_slack (wsV RX7 63 RX7 yX7_refuse wsX7_refuse) := goodIn_app (dg_c 10 rfl rfl (dg_c 11 rfl rfl (dg_c 12 rfl rfl (dg_c 13 rfl rfl dg_0)))) ggX7_slack_X7_refuse
set_option maxRecDepth 20000 in
theorem ggX7_slack_X7_within : GoodIn wsX7_slack wsX7_within := (dg_c 18 rfl rfl dg_0)
set_option maxRecDepth 20000 in
theorem gX7_slack_X7_within : GoodIn wsX7_slack (va_wsS RX7 67 yX7_within wsX7_within) := goodIn_app (dg_c 16 rfl rfl (dg_c 17 rfl rfl (dg_c 13 rfl rfl dg_0))) ggX7_slack_X7_within
theorem dX7_slack_0 : decode cX7_slack 0 = .ok (.aload_n 0, 1) := dq_42 dp_cX7_slack rfl
theorem dX7_slack_1 : decode cX7_slack 1 = .ok (.getfield 18, 3) := dq_180 dp_cX7_slack rfl
theorem dX7_slack_4 : decode cX7_slack 4 = .ok (.getfield 140, 3) := dq_180 dp_cX7_slack rfl
theorem dX7_slack_7 : decode cX7_slack 7 = .ok (.iload_n 1, 1) := dq_27 dp_cX7_slack rfl
theorem dX7_slack_8 : decode cX7_slack 8 = .ok (.invokevirtual 153, 3) := dq_182 dp_cX7_slack rfl
theorem dX7_slack_11 : decode cX7_slack 11 = .ok (.ifCond .ne 9, 3) := dq_154 (v := 9) dp_cX7_slack rfl rfl
theorem dX7_slack_14 : decode cX7_slack 14 = .ok (.aload_n 0, 1) := dq_42 dp_cX7_slack rfl
theorem dX7_slack_15 : decode cX7_slack 15 = .ok (.iconst 1, 1) := dq_4 dp_cX7_slack rfl
theorem dX7_slack_16 : decode cX7_slack 16 = .ok (.invokevirtual 63, 3) := dq_182 dp_cX7_slack rfl
theorem dX7_slack_19 : decode cX7_slack 19 = .ok (.ireturn, 1) := dq_172 dp_cX7_slack rfl
theorem dX7_slack_20 : decode cX7_slack 20 = .ok (.iload_n 2, 1) := dq_28 dp_cX7_slack rfl
theorem dX7_slack_21 : decode cX7_slack 21 = .ok (.iconst 0, 1) := dq_3 dp_cX7_slack rfl
theorem dX7_slack_22 : decode cX7_slack 22 = .ok (.bipush 9, 2) := dq_16 (v := 9) dp_cX7_slack rfl rfl
theorem dX7_slack_24 : decode cX7_slack 24 = .ok (.invokestatic 67, 3) := dq_184 dp_cX7_slack rfl
theorem dX7_slack_27 : decode cX7_slack 27 = .ok (.ifCond .ne 10, 3) := dq_154 (v := 10) dp_cX7_slack rfl rfl
theorem dX7_slack_30 : decode cX7_slack 30 = .ok (.aload_n 0, 1) := dq_42 dp_cX7_slack rfl
theorem dX7_slack_31 : decode cX7_slack 31 = .ok (.bipush 6, 2) := dq_16 (v := 6) dp_cX7_slack rfl rfl
theorem dX7_slack_33 : decode cX7_slack 33 = .ok (.invokevirtual 63, 3) := dq_182 dp_cX7_slack rfl
theorem dX7_slack_36 : decode cX7_slack 36 = .ok (.ireturn, 1) := dq_172 dp_cX7_slack rfl
theorem dX7_slack_37 : decode cX7_slack 37 = .ok (.aload_n 0, 1) := dq_42 dp_cX7_slack rfl
theorem dX7_slack_38 : decode cX7_slack 38 = .ok (.getfield 18, 3) := dq_180 dp_cX7_slack rfl
theorem dX7_slack_41 : decode cX7_slack 41 = .ok (.getfield 140, 3) := dq_180 dp_cX7_slack rfl
theorem dX7_slack_44 : decode cX7_slack 44 = .ok (.getfield 160, 3) := dq_180 dp_cX7_slack rfl
theorem dX7_slack_47 : decode cX7_slack 47 = .ok (.iload_n 1, 1) := dq_27 dp_cX7_slack rfl
theorem dX7_slack_48 : decode cX7_slack 48 = .ok (.iaload, 1) := dq_46 dp_cX7_slack rfl
theorem dX7_slack_49 : decode cX7_slack 49 = .ok (.istore_n 3, 1) := dq_62 dp_cX7_slack rfl
theorem dX7_slack_50 : decode cX7_slack 50 = .ok (.aload_n 0, 1) := dq_42 dp_cX7_slack rfl
theorem dX7_slack_51 : decode cX7_slack 51 = .ok (.getfield 18, 3) := dq_180 dp_cX7_slack rfl
theorem dX7_slack_54 : decode cX7_slack 54 = .ok (.getfield 140, 3) := dq_180 dp_cX7_slack rfl
theorem dX7_slack_57 : decode cX7_slack 57 = .ok (.getfield 160, 3) := dq_180 dp_cX7_slack rfl
theorem dX7_slack_60 : decode cX7_slack 60 = .ok (.iload_n 1, 1) := dq_27 dp_cX7_slack rfl
theorem dX7_slack_61 : decode cX7_slack 61 = .ok (.iload_n 2, 1) := dq_28 dp_cX7_slack rfl
theorem dX7_slack_62 : decode cX7_slack 62 = .ok (.iastore, 1) := dq_79 dp_cX7_slack rfl
theorem dX7_slack_63 : decode cX7_slack 63 = .ok (.iload_n 3, 1) := dq_29 dp_cX7_slack rfl
theorem dX7_slack_64 : decode cX7_slack 64 = .ok (.ireturn, 1) := dq_172 dp_cX7_slack rfl
set_option maxRecDepth 20000 in
theorem ggX7_ask_X7_within : GoodIn wsX7_ask wsX7_within := (dg_c 5 rfl rfl dg_0)
set_option maxRecDepth 20000 in
theorem gX7_ask_X7_within : GoodIn wsX7_ask (va_wsS RX7 67 yX7_within wsX7_within) := goodIn_app (dg_c 2 rfl rfl (dg_c 3 rfl rfl (dg_c 4 rfl rfl dg_0))) ggX7_ask_X7_within
set_option maxRecDepth 20000 in
theorem ggX7_ask_X0_leastOf : GoodIn wsX7_ask wsX0_leastOf := (dg_c 9 rfl rfl dg_0)
set_option maxRecDepth 20000 in
theorem gX7_ask_X0_leastOf : GoodIn wsX7_ask (va_wsS RX7 163 yX0_leastOf wsX0_leastOf) := goodIn_app (dg_c 6 rfl rfl (dg_c 7 rfl rfl (dg_c 8 rfl rfl dg_0))) ggX7_ask_X0_leastOf
set_option maxRecDepth 20000 in
theorem gl_X7_ask_X00 : GoodIn wsX7_ask wsX00 := (dg_t (dg_l (dg_r gw_wsX00)))
theorem gl_X7_ask_X60 : GoodIn wsX7_ask wsX60 := (dg_t (dg_r gw_wsX60))
theorem ggX7_ask_X0_mostOf : GoodIn wsX7_ask wsX0_mostOf := (dg_c 13 rfl rfl (dg_c 14 rfl rfl (dg_c 15 rfl rfl (goodIn_app gl_X7_ask_X00 gl_X7_ask_X60))))
set_option maxRecDepth 20000 in
theorem gX7_ask_X0_mostOf : GoodIn wsX7_ask (wsV RX7 166 RX0 yX0_mostOf wsX0_mostOf) := goodIn_app (dg_c 10 rfl rfl (dg_c 11 rfl rfl (dg_c 12 rfl rfl (dg_c 8 rfl rfl dg_0)))) ggX7_ask_X0_mostOf
set_option maxRecDepth 20000 in
theorem gl_X7_ask_X70 : GoodIn wsX7_ask wsX70 := (dg_t (dg_l (dg_l (dg_r gw_wsX70))))
theorem ggX7_ask_X7_refuse : GoodIn wsX7_ask wsX7_refuse := (dg_c 19 rfl rfl (dg_c 20 rfl rfl (dg_c 2 rfl rfl (dg_c 3 rfl rfl (dg_c 4 rfl rfl (dg_c 5 rfl rfl gl_X7_ask_X70))))))
set_option maxRecDepth 20000 in
theorem gX7_ask_X7_refuse : GoodIn wsX7_ask (wsV RX7 63 RX7 yX7_refuse wsX7_refuse) := goodIn_app (dg_c 16 rfl rfl (dg_c 17 rfl rfl (dg_c 18 rfl rfl (dg_c 4 rfl rfl dg_0)))) ggX7_ask_X7_refuse
set_option maxRecDepth 20000 in
theorem ggX7_ask_X0_number : GoodIn wsX7_ask wsX0_number := (dg_c 24 rfl rfl (dg_c 25 rfl rfl (dg_c 26 rfl rfl (dg_c 27 rfl rfl (dg_c 14 rfl rfl (dg_c 28 rfl rfl (dg_c 29 rfl rfl (dg_c 30 rfl rfl (dg_c 3 rfl rfl (dg_c 4 rfl rfl (dg_c 5 rfl rfl (goodIn_app gl_X7_ask_X00 gl_X7_ask_X60))))))))))))
set_option maxRecDepth 20000 in
theorem gX7_ask_X0_number : GoodIn wsX7_ask (wsV RX7 169 RX0 yX0_number wsX0_number) := goodIn_app (dg_c 21 rfl rfl (dg_c 22 rfl rfl (dg_c 23 rfl rfl (dg_c 8 rfl rfl dg_0)))) ggX7_ask_X0_number
set_option maxRecDepth 20000 in
theorem ggX7_ask_X0_setNumber : GoodIn wsX7_ask wsX0_setNumber := (dg_c 34 rfl rfl (dg_c 25 rfl rfl (dg_c 26 rfl rfl (dg_c 27 rfl rfl (dg_c 14 rfl rfl (dg_c 28 rfl rfl (dg_c 29 rfl rfl (dg_c 30 rfl rfl (dg_c 3 rfl rfl (dg_c 4 rfl rfl (dg_c 5 rfl rfl (goodIn_app gl_X7_ask_X00 gl_X7_ask_X60))))))))))))
set_option maxRecDepth 20000 in
theorem gX7_ask_X0_setNumber : GoodIn wsX7_ask (wsV RX7 172 RX0 yX0_setNumber wsX0_setNumber) := goodIn_app (dg_c 31 rfl rfl (dg_c 32 rfl rfl (dg_c 33 rfl rfl (dg_c 8 rfl rfl dg_0)))) ggX7_ask_X0_setNumber
theorem dX7_ask_0 : decode cX7_ask 0 = .ok (.iload_n 1, 1) := dq_27 dp_cX7_ask rfl
theorem dX7_ask_1 : decode cX7_ask 1 = .ok (.iconst 0, 1) := dq_3 dp_cX7_ask rfl
theorem dX7_ask_2 : decode cX7_ask 2 = .ok (.bipush 7, 2) := dq_16 (v := 7) dp_cX7_ask rfl rfl
theorem dX7_ask_4 : decode cX7_ask 4 = .ok (.invokestatic 67, 3) := dq_184 dp_cX7_ask rfl
theorem dX7_ask_7 : decode cX7_ask 7 = .ok (.ifCond .eq 22, 3) := dq_153 (v := 22) dp_cX7_ask rfl rfl
theorem dX7_ask_10 : decode cX7_ask 10 = .ok (.iload_n 2, 1) := dq_28 dp_cX7_ask rfl
theorem dX7_ask_11 : decode cX7_ask 11 = .ok (.iload_n 1, 1) := dq_27 dp_cX7_ask rfl
theorem dX7_ask_12 : decode cX7_ask 12 = .ok (.invokestatic 163, 3) := dq_184 dp_cX7_ask rfl
theorem dX7_ask_15 : decode cX7_ask 15 = .ok (.aload_n 0, 1) := dq_42 dp_cX7_ask rfl
theorem dX7_ask_16 : decode cX7_ask 16 = .ok (.getfield 18, 3) := dq_180 dp_cX7_ask rfl
theorem dX7_ask_19 : decode cX7_ask 19 = .ok (.iload_n 1, 1) := dq_27 dp_cX7_ask rfl
theorem dX7_ask_20 : decode cX7_ask 20 = .ok (.invokevirtual 166, 3) := dq_182 dp_cX7_ask rfl
theorem dX7_ask_23 : decode cX7_ask 23 = .ok (.invokestatic 67, 3) := dq_184 dp_cX7_ask rfl
theorem dX7_ask_26 : decode cX7_ask 26 = .ok (.ifCond .ne 10, 3) := dq_154 (v := 10) dp_cX7_ask rfl rfl
theorem dX7_ask_29 : decode cX7_ask 29 = .ok (.aload_n 0, 1) := dq_42 dp_cX7_ask rfl
theorem dX7_ask_30 : decode cX7_ask 30 = .ok (.bipush 6, 2) := dq_16 (v := 6) dp_cX7_ask rfl rfl
theorem dX7_ask_32 : decode cX7_ask 32 = .ok (.invokevirtual 63, 3) := dq_182 dp_cX7_ask rfl
theorem dX7_ask_35 : decode cX7_ask 35 = .ok (.ireturn, 1) := dq_172 dp_cX7_ask rfl
theorem dX7_ask_36 : decode cX7_ask 36 = .ok (.aload_n 0, 1) := dq_42 dp_cX7_ask rfl
theorem dX7_ask_37 : decode cX7_ask 37 = .ok (.getfield 18, 3) := dq_180 dp_cX7_ask rfl
theorem dX7_ask_40 : decode cX7_ask 40 = .ok (.iload_n 1, 1) := dq_27 dp_cX7_ask rfl
theorem dX7_ask_41 : decode cX7_ask 41 = .ok (.invokevirtual 169, 3) := dq_182 dp_cX7_ask rfl
theorem dX7_ask_44 : decode cX7_ask 44 = .ok (.istore_n 3, 1) := dq_62 dp_cX7_ask rfl
theorem dX7_ask_45 : decode cX7_ask 45 = .ok (.aload_n 0, 1) := dq_42 dp_cX7_ask rfl
theorem dX7_ask_46 : decode cX7_ask 46 = .ok (.getfield 18, 3) := dq_180 dp_cX7_ask rfl
theorem dX7_ask_49 : decode cX7_ask 49 = .ok (.iload_n 1, 1) := dq_27 dp_cX7_ask rfl
theorem dX7_ask_50 : decode cX7_ask 50 = .ok (.iload_n 2, 1) := dq_28 dp_cX7_ask rfl
theorem dX7_ask_51 : decode cX7_ask 51 = .ok (.invokevirtual 172, 3) := dq_182 dp_cX7_ask rfl
theorem dX7_ask_54 : decode cX7_ask 54 = .ok (.iload_n 3, 1) := dq_29 dp_cX7_ask rfl
theorem dX7_ask_55 : decode cX7_ask 55 = .ok (.ireturn, 1) := dq_172 dp_cX7_ask rfl
set_option maxRecDepth 20000 in
theorem gl_X7_jacket_X70 : GoodIn wsX7_jacket wsX70 := (dg_t (dg_l (dg_l (dg_l (dg_l (dg_l (dg_r gw_wsX70)))))))
theorem ggX7_jacket_X7_shelfAt : GoodIn wsX7_jacket wsX7_shelfAt := (dg_c 12 rfl rfl (dg_c 13 rfl rfl (dg_c 14 rfl rfl (dg_c 15 rfl rfl (dg_c 11 rfl rfl (dg_c 16 rfl rfl gl_X7_jacket_X70))))))
set_option maxRecDepth 20000 in
theorem gX7_jacket_X7_shelfAt : GoodIn wsX7_jacket (wsV RX7 59 RX7 yX7_shelfAt wsX7_shelfAt) := goodIn_app (dg_c 8 rfl rfl (dg_c 9 rfl rfl (dg_c 10 rfl rfl (dg_c 11 rfl rfl dg_0)))) ggX7_jacket_X7_shelfAt
set_option maxRecDepth 20000 in
theorem ggX7_jacket_X7_refuse : GoodIn wsX7_jacket wsX7_refuse := (dg_c 20 rfl rfl (dg_c 21 rfl rfl (dg_c 14 rfl rfl (dg_c 15 rfl rfl (dg_c 11 rfl rfl (dg_c 16 rfl rfl gl_X7_jacket_X70))))))
set_option maxRecDepth 20000 in
theorem gX7_jacket_X7_refuse : GoodIn wsX7_jacket (wsV RX7 63 RX7 yX7_refuse wsX7_refuse) := goodIn_app (dg_c 17 rfl rfl (dg_c 18 rfl rfl (dg_c 19 rfl rfl (dg_c 11 rfl rfl dg_0)))) ggX7_jacket_X7_refuse
set_option maxRecDepth 20000 in
theorem gl_X7_jacket_X40 : GoodIn wsX7_jacket wsX40 := (dg_t (dg_l (dg_r gw_wsX40)))
theorem ggX7_jacket_X4_noRow : GoodIn wsX7_jacket wsX4_noRow := (dg_c 26 rfl rfl (dg_c 27 rfl rfl gl_X7_jacket_X40))
set_option maxRecDepth 20000 in
theorem gX7_jacket_X4_noRow : GoodIn wsX7_jacket (wsV RX7 75 RX4 yX4_noRow wsX4_noRow) := goodIn_app (dg_c 22 rfl rfl (dg_c 23 rfl rfl (dg_c 24 rfl rfl (dg_c 25 rfl rfl dg_0)))) ggX7_jacket_X4_noRow
set_option maxRecDepth 20000 in
theorem gl_X7_jacket_X30 : GoodIn wsX7_jacket wsX30 := (dg_t (dg_l (dg_l (dg_r gw_wsX30))))
theorem ggX7_jacket_X3_read : GoodIn wsX7_jacket wsX3_read := (dg_c 32 rfl rfl (goodIn_app (goodIn_app (goodIn_app (dg_c 33 rfl rfl (dg_c 34 rfl rfl (dg_c 35 rfl rfl (dg_c 36 rfl rfl (dg_c 37 rfl rfl (dg_c 38 rfl rfl (dg_c 39 rfl rfl (dg_c 40 rfl rfl (dg_c 41 rfl rfl (dg_c 31 rfl rfl (dg_c 42 rfl rfl (dg_c 43 rfl rfl (dg_c 44 rfl rfl (dg_c 45 rfl rfl (dg_c 46 rfl rfl (dg_c 47 rfl rfl (dg_c 48 rfl rfl (dg_c 49 rfl rfl (dg_c 50 rfl rfl (dg_c 51 rfl rfl (dg_c 25 rfl rfl (dg_c 52 rfl rfl (dg_c 53 rfl rfl (dg_c 54 rfl rfl dg_0)))))))))))))))))))))))) (goodIn_app (dg_c 55 rfl rfl (dg_c 56 rfl rfl (dg_c 57 rfl rfl (dg_c 58 rfl rfl (dg_c 59 rfl rfl (dg_c 60 rfl rfl (dg_c 61 rfl rfl (dg_c 62 rfl rfl (dg_c 63 rfl rfl (dg_c 64 rfl rfl (dg_c 65 rfl rfl (dg_c 66 rfl rfl (dg_c 67 rfl rfl (dg_c 68 rfl rfl (dg_c 69 rfl rfl (dg_c 70 rfl rfl (dg_c 71 rfl rfl (dg_c 72 rfl rfl (dg_c 73 rfl rfl (dg_c 74 rfl rfl (dg_c 75 rfl rfl (dg_c 76 rfl rfl (dg_c 77 rfl rfl (dg_c 78 rfl rfl dg_0)))))))))))))))))))))))) (goodIn_app (dg_c 79 rfl rfl (dg_c 80 rfl rfl (dg_c 81 rfl rfl (dg_c 82 rfl rfl (dg_c 83 rfl rfl (dg_c 84 rfl rfl (dg_c 85 rfl rfl (dg_c 86 rfl rfl (dg_c 87 rfl rfl (dg_c 88 rfl rfl (dg_c 89 rfl rfl (dg_c 90 rfl rfl (dg_c 91 rfl rfl (dg_c 92 rfl rfl (dg_c 93 rfl rfl (dg_c 94 rfl rfl (dg_c 95 rfl rfl (dg_c 96 rfl rfl (dg_c 97 rfl rfl (dg_c 98 rfl rfl (dg_c 99 rfl rfl (dg_c 100 rfl rfl (dg_c 101 rfl rfl (dg_c 102 rfl rfl dg_0)))))))))))))))))))))))) (goodIn_app (dg_c 103 rfl rfl (dg_c 104 rfl rfl (dg_c 105 rfl rfl (dg_c 106 rfl rfl (dg_c 107 rfl rfl (dg_c 108 rfl rfl (dg_c 109 rfl rfl (dg_c 110 rfl rfl (dg_c 111 rfl rfl (dg_c 112 rfl rfl (dg_c 113 rfl rfl (dg_c 114 rfl rfl (dg_c 115 rfl rfl (dg_c 116 rfl rfl (dg_c 117 rfl rfl (dg_c 118 rfl rfl (dg_c 119 rfl rfl (dg_c 120 rfl rfl (dg_c 121 rfl rfl (dg_c 122 rfl rfl (dg_c 123 rfl rfl (dg_c 124 rfl rfl (dg_c 125 rfl rfl (dg_c 126 rfl rfl dg_0)))))))))))))))))))))))) (goodIn_app (dg_c 127 rfl rfl (dg_c 128 rfl rfl (dg_c 129 rfl rfl (dg_c 130 rfl rfl (dg_c 131 rfl rfl (dg_c 132 rfl rfl (dg_c 133 rfl rfl (dg_c 134 rfl rfl (dg_c 135 rfl rfl (dg_c 136 rfl rfl (dg_c 137 rfl rfl (dg_c 138 rfl rfl (dg_c 139 rfl rfl (dg_c 140 rfl rfl (dg_c 141 rfl rfl (dg_c 142 rfl rfl (dg_c 143 rfl rfl (dg_c 144 rfl rfl (dg_c 145 rfl rfl (dg_c 146 rfl rfl (dg_c 147 rfl rfl (dg_c 148 rfl rfl (dg_c 149 rfl rfl (dg_c 150 rfl rfl dg_0)))))))))))))))))))))))) (dg_c 151 rfl rfl (dg_c 152 rfl rfl (dg_c 153 rfl rfl (dg_c 154 rfl rfl (dg_c 155 rfl rfl (dg_c 15 rfl rfl (dg_c 11 rfl rfl (dg_c 16 rfl rfl dg_0))))))))))))) gl_X7_jacket_X30) gl_X7_jacket_X40))
set_option maxRecDepth 20000 in
theorem gX7_jacket_X3_read : GoodIn wsX7_jacket (wsV RX7 175 RX3 yX3_read wsX3_read) := goodIn_app (dg_c 28 rfl rfl (dg_c 29 rfl rfl (dg_c 30 rfl rfl (dg_c 31 rfl rfl dg_0)))) ggX7_jacket_X3_read
set_option maxRecDepth 20000 in
theorem gl_X7_jacket_X00 : GoodIn wsX7_jacket wsX00 := (dg_t (dg_l (dg_l (dg_l (dg_l (dg_r gw_wsX00))))))
theorem gl_X7_jacket_X60 : GoodIn wsX7_jacket wsX60 := (dg_t (dg_l (dg_l (dg_l (dg_r gw_wsX60)))))
theorem gl_X7_jacket_X20 : GoodIn wsX7_jacket wsX20 := (dg_t (dg_r gw_wsX20))
theorem ggX7_jacket_X3_tell : GoodIn wsX7_jacket wsX3_tell := (dg_c 159 rfl rfl (goodIn_app (goodIn_app (goodIn_app (goodIn_app (goodIn_app (dg_c 37 rfl rfl (dg_c 160 rfl rfl (dg_c 161 rfl rfl (dg_c 162 rfl rfl (dg_c 31 rfl rfl (dg_c 163 rfl rfl (dg_c 63 rfl rfl (dg_c 164 rfl rfl (dg_c 165 rfl rfl (dg_c 166 rfl rfl (dg_c 167 rfl rfl (dg_c 168 rfl rfl (dg_c 169 rfl rfl (dg_c 170 rfl rfl (dg_c 171 rfl rfl (dg_c 172 rfl rfl (dg_c 173 rfl rfl (dg_c 174 rfl rfl (dg_c 175 rfl rfl (dg_c 176 rfl rfl (dg_c 177 rfl rfl (dg_c 178 rfl rfl (dg_c 179 rfl rfl (dg_c 180 rfl rfl dg_0)))))))))))))))))))))))) (goodIn_app (dg_c 181 rfl rfl (dg_c 182 rfl rfl (dg_c 183 rfl rfl (dg_c 184 rfl rfl (dg_c 185 rfl rfl (dg_c 186 rfl rfl (dg_c 187 rfl rfl (dg_c 188 rfl rfl (dg_c 189 rfl rfl (dg_c 190 rfl rfl (dg_c 191 rfl rfl (dg_c 192 rfl rfl (dg_c 193 rfl rfl (dg_c 194 rfl rfl (dg_c 195 rfl rfl (dg_c 196 rfl rfl (dg_c 197 rfl rfl (dg_c 198 rfl rfl (dg_c 199 rfl rfl (dg_c 200 rfl rfl (dg_c 201 rfl rfl (dg_c 202 rfl rfl (dg_c 203 rfl rfl (dg_c 204 rfl rfl dg_0)))))))))))))))))))))))) (dg_c 205 rfl rfl (dg_c 206 rfl rfl (dg_c 207 rfl rfl (dg_c 15 rfl rfl (dg_c 11 rfl rfl (dg_c 16 rfl rfl dg_0)))))))) gl_X7_jacket_X30) gl_X7_jacket_X00) gl_X7_jacket_X60) gl_X7_jacket_X20))
set_option maxRecDepth 20000 in
theorem gX7_jacket_X3_tell : GoodIn wsX7_jacket (wsV RX7 179 RX3 yX3_tell wsX3_tell) := goodIn_app (dg_c 156 rfl rfl (dg_c 157 rfl rfl (dg_c 158 rfl rfl (dg_c 31 rfl rfl dg_0)))) ggX7_jacket_X3_tell
theorem dX7_jacket_0 : decode cX7_jacket 0 = .ok (.aload_n 0, 1) := dq_42 dp_cX7_jacket rfl
theorem dX7_jacket_1 : decode cX7_jacket 1 = .ok (.iload_n 1, 1) := dq_27 dp_cX7_jacket rfl
theorem dX7_jacket_2 : decode cX7_jacket 2 = .ok (.invokevirtual 59, 3) := dq_182 dp_cX7_jacket rfl
theorem dX7_jacket_5 : decode cX7_jacket 5 = .ok (.astore_n 2, 1) := dq_77 dp_cX7_jacket rfl
theorem dX7_jacket_6 : decode cX7_jacket 6 = .ok (.aload_n 2, 1) := dq_44 dp_cX7_jacket rfl
theorem dX7_jacket_7 : decode cX7_jacket 7 = .ok (.ifnonnull 9, 3) := dq_199 (v := 9) dp_cX7_jacket rfl rfl
theorem dX7_jacket_10 : decode cX7_jacket 10 = .ok (.aload_n 0, 1) := dq_42 dp_cX7_jacket rfl
theorem dX7_jacket_11 : decode cX7_jacket 11 = .ok (.iconst 1, 1) := dq_4 dp_cX7_jacket rfl
theorem dX7_jacket_12 : decode cX7_jacket 12 = .ok (.invokevirtual 63, 3) := dq_182 dp_cX7_jacket rfl
theorem dX7_jacket_15 : decode cX7_jacket 15 = .ok (.ireturn, 1) := dq_172 dp_cX7_jacket rfl
theorem dX7_jacket_16 : decode cX7_jacket 16 = .ok (.aload_n 2, 1) := dq_44 dp_cX7_jacket rfl
theorem dX7_jacket_17 : decode cX7_jacket 17 = .ok (.invokevirtual 75, 3) := dq_182 dp_cX7_jacket rfl
theorem dX7_jacket_20 : decode cX7_jacket 20 = .ok (.istore_n 3, 1) := dq_62 dp_cX7_jacket rfl
theorem dX7_jacket_21 : decode cX7_jacket 21 = .ok (.iload_n 3, 1) := dq_29 dp_cX7_jacket rfl
theorem dX7_jacket_22 : decode cX7_jacket 22 = .ok (.ifCond .eq 9, 3) := dq_153 (v := 9) dp_cX7_jacket rfl rfl
theorem dX7_jacket_25 : decode cX7_jacket 25 = .ok (.aload_n 0, 1) := dq_42 dp_cX7_jacket rfl
theorem dX7_jacket_26 : decode cX7_jacket 26 = .ok (.iload_n 3, 1) := dq_29 dp_cX7_jacket rfl
theorem dX7_jacket_27 : decode cX7_jacket 27 = .ok (.invokevirtual 63, 3) := dq_182 dp_cX7_jacket rfl
theorem dX7_jacket_30 : decode cX7_jacket 30 = .ok (.ireturn, 1) := dq_172 dp_cX7_jacket rfl
theorem dX7_jacket_31 : decode cX7_jacket 31 = .ok (.aload_n 0, 1) := dq_42 dp_cX7_jacket rfl
theorem dX7_jacket_32 : decode cX7_jacket 32 = .ok (.aload_n 0, 1) := dq_42 dp_cX7_jacket rfl
theorem dX7_jacket_33 : decode cX7_jacket 33 = .ok (.getfield 35, 3) := dq_180 dp_cX7_jacket rfl
theorem dX7_jacket_36 : decode cX7_jacket 36 = .ok (.aload_n 2, 1) := dq_44 dp_cX7_jacket rfl
theorem dX7_jacket_37 : decode cX7_jacket 37 = .ok (.aload_n 0, 1) := dq_42 dp_cX7_jacket rfl
theorem dX7_jacket_38 : decode cX7_jacket 38 = .ok (.getfield 18, 3) := dq_180 dp_cX7_jacket rfl
theorem dX7_jacket_41 : decode cX7_jacket 41 = .ok (.getfield 140, 3) := dq_180 dp_cX7_jacket rfl
theorem dX7_jacket_44 : decode cX7_jacket 44 = .ok (.getfield 144, 3) := dq_180 dp_cX7_jacket rfl
theorem dX7_jacket_47 : decode cX7_jacket 47 = .ok (.aload_n 0, 1) := dq_42 dp_cX7_jacket rfl
theorem dX7_jacket_48 : decode cX7_jacket 48 = .ok (.getfield 18, 3) := dq_180 dp_cX7_jacket rfl
theorem dX7_jacket_51 : decode cX7_jacket 51 = .ok (.getfield 123, 3) := dq_180 dp_cX7_jacket rfl
theorem dX7_jacket_54 : decode cX7_jacket 54 = .ok (.invokevirtual 175, 3) := dq_182 dp_cX7_jacket rfl
theorem dX7_jacket_57 : decode cX7_jacket 57 = .ok (.putfield 54, 3) := dq_181 dp_cX7_jacket rfl
theorem dX7_jacket_60 : decode cX7_jacket 60 = .ok (.aload_n 0, 1) := dq_42 dp_cX7_jacket rfl
theorem dX7_jacket_61 : decode cX7_jacket 61 = .ok (.getfield 54, 3) := dq_180 dp_cX7_jacket rfl
theorem dX7_jacket_64 : decode cX7_jacket 64 = .ok (.iconst (-1), 1) := dq_2 dp_cX7_jacket rfl
theorem dX7_jacket_65 : decode cX7_jacket 65 = .ok (.if_icmp .eq 10, 3) := dq_159 (v := 10) dp_cX7_jacket rfl rfl
theorem dX7_jacket_68 : decode cX7_jacket 68 = .ok (.aload_n 0, 1) := dq_42 dp_cX7_jacket rfl
theorem dX7_jacket_69 : decode cX7_jacket 69 = .ok (.bipush 6, 2) := dq_16 (v := 6) dp_cX7_jacket rfl rfl
theorem dX7_jacket_71 : decode cX7_jacket 71 = .ok (.invokevirtual 63, 3) := dq_182 dp_cX7_jacket rfl
theorem dX7_jacket_74 : decode cX7_jacket 74 = .ok (.ireturn, 1) := dq_172 dp_cX7_jacket rfl
theorem dX7_jacket_75 : decode cX7_jacket 75 = .ok (.aload_n 0, 1) := dq_42 dp_cX7_jacket rfl
theorem dX7_jacket_76 : decode cX7_jacket 76 = .ok (.getfield 35, 3) := dq_180 dp_cX7_jacket rfl
theorem dX7_jacket_79 : decode cX7_jacket 79 = .ok (.aload_n 0, 1) := dq_42 dp_cX7_jacket rfl
theorem dX7_jacket_80 : decode cX7_jacket 80 = .ok (.getfield 18, 3) := dq_180 dp_cX7_jacket rfl
theorem dX7_jacket_83 : decode cX7_jacket 83 = .ok (.invokevirtual 179, 3) := dq_182 dp_cX7_jacket rfl
theorem dX7_jacket_86 : decode cX7_jacket 86 = .ok (.aload_n 0, 1) := dq_42 dp_cX7_jacket rfl
theorem dX7_jacket_87 : decode cX7_jacket 87 = .ok (.getfield 35, 3) := dq_180 dp_cX7_jacket rfl
theorem dX7_jacket_90 : decode cX7_jacket 90 = .ok (.getfield 183, 3) := dq_180 dp_cX7_jacket rfl
theorem dX7_jacket_93 : decode cX7_jacket 93 = .ok (.ireturn, 1) := dq_172 dp_cX7_jacket rfl
theorem dX7_fault_0 : decode cX7_fault 0 = .ok (.aload_n 0, 1) := dq_42 dp_cX7_fault rfl
theorem dX7_fault_1 : decode cX7_fault 1 = .ok (.getfield 54, 3) := dq_180 dp_cX7_fault rfl
theorem dX7_fault_4 : decode cX7_fault 4 = .ok (.ireturn, 1) := dq_172 dp_cX7_fault rfl
set_option maxRecDepth 20000 in
theorem gl_X7_frees_X00 : GoodIn wsX7_frees wsX00 := (dg_t (dg_l (dg_r gw_wsX00)))
theorem ggX7_frees_X0_pullAt : GoodIn wsX7_frees wsX0_pullAt := (dg_c 7 rfl rfl (dg_c 8 rfl rfl (dg_c 9 rfl rfl (dg_c 10 rfl rfl (dg_c 11 rfl rfl (dg_c 12 rfl rfl gl_X7_frees_X00))))))
set_option maxRecDepth 20000 in
theorem gX7_frees_X0_pullAt : GoodIn wsX7_frees (wsV RX7 100 RX0 yX0_pullAt wsX0_pullAt) := goodIn_app (dg_c 3 rfl rfl (dg_c 4 rfl rfl (dg_c 5 rfl rfl (dg_c 6 rfl rfl dg_0)))) ggX7_frees_X0_pullAt
set_option maxRecDepth 20000 in
theorem gl_X7_frees_X70 : GoodIn wsX7_frees wsX70 := (dg_t (dg_l (dg_l (dg_r gw_wsX70))))
theorem ggX7_frees_X7_refuse : GoodIn wsX7_frees wsX7_refuse := (dg_c 16 rfl rfl (dg_c 17 rfl rfl (dg_c 18 rfl rfl (dg_c 10 rfl rfl (dg_c 11 rfl rfl (dg_c 12 rfl rfl gl_X7_frees_X70))))))
set_option maxRecDepth 20000 in
theorem gX7_frees_X7_refuse : GoodIn wsX7_frees (wsV RX7 63 RX7 yX7_refuse wsX7_refuse) := goodIn_app (dg_c 13 rfl rfl (dg_c 14 rfl rfl (dg_c 15 rfl rfl (dg_c 11 rfl rfl dg_0)))) ggX7_frees_X7_refuse
set_option maxRecDepth 20000 in
theorem ggX7_frees_X7_within : GoodIn wsX7_frees wsX7_within := (dg_c 12 rfl rfl dg_0)
set_option maxRecDepth 20000 in
theorem gX7_frees_X7_within : GoodIn wsX7_frees (va_wsS RX7 67 yX7_within wsX7_within) := goodIn_app (dg_c 18 rfl rfl (dg_c 10 rfl rfl (dg_c 11 rfl rfl dg_0))) ggX7_frees_X7_within
set_option maxRecDepth 20000 in
theorem gl_X7_frees_X20 : GoodIn wsX7_frees wsX20 := (dg_t (dg_r gw_wsX20))
theorem ggX7_frees_X2_waysAt : GoodIn wsX7_frees wsX2_waysAt := (dg_c 23 rfl rfl (dg_c 24 rfl rfl (dg_c 25 rfl rfl (dg_c 26 rfl rfl (dg_c 27 rfl rfl (dg_c 28 rfl rfl (dg_c 29 rfl rfl (dg_c 30 rfl rfl (dg_c 31 rfl rfl (dg_c 32 rfl rfl (dg_c 33 rfl rfl (dg_c 34 rfl rfl (dg_c 22 rfl rfl (dg_c 35 rfl rfl (dg_c 36 rfl rfl gl_X7_frees_X20)))))))))))))))
set_option maxRecDepth 20000 in
theorem gX7_frees_X2_waysAt : GoodIn wsX7_frees (wsV RX7 119 RX2 yX2_waysAt wsX2_waysAt) := goodIn_app (dg_c 19 rfl rfl (dg_c 20 rfl rfl (dg_c 21 rfl rfl (dg_c 22 rfl rfl dg_0)))) ggX7_frees_X2_waysAt
set_option maxRecDepth 20000 in
theorem ggX7_frees_X2_shallower : GoodIn wsX7_frees wsX2_shallower := (dg_c 40 rfl rfl (dg_c 29 rfl rfl (dg_c 30 rfl rfl (dg_c 27 rfl rfl (dg_c 31 rfl rfl (dg_c 41 rfl rfl (dg_c 42 rfl rfl (dg_c 43 rfl rfl (dg_c 22 rfl rfl (dg_c 44 rfl rfl (dg_c 24 rfl rfl (dg_c 36 rfl rfl gl_X7_frees_X20))))))))))))
set_option maxRecDepth 20000 in
theorem gX7_frees_X2_shallower : GoodIn wsX7_frees (wsV RX7 186 RX2 yX2_shallower wsX2_shallower) := goodIn_app (dg_c 37 rfl rfl (dg_c 38 rfl rfl (dg_c 39 rfl rfl (dg_c 22 rfl rfl dg_0)))) ggX7_frees_X2_shallower
set_option maxRecDepth 20000 in
theorem ggX7_frees_X2_deeper : GoodIn wsX7_frees wsX2_deeper := (dg_c 48 rfl rfl (dg_c 24 rfl rfl (dg_c 36 rfl rfl (dg_c 25 rfl rfl (dg_c 26 rfl rfl (dg_c 27 rfl rfl (dg_c 28 rfl rfl gl_X7_frees_X20)))))))
set_option maxRecDepth 20000 in
theorem gX7_frees_X2_deeper : GoodIn wsX7_frees (wsV RX7 189 RX2 yX2_deeper wsX2_deeper) := goodIn_app (dg_c 45 rfl rfl (dg_c 46 rfl rfl (dg_c 47 rfl rfl (dg_c 22 rfl rfl dg_0)))) ggX7_frees_X2_deeper
theorem dX7_frees_0 : decode cX7_frees 0 = .ok (.aload_n 0, 1) := dq_42 dp_cX7_frees rfl
theorem dX7_frees_1 : decode cX7_frees 1 = .ok (.getfield 18, 3) := dq_180 dp_cX7_frees rfl
theorem dX7_frees_4 : decode cX7_frees 4 = .ok (.iload_n 1, 1) := dq_27 dp_cX7_frees rfl
theorem dX7_frees_5 : decode cX7_frees 5 = .ok (.invokevirtual 100, 3) := dq_182 dp_cX7_frees rfl
theorem dX7_frees_8 : decode cX7_frees 8 = .ok (.astore 4, 2) := dq_58 dp_cX7_frees rfl
theorem dX7_frees_10 : decode cX7_frees 10 = .ok (.aload 4, 2) := dq_25 dp_cX7_frees rfl
theorem dX7_frees_12 : decode cX7_frees 12 = .ok (.ifnonnull 9, 3) := dq_199 (v := 9) dp_cX7_frees rfl rfl
theorem dX7_frees_15 : decode cX7_frees 15 = .ok (.aload_n 0, 1) := dq_42 dp_cX7_frees rfl
theorem dX7_frees_16 : decode cX7_frees 16 = .ok (.iconst 1, 1) := dq_4 dp_cX7_frees rfl
theorem dX7_frees_17 : decode cX7_frees 17 = .ok (.invokevirtual 63, 3) := dq_182 dp_cX7_frees rfl
theorem dX7_frees_20 : decode cX7_frees 20 = .ok (.ireturn, 1) := dq_172 dp_cX7_frees rfl
theorem dX7_frees_21 : decode cX7_frees 21 = .ok (.iload_n 3, 1) := dq_29 dp_cX7_frees rfl
theorem dX7_frees_22 : decode cX7_frees 22 = .ok (.iconst 0, 1) := dq_3 dp_cX7_frees rfl
theorem dX7_frees_23 : decode cX7_frees 23 = .ok (.iconst 2, 1) := dq_5 dp_cX7_frees rfl
theorem dX7_frees_24 : decode cX7_frees 24 = .ok (.invokestatic 67, 3) := dq_184 dp_cX7_frees rfl
theorem dX7_frees_27 : decode cX7_frees 27 = .ok (.ifCond .ne 9, 3) := dq_154 (v := 9) dp_cX7_frees rfl rfl
theorem dX7_frees_30 : decode cX7_frees 30 = .ok (.aload_n 0, 1) := dq_42 dp_cX7_frees rfl
theorem dX7_frees_31 : decode cX7_frees 31 = .ok (.iconst 5, 1) := dq_8 dp_cX7_frees rfl
theorem dX7_frees_32 : decode cX7_frees 32 = .ok (.invokevirtual 63, 3) := dq_182 dp_cX7_frees rfl
theorem dX7_frees_35 : decode cX7_frees 35 = .ok (.ireturn, 1) := dq_172 dp_cX7_frees rfl
theorem dX7_frees_36 : decode cX7_frees 36 = .ok (.iload_n 2, 1) := dq_28 dp_cX7_frees rfl
theorem dX7_frees_37 : decode cX7_frees 37 = .ok (.iconst 1, 1) := dq_4 dp_cX7_frees rfl
theorem dX7_frees_38 : decode cX7_frees 38 = .ok (.bipush 24, 2) := dq_16 (v := 24) dp_cX7_frees rfl rfl
theorem dX7_frees_40 : decode cX7_frees 40 = .ok (.invokestatic 67, 3) := dq_184 dp_cX7_frees rfl
theorem dX7_frees_43 : decode cX7_frees 43 = .ok (.ifCond .ne 10, 3) := dq_154 (v := 10) dp_cX7_frees rfl rfl
theorem dX7_frees_46 : decode cX7_frees 46 = .ok (.aload_n 0, 1) := dq_42 dp_cX7_frees rfl
theorem dX7_frees_47 : decode cX7_frees 47 = .ok (.bipush 6, 2) := dq_16 (v := 6) dp_cX7_frees rfl rfl
theorem dX7_frees_49 : decode cX7_frees 49 = .ok (.invokevirtual 63, 3) := dq_182 dp_cX7_frees rfl
theorem dX7_frees_52 : decode cX7_frees 52 = .ok (.ireturn, 1) := dq_172 dp_cX7_frees rfl
theorem dX7_frees_53 : decode cX7_frees 53 = .ok (.iload_n 3, 1) := dq_29 dp_cX7_frees rfl
theorem dX7_frees_54 : decode cX7_frees 54 = .ok (.ifCond .ne 17, 3) := dq_154 (v := 17) dp_cX7_frees rfl rfl
theorem dX7_frees_57 : decode cX7_frees 57 = .ok (.aload 4, 2) := dq_25 dp_cX7_frees rfl
theorem dX7_frees_59 : decode cX7_frees 59 = .ok (.iload_n 2, 1) := dq_28 dp_cX7_frees rfl
theorem dX7_frees_60 : decode cX7_frees 60 = .ok (.aload_n 0, 1) := dq_42 dp_cX7_frees rfl
theorem dX7_frees_61 : decode cX7_frees 61 = .ok (.getfield 18, 3) := dq_180 dp_cX7_frees rfl
theorem dX7_frees_64 : decode cX7_frees 64 = .ok (.getfield 116, 3) := dq_180 dp_cX7_frees rfl
theorem dX7_frees_67 : decode cX7_frees 67 = .ok (.invokevirtual 119, 3) := dq_182 dp_cX7_frees rfl
theorem dX7_frees_70 : decode cX7_frees 70 = .ok (.ireturn, 1) := dq_172 dp_cX7_frees rfl
theorem dX7_frees_71 : decode cX7_frees 71 = .ok (.iload_n 3, 1) := dq_29 dp_cX7_frees rfl
theorem dX7_frees_72 : decode cX7_frees 72 = .ok (.iconst 1, 1) := dq_4 dp_cX7_frees rfl
theorem dX7_frees_73 : decode cX7_frees 73 = .ok (.if_icmp .ne 12, 3) := dq_160 (v := 12) dp_cX7_frees rfl rfl
theorem dX7_frees_76 : decode cX7_frees 76 = .ok (.aload 4, 2) := dq_25 dp_cX7_frees rfl
theorem dX7_frees_78 : decode cX7_frees 78 = .ok (.iload_n 2, 1) := dq_28 dp_cX7_frees rfl
theorem dX7_frees_79 : decode cX7_frees 79 = .ok (.invokevirtual 186, 3) := dq_182 dp_cX7_frees rfl
theorem dX7_frees_82 : decode cX7_frees 82 = .ok (.goto 16, 3) := dq_167 (v := 16) dp_cX7_frees rfl rfl
theorem dX7_frees_85 : decode cX7_frees 85 = .ok (.aload 4, 2) := dq_25 dp_cX7_frees rfl
theorem dX7_frees_87 : decode cX7_frees 87 = .ok (.iload_n 2, 1) := dq_28 dp_cX7_frees rfl
theorem dX7_frees_88 : decode cX7_frees 88 = .ok (.aload_n 0, 1) := dq_42 dp_cX7_frees rfl
theorem dX7_frees_89 : decode cX7_frees 89 = .ok (.getfield 18, 3) := dq_180 dp_cX7_frees rfl
theorem dX7_frees_92 : decode cX7_frees 92 = .ok (.getfield 116, 3) := dq_180 dp_cX7_frees rfl
theorem dX7_frees_95 : decode cX7_frees 95 = .ok (.invokevirtual 189, 3) := dq_182 dp_cX7_frees rfl
theorem dX7_frees_98 : decode cX7_frees 98 = .ok (.ireturn, 1) := dq_172 dp_cX7_frees rfl
set_option maxRecDepth 20000 in
theorem ggX7_cases_X7_within : GoodIn wsX7_cases wsX7_within := (dg_c 9 rfl rfl dg_0)
set_option maxRecDepth 20000 in
theorem gX7_cases_X7_within : GoodIn wsX7_cases (va_wsS RX7 67 yX7_within wsX7_within) := goodIn_app (dg_c 6 rfl rfl (dg_c 7 rfl rfl (dg_c 8 rfl rfl dg_0))) ggX7_cases_X7_within
set_option maxRecDepth 20000 in
theorem gl_X7_cases_X70 : GoodIn wsX7_cases wsX70 := (dg_t (dg_l (dg_l (dg_l (dg_r gw_wsX70)))))
theorem ggX7_cases_X7_refuseLower : GoodIn wsX7_cases wsX7_refuseLower := (dg_c 13 rfl rfl (dg_c 14 rfl rfl (dg_c 15 rfl rfl (dg_c 16 rfl rfl (dg_c 8 rfl rfl (dg_c 17 rfl rfl (dg_c 18 rfl rfl (dg_c 6 rfl rfl (dg_c 7 rfl rfl (dg_c 9 rfl rfl gl_X7_cases_X70))))))))))
set_option maxRecDepth 20000 in
theorem gX7_cases_X7_refuseLower : GoodIn wsX7_cases (wsV RX7 192 RX7 yX7_refuseLower wsX7_refuseLower) := goodIn_app (dg_c 10 rfl rfl (dg_c 11 rfl rfl (dg_c 12 rfl rfl (dg_c 8 rfl rfl dg_0)))) ggX7_cases_X7_refuseLower
set_option maxRecDepth 20000 in
theorem gl_X7_cases_X00 : GoodIn wsX7_cases wsX00 := (dg_t (dg_l (dg_l (dg_r gw_wsX00))))
theorem gl_X7_cases_X50 : GoodIn wsX7_cases wsX50 := (dg_t (dg_l (dg_r gw_wsX50)))
theorem gl_X7_cases_X20 : GoodIn wsX7_cases wsX20 := (dg_t (dg_r gw_wsX20))
theorem ggX7_cases_X5_look : GoodIn wsX7_cases wsX5_look := (dg_c 23 rfl rfl (goodIn_app (goodIn_app (goodIn_app (goodIn_app (dg_c 24 rfl rfl (dg_c 25 rfl rfl (dg_c 26 rfl rfl (dg_c 27 rfl rfl (dg_c 28 rfl rfl (dg_c 29 rfl rfl (dg_c 30 rfl rfl (dg_c 31 rfl rfl (dg_c 32 rfl rfl (dg_c 33 rfl rfl (dg_c 34 rfl rfl (dg_c 35 rfl rfl (dg_c 36 rfl rfl (dg_c 37 rfl rfl (dg_c 38 rfl rfl (dg_c 39 rfl rfl (dg_c 40 rfl rfl (dg_c 41 rfl rfl (dg_c 42 rfl rfl (dg_c 43 rfl rfl (dg_c 44 rfl rfl (dg_c 45 rfl rfl (dg_c 46 rfl rfl (dg_c 47 rfl rfl dg_0)))))))))))))))))))))))) (dg_c 48 rfl rfl (dg_c 49 rfl rfl (dg_c 7 rfl rfl (dg_c 8 rfl rfl (dg_c 9 rfl rfl (dg_c 50 rfl rfl (dg_c 51 rfl rfl (dg_c 52 rfl rfl (dg_c 53 rfl rfl dg_0)))))))))) gl_X7_cases_X00) gl_X7_cases_X50) gl_X7_cases_X20))
set_option maxRecDepth 20000 in
theorem gX7_cases_X5_look : GoodIn wsX7_cases (wsV RX7 195 RX5 yX5_look wsX5_look) := goodIn_app (dg_c 19 rfl rfl (dg_c 20 rfl rfl (dg_c 21 rfl rfl (dg_c 22 rfl rfl dg_0)))) ggX7_cases_X5_look
set_option maxRecDepth 20000 in
theorem ggX7_cases_X5_next : GoodIn wsX7_cases wsX5_next := (dg_c 57 rfl rfl (goodIn_app (goodIn_app (goodIn_app (dg_c 25 rfl rfl (dg_c 58 rfl rfl (dg_c 59 rfl rfl (dg_c 60 rfl rfl (dg_c 22 rfl rfl (dg_c 61 rfl rfl (dg_c 29 rfl rfl (dg_c 7 rfl rfl (dg_c 8 rfl rfl (dg_c 9 rfl rfl (dg_c 62 rfl rfl (dg_c 63 rfl rfl (dg_c 64 rfl rfl (dg_c 65 rfl rfl (dg_c 66 rfl rfl (dg_c 67 rfl rfl (dg_c 68 rfl rfl (dg_c 69 rfl rfl (dg_c 70 rfl rfl (dg_c 71 rfl rfl (dg_c 26 rfl rfl (dg_c 30 rfl rfl (dg_c 72 rfl rfl (dg_c 73 rfl rfl dg_0)))))))))))))))))))))))) (goodIn_app (dg_c 74 rfl rfl (dg_c 75 rfl rfl (dg_c 76 rfl rfl (dg_c 77 rfl rfl (dg_c 78 rfl rfl (dg_c 33 rfl rfl (dg_c 79 rfl rfl (dg_c 80 rfl rfl (dg_c 32 rfl rfl (dg_c 34 rfl rfl (dg_c 81 rfl rfl (dg_c 82 rfl rfl (dg_c 83 rfl rfl (dg_c 84 rfl rfl (dg_c 85 rfl rfl (dg_c 86 rfl rfl (dg_c 87 rfl rfl (dg_c 88 rfl rfl (dg_c 89 rfl rfl (dg_c 90 rfl rfl (dg_c 91 rfl rfl (dg_c 92 rfl rfl (dg_c 93 rfl rfl (dg_c 94 rfl rfl dg_0)))))))))))))))))))))))) (dg_c 95 rfl rfl (dg_c 96 rfl rfl (dg_c 97 rfl rfl (dg_c 98 rfl rfl (dg_c 99 rfl rfl (dg_c 100 rfl rfl (dg_c 101 rfl rfl (dg_c 102 rfl rfl (dg_c 27 rfl rfl (dg_c 41 rfl rfl (dg_c 31 rfl rfl dg_0))))))))))))) gl_X7_cases_X50) gl_X7_cases_X20))
set_option maxRecDepth 20000 in
theorem gX7_cases_X5_next : GoodIn wsX7_cases (wsV RX7 205 RX5 yX5_next wsX5_next) := goodIn_app (dg_c 54 rfl rfl (dg_c 55 rfl rfl (dg_c 56 rfl rfl (dg_c 22 rfl rfl dg_0)))) ggX7_cases_X5_next
set_option maxRecDepth 20000 in
theorem ggX7_cases_X5_most : GoodIn wsX7_cases wsX5_most := (dg_c 101 rfl rfl (goodIn_app (goodIn_app (goodIn_app (dg_c 102 rfl rfl (dg_c 27 rfl rfl (dg_c 41 rfl rfl (dg_c 25 rfl rfl (dg_c 31 rfl rfl (dg_c 32 rfl rfl (dg_c 33 rfl rfl (dg_c 34 rfl rfl (dg_c 58 rfl rfl (dg_c 59 rfl rfl (dg_c 60 rfl rfl (dg_c 22 rfl rfl (dg_c 61 rfl rfl (dg_c 29 rfl rfl (dg_c 7 rfl rfl (dg_c 8 rfl rfl (dg_c 9 rfl rfl (dg_c 62 rfl rfl (dg_c 63 rfl rfl (dg_c 64 rfl rfl (dg_c 65 rfl rfl (dg_c 66 rfl rfl (dg_c 67 rfl rfl (dg_c 68 rfl rfl dg_0)))))))))))))))))))))))) (goodIn_app (dg_c 69 rfl rfl (dg_c 70 rfl rfl (dg_c 71 rfl rfl (dg_c 26 rfl rfl (dg_c 30 rfl rfl (dg_c 72 rfl rfl (dg_c 73 rfl rfl (dg_c 74 rfl rfl (dg_c 75 rfl rfl (dg_c 76 rfl rfl (dg_c 77 rfl rfl (dg_c 78 rfl rfl (dg_c 79 rfl rfl (dg_c 80 rfl rfl (dg_c 81 rfl rfl (dg_c 82 rfl rfl (dg_c 83 rfl rfl (dg_c 84 rfl rfl (dg_c 85 rfl rfl (dg_c 86 rfl rfl (dg_c 87 rfl rfl (dg_c 88 rfl rfl (dg_c 89 rfl rfl (dg_c 90 rfl rfl dg_0)))))))))))))))))))))))) (dg_c 91 rfl rfl (dg_c 92 rfl rfl (dg_c 93 rfl rfl (dg_c 94 rfl rfl (dg_c 95 rfl rfl (dg_c 96 rfl rfl (dg_c 97 rfl rfl (dg_c 98 rfl rfl (dg_c 99 rfl rfl (dg_c 100 rfl rfl dg_0)))))))))))) gl_X7_cases_X50) gl_X7_cases_X20))
set_option maxRecDepth 20000 in
theorem gX7_cases_X5_most_n208 : GoodIn wsX7_cases (wsX5_most) := ggX7_cases_X5_most
theorem dX7_cases_0 : decode cX7_cases 0 = .ok (.iload_n 2, 1) := dq_28 dp_cX7_cases rfl
theorem dX7_cases_1 : decode cX7_cases 1 = .ok (.iconst 0, 1) := dq_3 dp_cX7_cases rfl
theorem dX7_cases_2 : decode cX7_cases 2 = .ok (.iconst 2, 1) := dq_5 dp_cX7_cases rfl
theorem dX7_cases_3 : decode cX7_cases 3 = .ok (.invokestatic 67, 3) := dq_184 dp_cX7_cases rfl
theorem dX7_cases_6 : decode cX7_cases 6 = .ok (.ifCond .ne 9, 3) := dq_154 (v := 9) dp_cX7_cases rfl rfl
theorem dX7_cases_9 : decode cX7_cases 9 = .ok (.aload_n 0, 1) := dq_42 dp_cX7_cases rfl
theorem dX7_cases_10 : decode cX7_cases 10 = .ok (.iconst 5, 1) := dq_8 dp_cX7_cases rfl
theorem dX7_cases_11 : decode cX7_cases 11 = .ok (.invokevirtual 192, 3) := dq_182 dp_cX7_cases rfl
theorem dX7_cases_14 : decode cX7_cases 14 = .ok (.ireturn, 1) := dq_172 dp_cX7_cases rfl
theorem dX7_cases_15 : decode cX7_cases 15 = .ok (.iload_n 1, 1) := dq_27 dp_cX7_cases rfl
theorem dX7_cases_16 : decode cX7_cases 16 = .ok (.iconst 0, 1) := dq_3 dp_cX7_cases rfl
theorem dX7_cases_17 : decode cX7_cases 17 = .ok (.iconst 4, 1) := dq_7 dp_cX7_cases rfl
theorem dX7_cases_18 : decode cX7_cases 18 = .ok (.invokestatic 67, 3) := dq_184 dp_cX7_cases rfl
theorem dX7_cases_21 : decode cX7_cases 21 = .ok (.ifCond .ne 10, 3) := dq_154 (v := 10) dp_cX7_cases rfl rfl
theorem dX7_cases_24 : decode cX7_cases 24 = .ok (.aload_n 0, 1) := dq_42 dp_cX7_cases rfl
theorem dX7_cases_25 : decode cX7_cases 25 = .ok (.bipush 6, 2) := dq_16 (v := 6) dp_cX7_cases rfl rfl
theorem dX7_cases_27 : decode cX7_cases 27 = .ok (.invokevirtual 192, 3) := dq_182 dp_cX7_cases rfl
theorem dX7_cases_30 : decode cX7_cases 30 = .ok (.ireturn, 1) := dq_172 dp_cX7_cases rfl
theorem dX7_cases_31 : decode cX7_cases 31 = .ok (.aload_n 0, 1) := dq_42 dp_cX7_cases rfl
theorem dX7_cases_32 : decode cX7_cases 32 = .ok (.getfield 28, 3) := dq_180 dp_cX7_cases rfl
theorem dX7_cases_35 : decode cX7_cases 35 = .ok (.aload_n 0, 1) := dq_42 dp_cX7_cases rfl
theorem dX7_cases_36 : decode cX7_cases 36 = .ok (.getfield 18, 3) := dq_180 dp_cX7_cases rfl
theorem dX7_cases_39 : decode cX7_cases 39 = .ok (.aload_n 0, 1) := dq_42 dp_cX7_cases rfl
theorem dX7_cases_40 : decode cX7_cases 40 = .ok (.getfield 18, 3) := dq_180 dp_cX7_cases rfl
theorem dX7_cases_43 : decode cX7_cases 43 = .ok (.getfield 116, 3) := dq_180 dp_cX7_cases rfl
theorem dX7_cases_46 : decode cX7_cases 46 = .ok (.iload_n 2, 1) := dq_28 dp_cX7_cases rfl
theorem dX7_cases_47 : decode cX7_cases 47 = .ok (.iconst 2, 1) := dq_5 dp_cX7_cases rfl
theorem dX7_cases_48 : decode cX7_cases 48 = .ok (.if_icmp .eq 7, 3) := dq_159 (v := 7) dp_cX7_cases rfl rfl
theorem dX7_cases_51 : decode cX7_cases 51 = .ok (.iconst 1, 1) := dq_4 dp_cX7_cases rfl
theorem dX7_cases_52 : decode cX7_cases 52 = .ok (.goto 4, 3) := dq_167 (v := 4) dp_cX7_cases rfl rfl
theorem dX7_cases_55 : decode cX7_cases 55 = .ok (.iconst 0, 1) := dq_3 dp_cX7_cases rfl
theorem dX7_cases_56 : decode cX7_cases 56 = .ok (.invokevirtual 195, 3) := dq_182 dp_cX7_cases rfl
theorem dX7_cases_59 : decode cX7_cases 59 = .ok (.iload_n 2, 1) := dq_28 dp_cX7_cases rfl
theorem dX7_cases_60 : decode cX7_cases 60 = .ok (.iconst 1, 1) := dq_4 dp_cX7_cases rfl
theorem dX7_cases_61 : decode cX7_cases 61 = .ok (.if_icmp .ne 26, 3) := dq_160 (v := 26) dp_cX7_cases rfl rfl
theorem dX7_cases_64 : decode cX7_cases 64 = .ok (.aload_n 0, 1) := dq_42 dp_cX7_cases rfl
theorem dX7_cases_65 : decode cX7_cases 65 = .ok (.getfield 28, 3) := dq_180 dp_cX7_cases rfl
theorem dX7_cases_68 : decode cX7_cases 68 = .ok (.iload_n 1, 1) := dq_27 dp_cX7_cases rfl
theorem dX7_cases_69 : decode cX7_cases 69 = .ok (.aload_n 0, 1) := dq_42 dp_cX7_cases rfl
theorem dX7_cases_70 : decode cX7_cases 70 = .ok (.getfield 18, 3) := dq_180 dp_cX7_cases rfl
theorem dX7_cases_73 : decode cX7_cases 73 = .ok (.getfield 199, 3) := dq_180 dp_cX7_cases rfl
theorem dX7_cases_76 : decode cX7_cases 76 = .ok (.aload_n 0, 1) := dq_42 dp_cX7_cases rfl
theorem dX7_cases_77 : decode cX7_cases 77 = .ok (.getfield 18, 3) := dq_180 dp_cX7_cases rfl
theorem dX7_cases_80 : decode cX7_cases 80 = .ok (.getfield 202, 3) := dq_180 dp_cX7_cases rfl
theorem dX7_cases_83 : decode cX7_cases 83 = .ok (.invokevirtual 205, 3) := dq_182 dp_cX7_cases rfl
theorem dX7_cases_86 : decode cX7_cases 86 = .ok (.ireturn, 1) := dq_172 dp_cX7_cases rfl
theorem dX7_cases_87 : decode cX7_cases 87 = .ok (.aload_n 0, 1) := dq_42 dp_cX7_cases rfl
theorem dX7_cases_88 : decode cX7_cases 88 = .ok (.getfield 28, 3) := dq_180 dp_cX7_cases rfl
theorem dX7_cases_91 : decode cX7_cases 91 = .ok (.iload_n 1, 1) := dq_27 dp_cX7_cases rfl
theorem dX7_cases_92 : decode cX7_cases 92 = .ok (.aload_n 0, 1) := dq_42 dp_cX7_cases rfl
theorem dX7_cases_93 : decode cX7_cases 93 = .ok (.getfield 18, 3) := dq_180 dp_cX7_cases rfl
theorem dX7_cases_96 : decode cX7_cases 96 = .ok (.getfield 199, 3) := dq_180 dp_cX7_cases rfl
theorem dX7_cases_99 : decode cX7_cases 99 = .ok (.aload_n 0, 1) := dq_42 dp_cX7_cases rfl
theorem dX7_cases_100 : decode cX7_cases 100 = .ok (.getfield 18, 3) := dq_180 dp_cX7_cases rfl
theorem dX7_cases_103 : decode cX7_cases 103 = .ok (.getfield 202, 3) := dq_180 dp_cX7_cases rfl
theorem dX7_cases_106 : decode cX7_cases 106 = .ok (.invokevirtual 208, 3) := dq_182 dp_cX7_cases rfl
theorem dX7_cases_109 : decode cX7_cases 109 = .ok (.ireturn, 1) := dq_172 dp_cX7_cases rfl
set_option maxRecDepth 20000 in
theorem ggX7_line_X7_within : GoodIn wsX7_line wsX7_within := (dg_c 9 rfl rfl dg_0)
set_option maxRecDepth 20000 in
theorem gX7_line_X7_within : GoodIn wsX7_line (va_wsS RX7 67 yX7_within wsX7_within) := goodIn_app (dg_c 6 rfl rfl (dg_c 7 rfl rfl (dg_c 8 rfl rfl dg_0))) ggX7_line_X7_within
set_option maxRecDepth 20000 in
theorem gl_X7_line_X70 : GoodIn wsX7_line wsX70 := (dg_t (dg_l (dg_l (dg_l (dg_r gw_wsX70)))))
theorem ggX7_line_X7_refuseLower : GoodIn wsX7_line wsX7_refuseLower := (dg_c 13 rfl rfl (dg_c 14 rfl rfl (dg_c 15 rfl rfl (dg_c 16 rfl rfl (dg_c 8 rfl rfl (dg_c 17 rfl rfl (dg_c 18 rfl rfl (dg_c 6 rfl rfl (dg_c 7 rfl rfl (dg_c 9 rfl rfl gl_X7_line_X70))))))))))
set_option maxRecDepth 20000 in
theorem gX7_line_X7_refuseLower : GoodIn wsX7_line (wsV RX7 192 RX7 yX7_refuseLower wsX7_refuseLower) := goodIn_app (dg_c 10 rfl rfl (dg_c 11 rfl rfl (dg_c 12 rfl rfl (dg_c 8 rfl rfl dg_0)))) ggX7_line_X7_refuseLower
set_option maxRecDepth 20000 in
theorem gl_X7_line_X00 : GoodIn wsX7_line wsX00 := (dg_t (dg_l (dg_l (dg_r gw_wsX00))))
theorem gl_X7_line_X50 : GoodIn wsX7_line wsX50 := (dg_t (dg_l (dg_r gw_wsX50)))
theorem gl_X7_line_X20 : GoodIn wsX7_line wsX20 := (dg_t (dg_r gw_wsX20))
theorem ggX7_line_X5_look : GoodIn wsX7_line wsX5_look := (dg_c 23 rfl rfl (goodIn_app (goodIn_app (goodIn_app (goodIn_app (dg_c 24 rfl rfl (dg_c 25 rfl rfl (dg_c 26 rfl rfl (dg_c 27 rfl rfl (dg_c 28 rfl rfl (dg_c 29 rfl rfl (dg_c 30 rfl rfl (dg_c 31 rfl rfl (dg_c 32 rfl rfl (dg_c 33 rfl rfl (dg_c 34 rfl rfl (dg_c 35 rfl rfl (dg_c 36 rfl rfl (dg_c 37 rfl rfl (dg_c 38 rfl rfl (dg_c 39 rfl rfl (dg_c 40 rfl rfl (dg_c 41 rfl rfl (dg_c 42 rfl rfl (dg_c 43 rfl rfl (dg_c 44 rfl rfl (dg_c 45 rfl rfl (dg_c 46 rfl rfl (dg_c 47 rfl rfl dg_0)))))))))))))))))))))))) (dg_c 48 rfl rfl (dg_c 49 rfl rfl (dg_c 7 rfl rfl (dg_c 8 rfl rfl (dg_c 9 rfl rfl (dg_c 50 rfl rfl (dg_c 51 rfl rfl (dg_c 52 rfl rfl (dg_c 53 rfl rfl dg_0)))))))))) gl_X7_line_X00) gl_X7_line_X50) gl_X7_line_X20))
set_option maxRecDepth 20000 in
theorem gX7_line_X5_look : GoodIn wsX7_line (wsV RX7 195 RX5 yX5_look wsX5_look) := goodIn_app (dg_c 19 rfl rfl (dg_c 20 rfl rfl (dg_c 21 rfl rfl (dg_c 22 rfl rfl dg_0)))) ggX7_line_X5_look
set_option maxRecDepth 20000 in
theorem ggX7_line_X5_first : GoodIn wsX7_line wsX5_first := (dg_c 57 rfl rfl (goodIn_app (goodIn_app (goodIn_app (dg_c 25 rfl rfl (dg_c 58 rfl rfl (dg_c 59 rfl rfl (dg_c 60 rfl rfl (dg_c 22 rfl rfl (dg_c 61 rfl rfl (dg_c 27 rfl rfl (dg_c 42 rfl rfl (dg_c 62 rfl rfl (dg_c 63 rfl rfl (dg_c 33 rfl rfl (dg_c 64 rfl rfl (dg_c 65 rfl rfl (dg_c 66 rfl rfl (dg_c 67 rfl rfl (dg_c 68 rfl rfl (dg_c 69 rfl rfl (dg_c 36 rfl rfl (dg_c 70 rfl rfl (dg_c 71 rfl rfl (dg_c 72 rfl rfl (dg_c 73 rfl rfl (dg_c 74 rfl rfl (dg_c 75 rfl rfl dg_0)))))))))))))))))))))))) (goodIn_app (dg_c 76 rfl rfl (dg_c 77 rfl rfl (dg_c 29 rfl rfl (dg_c 7 rfl rfl (dg_c 8 rfl rfl (dg_c 9 rfl rfl (dg_c 78 rfl rfl (dg_c 79 rfl rfl (dg_c 80 rfl rfl (dg_c 81 rfl rfl (dg_c 82 rfl rfl (dg_c 83 rfl rfl (dg_c 84 rfl rfl (dg_c 85 rfl rfl (dg_c 86 rfl rfl (dg_c 87 rfl rfl (dg_c 26 rfl rfl (dg_c 30 rfl rfl (dg_c 28 rfl rfl (dg_c 88 rfl rfl (dg_c 89 rfl rfl (dg_c 90 rfl rfl (dg_c 91 rfl rfl (dg_c 92 rfl rfl dg_0)))))))))))))))))))))))) (dg_c 93 rfl rfl (dg_c 94 rfl rfl (dg_c 32 rfl rfl (dg_c 34 rfl rfl (dg_c 95 rfl rfl (dg_c 96 rfl rfl (dg_c 97 rfl rfl (dg_c 98 rfl rfl (dg_c 99 rfl rfl (dg_c 100 rfl rfl (dg_c 101 rfl rfl (dg_c 102 rfl rfl (dg_c 103 rfl rfl (dg_c 104 rfl rfl (dg_c 105 rfl rfl (dg_c 106 rfl rfl (dg_c 107 rfl rfl (dg_c 108 rfl rfl (dg_c 109 rfl rfl (dg_c 110 rfl rfl (dg_c 111 rfl rfl dg_0))))))))))))))))))))))) gl_X7_line_X50) gl_X7_line_X20))
set_option maxRecDepth 20000 in
theorem gX7_line_X5_first : GoodIn wsX7_line (wsV RX7 211 RX5 yX5_first wsX5_first) := goodIn_app (dg_c 54 rfl rfl (dg_c 55 rfl rfl (dg_c 56 rfl rfl (dg_c 22 rfl rfl dg_0)))) ggX7_line_X5_first
set_option maxRecDepth 20000 in
theorem ggX7_line_X5_least : GoodIn wsX7_line wsX5_least := (dg_c 61 rfl rfl (goodIn_app (goodIn_app (goodIn_app (dg_c 27 rfl rfl (dg_c 42 rfl rfl (dg_c 25 rfl rfl (dg_c 62 rfl rfl (dg_c 63 rfl rfl (dg_c 33 rfl rfl (dg_c 64 rfl rfl (dg_c 65 rfl rfl (dg_c 66 rfl rfl (dg_c 67 rfl rfl (dg_c 22 rfl rfl (dg_c 68 rfl rfl (dg_c 69 rfl rfl (dg_c 36 rfl rfl (dg_c 70 rfl rfl (dg_c 71 rfl rfl (dg_c 72 rfl rfl (dg_c 73 rfl rfl (dg_c 74 rfl rfl (dg_c 75 rfl rfl (dg_c 76 rfl rfl (dg_c 77 rfl rfl (dg_c 29 rfl rfl (dg_c 7 rfl rfl dg_0)))))))))))))))))))))))) (goodIn_app (dg_c 8 rfl rfl (dg_c 9 rfl rfl (dg_c 78 rfl rfl (dg_c 79 rfl rfl (dg_c 80 rfl rfl (dg_c 81 rfl rfl (dg_c 82 rfl rfl (dg_c 83 rfl rfl (dg_c 84 rfl rfl (dg_c 85 rfl rfl (dg_c 86 rfl rfl (dg_c 87 rfl rfl (dg_c 26 rfl rfl (dg_c 30 rfl rfl (dg_c 28 rfl rfl (dg_c 88 rfl rfl (dg_c 89 rfl rfl (dg_c 90 rfl rfl (dg_c 91 rfl rfl (dg_c 92 rfl rfl (dg_c 93 rfl rfl (dg_c 94 rfl rfl (dg_c 32 rfl rfl (dg_c 34 rfl rfl dg_0)))))))))))))))))))))))) (dg_c 95 rfl rfl (dg_c 96 rfl rfl (dg_c 97 rfl rfl (dg_c 98 rfl rfl (dg_c 99 rfl rfl (dg_c 100 rfl rfl (dg_c 101 rfl rfl (dg_c 102 rfl rfl (dg_c 103 rfl rfl (dg_c 104 rfl rfl (dg_c 105 rfl rfl (dg_c 106 rfl rfl (dg_c 107 rfl rfl (dg_c 58 rfl rfl (dg_c 59 rfl rfl (dg_c 60 rfl rfl (dg_c 108 rfl rfl (dg_c 109 rfl rfl (dg_c 110 rfl rfl (dg_c 111 rfl rfl dg_0)))))))))))))))))))))) gl_X7_line_X50) gl_X7_line_X20))
set_option maxRecDepth 20000 in
theorem gX7_line_X5_least_n214 : GoodIn wsX7_line (wsX5_least) := ggX7_line_X5_least
theorem dX7_line_0 : decode cX7_line 0 = .ok (.iload_n 2, 1) := dq_28 dp_cX7_line rfl
theorem dX7_line_1 : decode cX7_line 1 = .ok (.iconst 0, 1) := dq_3 dp_cX7_line rfl
theorem dX7_line_2 : decode cX7_line 2 = .ok (.iconst 1, 1) := dq_4 dp_cX7_line rfl
theorem dX7_line_3 : decode cX7_line 3 = .ok (.invokestatic 67, 3) := dq_184 dp_cX7_line rfl
theorem dX7_line_6 : decode cX7_line 6 = .ok (.ifCond .ne 9, 3) := dq_154 (v := 9) dp_cX7_line rfl rfl
theorem dX7_line_9 : decode cX7_line 9 = .ok (.aload_n 0, 1) := dq_42 dp_cX7_line rfl
theorem dX7_line_10 : decode cX7_line 10 = .ok (.iconst 5, 1) := dq_8 dp_cX7_line rfl
theorem dX7_line_11 : decode cX7_line 11 = .ok (.invokevirtual 192, 3) := dq_182 dp_cX7_line rfl
theorem dX7_line_14 : decode cX7_line 14 = .ok (.ireturn, 1) := dq_172 dp_cX7_line rfl
theorem dX7_line_15 : decode cX7_line 15 = .ok (.iload_n 1, 1) := dq_27 dp_cX7_line rfl
theorem dX7_line_16 : decode cX7_line 16 = .ok (.iconst 0, 1) := dq_3 dp_cX7_line rfl
theorem dX7_line_17 : decode cX7_line 17 = .ok (.iconst 4, 1) := dq_7 dp_cX7_line rfl
theorem dX7_line_18 : decode cX7_line 18 = .ok (.invokestatic 67, 3) := dq_184 dp_cX7_line rfl
theorem dX7_line_21 : decode cX7_line 21 = .ok (.ifCond .ne 10, 3) := dq_154 (v := 10) dp_cX7_line rfl rfl
theorem dX7_line_24 : decode cX7_line 24 = .ok (.aload_n 0, 1) := dq_42 dp_cX7_line rfl
theorem dX7_line_25 : decode cX7_line 25 = .ok (.bipush 6, 2) := dq_16 (v := 6) dp_cX7_line rfl rfl
theorem dX7_line_27 : decode cX7_line 27 = .ok (.invokevirtual 192, 3) := dq_182 dp_cX7_line rfl
theorem dX7_line_30 : decode cX7_line 30 = .ok (.ireturn, 1) := dq_172 dp_cX7_line rfl
theorem dX7_line_31 : decode cX7_line 31 = .ok (.aload_n 0, 1) := dq_42 dp_cX7_line rfl
theorem dX7_line_32 : decode cX7_line 32 = .ok (.getfield 28, 3) := dq_180 dp_cX7_line rfl
theorem dX7_line_35 : decode cX7_line 35 = .ok (.aload_n 0, 1) := dq_42 dp_cX7_line rfl
theorem dX7_line_36 : decode cX7_line 36 = .ok (.getfield 18, 3) := dq_180 dp_cX7_line rfl
theorem dX7_line_39 : decode cX7_line 39 = .ok (.aload_n 0, 1) := dq_42 dp_cX7_line rfl
theorem dX7_line_40 : decode cX7_line 40 = .ok (.getfield 18, 3) := dq_180 dp_cX7_line rfl
theorem dX7_line_43 : decode cX7_line 43 = .ok (.getfield 116, 3) := dq_180 dp_cX7_line rfl
theorem dX7_line_46 : decode cX7_line 46 = .ok (.iconst 1, 1) := dq_4 dp_cX7_line rfl
theorem dX7_line_47 : decode cX7_line 47 = .ok (.invokevirtual 195, 3) := dq_182 dp_cX7_line rfl
theorem dX7_line_50 : decode cX7_line 50 = .ok (.iload_n 2, 1) := dq_28 dp_cX7_line rfl
theorem dX7_line_51 : decode cX7_line 51 = .ok (.iconst 1, 1) := dq_4 dp_cX7_line rfl
theorem dX7_line_52 : decode cX7_line 52 = .ok (.if_icmp .ne 26, 3) := dq_160 (v := 26) dp_cX7_line rfl rfl
theorem dX7_line_55 : decode cX7_line 55 = .ok (.aload_n 0, 1) := dq_42 dp_cX7_line rfl
theorem dX7_line_56 : decode cX7_line 56 = .ok (.getfield 28, 3) := dq_180 dp_cX7_line rfl
theorem dX7_line_59 : decode cX7_line 59 = .ok (.iload_n 1, 1) := dq_27 dp_cX7_line rfl
theorem dX7_line_60 : decode cX7_line 60 = .ok (.aload_n 0, 1) := dq_42 dp_cX7_line rfl
theorem dX7_line_61 : decode cX7_line 61 = .ok (.getfield 18, 3) := dq_180 dp_cX7_line rfl
theorem dX7_line_64 : decode cX7_line 64 = .ok (.getfield 199, 3) := dq_180 dp_cX7_line rfl
theorem dX7_line_67 : decode cX7_line 67 = .ok (.aload_n 0, 1) := dq_42 dp_cX7_line rfl
theorem dX7_line_68 : decode cX7_line 68 = .ok (.getfield 18, 3) := dq_180 dp_cX7_line rfl
theorem dX7_line_71 : decode cX7_line 71 = .ok (.getfield 202, 3) := dq_180 dp_cX7_line rfl
theorem dX7_line_74 : decode cX7_line 74 = .ok (.invokevirtual 211, 3) := dq_182 dp_cX7_line rfl
theorem dX7_line_77 : decode cX7_line 77 = .ok (.ireturn, 1) := dq_172 dp_cX7_line rfl
theorem dX7_line_78 : decode cX7_line 78 = .ok (.aload_n 0, 1) := dq_42 dp_cX7_line rfl
theorem dX7_line_79 : decode cX7_line 79 = .ok (.getfield 28, 3) := dq_180 dp_cX7_line rfl
theorem dX7_line_82 : decode cX7_line 82 = .ok (.iload_n 1, 1) := dq_27 dp_cX7_line rfl
theorem dX7_line_83 : decode cX7_line 83 = .ok (.aload_n 0, 1) := dq_42 dp_cX7_line rfl
theorem dX7_line_84 : decode cX7_line 84 = .ok (.getfield 18, 3) := dq_180 dp_cX7_line rfl
theorem dX7_line_87 : decode cX7_line 87 = .ok (.getfield 199, 3) := dq_180 dp_cX7_line rfl
theorem dX7_line_90 : decode cX7_line 90 = .ok (.aload_n 0, 1) := dq_42 dp_cX7_line rfl
theorem dX7_line_91 : decode cX7_line 91 = .ok (.getfield 18, 3) := dq_180 dp_cX7_line rfl
theorem dX7_line_94 : decode cX7_line 94 = .ok (.getfield 202, 3) := dq_180 dp_cX7_line rfl
theorem dX7_line_97 : decode cX7_line 97 = .ok (.invokevirtual 214, 3) := dq_182 dp_cX7_line rfl
theorem dX7_line_100 : decode cX7_line 100 = .ok (.ireturn, 1) := dq_172 dp_cX7_line rfl
set_option maxRecDepth 20000 in
theorem ggX7_haste_X7_within : GoodIn wsX7_haste wsX7_within := (dg_c 4 rfl rfl dg_0)
set_option maxRecDepth 20000 in
theorem gX7_haste_X7_within : GoodIn wsX7_haste (va_wsS RX7 67 yX7_within wsX7_within) := goodIn_app (dg_c 1 rfl rfl (dg_c 2 rfl rfl (dg_c 3 rfl rfl dg_0))) ggX7_haste_X7_within
set_option maxRecDepth 20000 in
theorem gl_X7_haste_X70 : GoodIn wsX7_haste wsX70 := (dg_t (dg_l (dg_l (dg_l (dg_r gw_wsX70)))))
theorem ggX7_haste_X7_refuse : GoodIn wsX7_haste wsX7_refuse := (dg_c 8 rfl rfl (dg_c 9 rfl rfl (dg_c 1 rfl rfl (dg_c 2 rfl rfl (dg_c 3 rfl rfl (dg_c 4 rfl rfl gl_X7_haste_X70))))))
set_option maxRecDepth 20000 in
theorem gX7_haste_X7_refuse : GoodIn wsX7_haste (wsV RX7 63 RX7 yX7_refuse wsX7_refuse) := goodIn_app (dg_c 5 rfl rfl (dg_c 6 rfl rfl (dg_c 7 rfl rfl (dg_c 3 rfl rfl dg_0)))) ggX7_haste_X7_refuse
set_option maxRecDepth 20000 in
theorem gl_X7_haste_X00 : GoodIn wsX7_haste wsX00 := (dg_t (dg_l (dg_l (dg_r gw_wsX00))))
theorem gl_X7_haste_X50 : GoodIn wsX7_haste wsX50 := (dg_t (dg_l (dg_r gw_wsX50)))
theorem gl_X7_haste_X20 : GoodIn wsX7_haste wsX20 := (dg_t (dg_r gw_wsX20))
theorem ggX7_haste_X7_casesBy : GoodIn wsX7_haste wsX7_casesBy := (dg_c 13 rfl rfl (goodIn_app (goodIn_app (goodIn_app (goodIn_app (goodIn_app (dg_c 14 rfl rfl (dg_c 15 rfl rfl (dg_c 16 rfl rfl (dg_c 17 rfl rfl (dg_c 18 rfl rfl (dg_c 19 rfl rfl (dg_c 20 rfl rfl (dg_c 21 rfl rfl (dg_c 22 rfl rfl (dg_c 23 rfl rfl (dg_c 24 rfl rfl (dg_c 25 rfl rfl (dg_c 26 rfl rfl (dg_c 27 rfl rfl (dg_c 28 rfl rfl (dg_c 29 rfl rfl (dg_c 30 rfl rfl (dg_c 31 rfl rfl (dg_c 32 rfl rfl (dg_c 33 rfl rfl (dg_c 34 rfl rfl (dg_c 35 rfl rfl (dg_c 36 rfl rfl (dg_c 37 rfl rfl dg_0)))))))))))))))))))))))) (goodIn_app (dg_c 38 rfl rfl (dg_c 39 rfl rfl (dg_c 40 rfl rfl (dg_c 41 rfl rfl (dg_c 42 rfl rfl (dg_c 43 rfl rfl (dg_c 44 rfl rfl (dg_c 45 rfl rfl (dg_c 46 rfl rfl (dg_c 47 rfl rfl (dg_c 48 rfl rfl (dg_c 2 rfl rfl (dg_c 3 rfl rfl (dg_c 4 rfl rfl (dg_c 49 rfl rfl (dg_c 50 rfl rfl (dg_c 51 rfl rfl (dg_c 52 rfl rfl (dg_c 53 rfl rfl (dg_c 54 rfl rfl (dg_c 55 rfl rfl (dg_c 56 rfl rfl (dg_c 57 rfl rfl (dg_c 58 rfl rfl dg_0)))))))))))))))))))))))) (goodIn_app (dg_c 59 rfl rfl (dg_c 60 rfl rfl (dg_c 61 rfl rfl (dg_c 62 rfl rfl (dg_c 63 rfl rfl (dg_c 64 rfl rfl (dg_c 65 rfl rfl (dg_c 66 rfl rfl (dg_c 67 rfl rfl (dg_c 68 rfl rfl (dg_c 69 rfl rfl (dg_c 70 rfl rfl (dg_c 71 rfl rfl (dg_c 72 rfl rfl (dg_c 73 rfl rfl (dg_c 74 rfl rfl (dg_c 75 rfl rfl (dg_c 76 rfl rfl (dg_c 77 rfl rfl (dg_c 78 rfl rfl (dg_c 79 rfl rfl (dg_c 80 rfl rfl (dg_c 81 rfl rfl (dg_c 82 rfl rfl dg_0)))))))))))))))))))))))) (dg_c 83 rfl rfl (dg_c 84 rfl rfl (dg_c 85 rfl rfl (dg_c 86 rfl rfl (dg_c 87 rfl rfl (dg_c 88 rfl rfl (dg_c 89 rfl rfl (dg_c 90 rfl rfl (dg_c 91 rfl rfl (dg_c 92 rfl rfl (dg_c 93 rfl rfl (dg_c 94 rfl rfl (dg_c 95 rfl rfl (dg_c 96 rfl rfl (dg_c 97 rfl rfl dg_0)))))))))))))))))) gl_X7_haste_X70) gl_X7_haste_X00) gl_X7_haste_X50) gl_X7_haste_X20))
set_option maxRecDepth 20000 in
theorem gX7_haste_X7_casesBy : GoodIn wsX7_haste (wsV RX7 217 RX7 yX7_casesBy wsX7_casesBy) := goodIn_app (dg_c 10 rfl rfl (dg_c 11 rfl rfl (dg_c 12 rfl rfl (dg_c 3 rfl rfl dg_0)))) ggX7_haste_X7_casesBy
theorem dX7_haste_0 : decode cX7_haste 0 = .ok (.iload_n 2, 1) := dq_28 dp_cX7_haste rfl
theorem dX7_haste_1 : decode cX7_haste 1 = .ok (.iconst 0, 1) := dq_3 dp_cX7_haste rfl
theorem dX7_haste_2 : decode cX7_haste 2 = .ok (.iconst 1, 1) := dq_4 dp_cX7_haste rfl
theorem dX7_haste_3 : decode cX7_haste 3 = .ok (.invokestatic 67, 3) := dq_184 dp_cX7_haste rfl
theorem dX7_haste_6 : decode cX7_haste 6 = .ok (.ifCond .ne 9, 3) := dq_154 (v := 9) dp_cX7_haste rfl rfl
theorem dX7_haste_9 : decode cX7_haste 9 = .ok (.aload_n 0, 1) := dq_42 dp_cX7_haste rfl
theorem dX7_haste_10 : decode cX7_haste 10 = .ok (.iconst 5, 1) := dq_8 dp_cX7_haste rfl
theorem dX7_haste_11 : decode cX7_haste 11 = .ok (.invokevirtual 63, 3) := dq_182 dp_cX7_haste rfl
theorem dX7_haste_14 : decode cX7_haste 14 = .ok (.ireturn, 1) := dq_172 dp_cX7_haste rfl
theorem dX7_haste_15 : decode cX7_haste 15 = .ok (.iload_n 1, 1) := dq_27 dp_cX7_haste rfl
theorem dX7_haste_16 : decode cX7_haste 16 = .ok (.iconst 0, 1) := dq_3 dp_cX7_haste rfl
theorem dX7_haste_17 : decode cX7_haste 17 = .ok (.iconst 4, 1) := dq_7 dp_cX7_haste rfl
theorem dX7_haste_18 : decode cX7_haste 18 = .ok (.invokestatic 67, 3) := dq_184 dp_cX7_haste rfl
theorem dX7_haste_21 : decode cX7_haste 21 = .ok (.ifCond .ne 10, 3) := dq_154 (v := 10) dp_cX7_haste rfl rfl
theorem dX7_haste_24 : decode cX7_haste 24 = .ok (.aload_n 0, 1) := dq_42 dp_cX7_haste rfl
theorem dX7_haste_25 : decode cX7_haste 25 = .ok (.bipush 6, 2) := dq_16 (v := 6) dp_cX7_haste rfl rfl
theorem dX7_haste_27 : decode cX7_haste 27 = .ok (.invokevirtual 63, 3) := dq_182 dp_cX7_haste rfl
theorem dX7_haste_30 : decode cX7_haste 30 = .ok (.ireturn, 1) := dq_172 dp_cX7_haste rfl
theorem dX7_haste_31 : decode cX7_haste 31 = .ok (.iload_n 2, 1) := dq_28 dp_cX7_haste rfl
theorem dX7_haste_32 : decode cX7_haste 32 = .ok (.iconst 1, 1) := dq_4 dp_cX7_haste rfl
theorem dX7_haste_33 : decode cX7_haste 33 = .ok (.if_icmp .ne 25, 3) := dq_160 (v := 25) dp_cX7_haste rfl rfl
theorem dX7_haste_36 : decode cX7_haste 36 = .ok (.aload_n 0, 1) := dq_42 dp_cX7_haste rfl
theorem dX7_haste_37 : decode cX7_haste 37 = .ok (.bipush 9, 2) := dq_16 (v := 9) dp_cX7_haste rfl rfl
theorem dX7_haste_39 : decode cX7_haste 39 = .ok (.iload_n 1, 1) := dq_27 dp_cX7_haste rfl
theorem dX7_haste_40 : decode cX7_haste 40 = .ok (.invokevirtual 217, 3) := dq_182 dp_cX7_haste rfl
theorem dX7_haste_43 : decode cX7_haste 43 = .ok (.aload_n 0, 1) := dq_42 dp_cX7_haste rfl
theorem dX7_haste_44 : decode cX7_haste 44 = .ok (.iconst 0, 1) := dq_3 dp_cX7_haste rfl
theorem dX7_haste_45 : decode cX7_haste 45 = .ok (.iload_n 1, 1) := dq_27 dp_cX7_haste rfl
theorem dX7_haste_46 : decode cX7_haste 46 = .ok (.invokevirtual 217, 3) := dq_182 dp_cX7_haste rfl
theorem dX7_haste_49 : decode cX7_haste 49 = .ok (.if_icmp .ge 7, 3) := dq_162 (v := 7) dp_cX7_haste rfl rfl
theorem dX7_haste_52 : decode cX7_haste 52 = .ok (.iconst 1, 1) := dq_4 dp_cX7_haste rfl
theorem dX7_haste_53 : decode cX7_haste 53 = .ok (.goto 4, 3) := dq_167 (v := 4) dp_cX7_haste rfl rfl
theorem dX7_haste_56 : decode cX7_haste 56 = .ok (.iconst 0, 1) := dq_3 dp_cX7_haste rfl
theorem dX7_haste_57 : decode cX7_haste 57 = .ok (.ireturn, 1) := dq_172 dp_cX7_haste rfl
theorem dX7_haste_58 : decode cX7_haste 58 = .ok (.iconst 0, 1) := dq_3 dp_cX7_haste rfl
theorem dX7_haste_59 : decode cX7_haste 59 = .ok (.istore_n 3, 1) := dq_62 dp_cX7_haste rfl
theorem dX7_haste_60 : decode cX7_haste 60 = .ok (.aload_n 0, 1) := dq_42 dp_cX7_haste rfl
theorem dX7_haste_61 : decode cX7_haste 61 = .ok (.iconst 0, 1) := dq_3 dp_cX7_haste rfl
theorem dX7_haste_62 : decode cX7_haste 62 = .ok (.iload_n 1, 1) := dq_27 dp_cX7_haste rfl
theorem dX7_haste_63 : decode cX7_haste 63 = .ok (.invokevirtual 217, 3) := dq_182 dp_cX7_haste rfl
theorem dX7_haste_66 : decode cX7_haste 66 = .ok (.istore 4, 2) := dq_54 dp_cX7_haste rfl
theorem dX7_haste_68 : decode cX7_haste 68 = .ok (.iconst 1, 1) := dq_4 dp_cX7_haste rfl
theorem dX7_haste_69 : decode cX7_haste 69 = .ok (.istore 5, 2) := dq_54 dp_cX7_haste rfl
theorem dX7_haste_71 : decode cX7_haste 71 = .ok (.iload 5, 2) := dq_21 dp_cX7_haste rfl
theorem dX7_haste_73 : decode cX7_haste 73 = .ok (.bipush 9, 2) := dq_16 (v := 9) dp_cX7_haste rfl rfl
theorem dX7_haste_75 : decode cX7_haste 75 = .ok (.if_icmp .gt 32, 3) := dq_163 (v := 32) dp_cX7_haste rfl rfl
theorem dX7_haste_78 : decode cX7_haste 78 = .ok (.aload_n 0, 1) := dq_42 dp_cX7_haste rfl
theorem dX7_haste_79 : decode cX7_haste 79 = .ok (.iload 5, 2) := dq_21 dp_cX7_haste rfl
theorem dX7_haste_81 : decode cX7_haste 81 = .ok (.iload_n 1, 1) := dq_27 dp_cX7_haste rfl
theorem dX7_haste_82 : decode cX7_haste 82 = .ok (.invokevirtual 217, 3) := dq_182 dp_cX7_haste rfl
theorem dX7_haste_85 : decode cX7_haste 85 = .ok (.istore 6, 2) := dq_54 dp_cX7_haste rfl
theorem dX7_haste_87 : decode cX7_haste 87 = .ok (.iload 6, 2) := dq_21 dp_cX7_haste rfl
theorem dX7_haste_89 : decode cX7_haste 89 = .ok (.iload 4, 2) := dq_21 dp_cX7_haste rfl
theorem dX7_haste_91 : decode cX7_haste 91 = .ok (.if_icmp .le 10, 3) := dq_164 (v := 10) dp_cX7_haste rfl rfl
theorem dX7_haste_94 : decode cX7_haste 94 = .ok (.iload 6, 2) := dq_21 dp_cX7_haste rfl
theorem dX7_haste_96 : decode cX7_haste 96 = .ok (.istore 4, 2) := dq_54 dp_cX7_haste rfl
theorem dX7_haste_98 : decode cX7_haste 98 = .ok (.iload 5, 2) := dq_21 dp_cX7_haste rfl
theorem dX7_haste_100 : decode cX7_haste 100 = .ok (.istore_n 3, 1) := dq_62 dp_cX7_haste rfl
theorem dX7_haste_101 : decode cX7_haste 101 = .ok (.iinc 5 1, 3) := dq_132 (v := 1) dp_cX7_haste rfl (by decide) rfl
theorem dX7_haste_104 : decode cX7_haste 104 = .ok (.goto (-33), 3) := dq_167 (v := 65503) dp_cX7_haste rfl rfl
theorem dX7_haste_107 : decode cX7_haste 107 = .ok (.iload_n 3, 1) := dq_29 dp_cX7_haste rfl
theorem dX7_haste_108 : decode cX7_haste 108 = .ok (.ireturn, 1) := dq_172 dp_cX7_haste rfl
set_option maxRecDepth 20000 in
theorem gl_X7_freed_X70 : GoodIn wsX7_freed wsX70 := (dg_t (dg_l (dg_l (dg_l (dg_r gw_wsX70)))))
theorem ggX7_freed_X7_shelfAt : GoodIn wsX7_freed wsX7_shelfAt := (dg_c 6 rfl rfl (dg_c 7 rfl rfl (dg_c 8 rfl rfl (dg_c 9 rfl rfl (dg_c 5 rfl rfl (dg_c 10 rfl rfl gl_X7_freed_X70))))))
set_option maxRecDepth 20000 in
theorem gX7_freed_X7_shelfAt : GoodIn wsX7_freed (wsV RX7 59 RX7 yX7_shelfAt wsX7_shelfAt) := goodIn_app (dg_c 2 rfl rfl (dg_c 3 rfl rfl (dg_c 4 rfl rfl (dg_c 5 rfl rfl dg_0)))) ggX7_freed_X7_shelfAt
set_option maxRecDepth 20000 in
theorem gl_X7_freed_X00 : GoodIn wsX7_freed wsX00 := (dg_t (dg_l (dg_l (dg_r gw_wsX00))))
theorem ggX7_freed_X0_pullAt : GoodIn wsX7_freed wsX0_pullAt := (dg_c 15 rfl rfl (dg_c 16 rfl rfl (dg_c 17 rfl rfl (dg_c 9 rfl rfl (dg_c 5 rfl rfl (dg_c 10 rfl rfl gl_X7_freed_X00))))))
set_option maxRecDepth 20000 in
theorem gX7_freed_X0_pullAt : GoodIn wsX7_freed (wsV RX7 100 RX0 yX0_pullAt wsX0_pullAt) := goodIn_app (dg_c 11 rfl rfl (dg_c 12 rfl rfl (dg_c 13 rfl rfl (dg_c 14 rfl rfl dg_0)))) ggX7_freed_X0_pullAt
set_option maxRecDepth 20000 in
theorem ggX7_freed_X7_refuse : GoodIn wsX7_freed wsX7_refuse := (dg_c 21 rfl rfl (dg_c 22 rfl rfl (dg_c 8 rfl rfl (dg_c 9 rfl rfl (dg_c 5 rfl rfl (dg_c 10 rfl rfl gl_X7_freed_X70))))))
set_option maxRecDepth 20000 in
theorem gX7_freed_X7_refuse : GoodIn wsX7_freed (wsV RX7 63 RX7 yX7_refuse wsX7_refuse) := goodIn_app (dg_c 18 rfl rfl (dg_c 19 rfl rfl (dg_c 20 rfl rfl (dg_c 5 rfl rfl dg_0)))) ggX7_freed_X7_refuse
set_option maxRecDepth 20000 in
theorem gl_X7_freed_X40 : GoodIn wsX7_freed wsX40 := (dg_t (dg_l (dg_r gw_wsX40)))
theorem ggX7_freed_X4_noBelief : GoodIn wsX7_freed wsX4_noBelief := (dg_c 27 rfl rfl (dg_c 28 rfl rfl (dg_c 29 rfl rfl (dg_c 30 rfl rfl (dg_c 31 rfl rfl (dg_c 26 rfl rfl (dg_c 32 rfl rfl (dg_c 33 rfl rfl (dg_c 34 rfl rfl (dg_c 35 rfl rfl (dg_c 36 rfl rfl (dg_c 37 rfl rfl (dg_c 38 rfl rfl (dg_c 39 rfl rfl (dg_c 40 rfl rfl (dg_c 41 rfl rfl (dg_c 42 rfl rfl (dg_c 43 rfl rfl (dg_c 44 rfl rfl (dg_c 45 rfl rfl (dg_c 46 rfl rfl (dg_c 9 rfl rfl (dg_c 5 rfl rfl (dg_c 10 rfl rfl gl_X7_freed_X40))))))))))))))))))))))))
set_option maxRecDepth 20000 in
theorem gX7_freed_X4_noBelief : GoodIn wsX7_freed (wsV RX7 220 RX4 yX4_noBelief wsX4_noBelief) := goodIn_app (dg_c 23 rfl rfl (dg_c 24 rfl rfl (dg_c 25 rfl rfl (dg_c 26 rfl rfl dg_0)))) ggX7_freed_X4_noBelief
set_option maxRecDepth 20000 in
theorem gl_X7_freed_X20 : GoodIn wsX7_freed wsX20 := (dg_t (dg_r gw_wsX20))
theorem ggX7_freed_X7_freedWeight : GoodIn wsX7_freed wsX7_freedWeight := (dg_c 50 rfl rfl (goodIn_app (goodIn_app (goodIn_app (goodIn_app (goodIn_app (dg_c 1 rfl rfl (dg_c 51 rfl rfl (dg_c 52 rfl rfl (dg_c 39 rfl rfl (dg_c 40 rfl rfl (dg_c 26 rfl rfl (dg_c 41 rfl rfl (dg_c 42 rfl rfl (dg_c 43 rfl rfl (dg_c 44 rfl rfl (dg_c 45 rfl rfl (dg_c 46 rfl rfl (dg_c 28 rfl rfl (dg_c 53 rfl rfl (dg_c 54 rfl rfl (dg_c 55 rfl rfl (dg_c 56 rfl rfl (dg_c 57 rfl rfl (dg_c 58 rfl rfl (dg_c 59 rfl rfl (dg_c 60 rfl rfl (dg_c 61 rfl rfl (dg_c 62 rfl rfl (dg_c 63 rfl rfl dg_0)))))))))))))))))))))))) (dg_c 64 rfl rfl (dg_c 65 rfl rfl (dg_c 66 rfl rfl (dg_c 67 rfl rfl (dg_c 68 rfl rfl (dg_c 69 rfl rfl (dg_c 70 rfl rfl dg_0)))))))) gl_X7_freed_X70) gl_X7_freed_X00) gl_X7_freed_X40) gl_X7_freed_X20))
set_option maxRecDepth 20000 in
theorem gX7_freed_X7_freedWeight : GoodIn wsX7_freed (wsV RX7 223 RX7 yX7_freedWeight wsX7_freedWeight) := goodIn_app (dg_c 47 rfl rfl (dg_c 48 rfl rfl (dg_c 49 rfl rfl (dg_c 5 rfl rfl dg_0)))) ggX7_freed_X7_freedWeight
theorem dX7_freed_0 : decode cX7_freed 0 = .ok (.aload_n 0, 1) := dq_42 dp_cX7_freed rfl
theorem dX7_freed_1 : decode cX7_freed 1 = .ok (.iload_n 1, 1) := dq_27 dp_cX7_freed rfl
theorem dX7_freed_2 : decode cX7_freed 2 = .ok (.invokevirtual 59, 3) := dq_182 dp_cX7_freed rfl
theorem dX7_freed_5 : decode cX7_freed 5 = .ok (.astore_n 3, 1) := dq_78 dp_cX7_freed rfl
theorem dX7_freed_6 : decode cX7_freed 6 = .ok (.aload_n 0, 1) := dq_42 dp_cX7_freed rfl
theorem dX7_freed_7 : decode cX7_freed 7 = .ok (.getfield 18, 3) := dq_180 dp_cX7_freed rfl
theorem dX7_freed_10 : decode cX7_freed 10 = .ok (.iload_n 2, 1) := dq_28 dp_cX7_freed rfl
theorem dX7_freed_11 : decode cX7_freed 11 = .ok (.invokevirtual 100, 3) := dq_182 dp_cX7_freed rfl
theorem dX7_freed_14 : decode cX7_freed 14 = .ok (.astore 4, 2) := dq_58 dp_cX7_freed rfl
theorem dX7_freed_16 : decode cX7_freed 16 = .ok (.aload_n 3, 1) := dq_45 dp_cX7_freed rfl
theorem dX7_freed_17 : decode cX7_freed 17 = .ok (.ifnull 8, 3) := dq_198 (v := 8) dp_cX7_freed rfl rfl
theorem dX7_freed_20 : decode cX7_freed 20 = .ok (.aload 4, 2) := dq_25 dp_cX7_freed rfl
theorem dX7_freed_22 : decode cX7_freed 22 = .ok (.ifnonnull 9, 3) := dq_199 (v := 9) dp_cX7_freed rfl rfl
theorem dX7_freed_25 : decode cX7_freed 25 = .ok (.aload_n 0, 1) := dq_42 dp_cX7_freed rfl
theorem dX7_freed_26 : decode cX7_freed 26 = .ok (.iconst 1, 1) := dq_4 dp_cX7_freed rfl
theorem dX7_freed_27 : decode cX7_freed 27 = .ok (.invokevirtual 63, 3) := dq_182 dp_cX7_freed rfl
theorem dX7_freed_30 : decode cX7_freed 30 = .ok (.ireturn, 1) := dq_172 dp_cX7_freed rfl
theorem dX7_freed_31 : decode cX7_freed 31 = .ok (.aload_n 3, 1) := dq_45 dp_cX7_freed rfl
theorem dX7_freed_32 : decode cX7_freed 32 = .ok (.invokevirtual 220, 3) := dq_182 dp_cX7_freed rfl
theorem dX7_freed_35 : decode cX7_freed 35 = .ok (.istore 5, 2) := dq_54 dp_cX7_freed rfl
theorem dX7_freed_37 : decode cX7_freed 37 = .ok (.iload 5, 2) := dq_21 dp_cX7_freed rfl
theorem dX7_freed_39 : decode cX7_freed 39 = .ok (.ifCond .eq 10, 3) := dq_153 (v := 10) dp_cX7_freed rfl rfl
theorem dX7_freed_42 : decode cX7_freed 42 = .ok (.aload_n 0, 1) := dq_42 dp_cX7_freed rfl
theorem dX7_freed_43 : decode cX7_freed 43 = .ok (.iload 5, 2) := dq_21 dp_cX7_freed rfl
theorem dX7_freed_45 : decode cX7_freed 45 = .ok (.invokevirtual 63, 3) := dq_182 dp_cX7_freed rfl
theorem dX7_freed_48 : decode cX7_freed 48 = .ok (.ireturn, 1) := dq_172 dp_cX7_freed rfl
theorem dX7_freed_49 : decode cX7_freed 49 = .ok (.aload_n 0, 1) := dq_42 dp_cX7_freed rfl
theorem dX7_freed_50 : decode cX7_freed 50 = .ok (.aload_n 3, 1) := dq_45 dp_cX7_freed rfl
theorem dX7_freed_51 : decode cX7_freed 51 = .ok (.aload 4, 2) := dq_25 dp_cX7_freed rfl
theorem dX7_freed_53 : decode cX7_freed 53 = .ok (.invokevirtual 223, 3) := dq_182 dp_cX7_freed rfl
theorem dX7_freed_56 : decode cX7_freed 56 = .ok (.ireturn, 1) := dq_172 dp_cX7_freed rfl
set_option maxRecDepth 20000 in
theorem gl_X7_best_X70 : GoodIn wsX7_best wsX70 := (dg_t (dg_l (dg_l (dg_l (dg_r gw_wsX70)))))
theorem ggX7_best_X7_shelfAt : GoodIn wsX7_best wsX7_shelfAt := (dg_c 7 rfl rfl (dg_c 8 rfl rfl (dg_c 9 rfl rfl (dg_c 10 rfl rfl (dg_c 6 rfl rfl (dg_c 11 rfl rfl gl_X7_best_X70))))))
set_option maxRecDepth 20000 in
theorem gX7_best_X7_shelfAt : GoodIn wsX7_best (wsV RX7 59 RX7 yX7_shelfAt wsX7_shelfAt) := goodIn_app (dg_c 3 rfl rfl (dg_c 4 rfl rfl (dg_c 5 rfl rfl (dg_c 6 rfl rfl dg_0)))) ggX7_best_X7_shelfAt
set_option maxRecDepth 20000 in
theorem ggX7_best_X7_refuseLower : GoodIn wsX7_best wsX7_refuseLower := (dg_c 15 rfl rfl (dg_c 16 rfl rfl (dg_c 17 rfl rfl (dg_c 18 rfl rfl (dg_c 6 rfl rfl (dg_c 19 rfl rfl (dg_c 20 rfl rfl (dg_c 9 rfl rfl (dg_c 10 rfl rfl (dg_c 11 rfl rfl gl_X7_best_X70))))))))))
set_option maxRecDepth 20000 in
theorem gX7_best_X7_refuseLower : GoodIn wsX7_best (wsV RX7 192 RX7 yX7_refuseLower wsX7_refuseLower) := goodIn_app (dg_c 12 rfl rfl (dg_c 13 rfl rfl (dg_c 14 rfl rfl (dg_c 6 rfl rfl dg_0)))) ggX7_best_X7_refuseLower
set_option maxRecDepth 20000 in
theorem gl_X7_best_X40 : GoodIn wsX7_best wsX40 := (dg_t (dg_l (dg_r gw_wsX40)))
theorem ggX7_best_X4_noBelief : GoodIn wsX7_best wsX4_noBelief := (dg_c 25 rfl rfl (dg_c 26 rfl rfl (dg_c 27 rfl rfl (dg_c 28 rfl rfl (dg_c 29 rfl rfl (dg_c 24 rfl rfl (dg_c 30 rfl rfl (dg_c 31 rfl rfl (dg_c 32 rfl rfl (dg_c 33 rfl rfl (dg_c 34 rfl rfl (dg_c 35 rfl rfl (dg_c 36 rfl rfl (dg_c 37 rfl rfl (dg_c 38 rfl rfl (dg_c 39 rfl rfl (dg_c 40 rfl rfl (dg_c 41 rfl rfl (dg_c 42 rfl rfl (dg_c 43 rfl rfl (dg_c 44 rfl rfl (dg_c 10 rfl rfl (dg_c 6 rfl rfl (dg_c 11 rfl rfl gl_X7_best_X40))))))))))))))))))))))))
set_option maxRecDepth 20000 in
theorem gX7_best_X4_noBelief : GoodIn wsX7_best (wsV RX7 220 RX4 yX4_noBelief wsX4_noBelief) := goodIn_app (dg_c 21 rfl rfl (dg_c 22 rfl rfl (dg_c 23 rfl rfl (dg_c 24 rfl rfl dg_0)))) ggX7_best_X4_noBelief
set_option maxRecDepth 20000 in
theorem gl_X7_best_X00 : GoodIn wsX7_best wsX00 := (dg_t (dg_l (dg_l (dg_r gw_wsX00))))
theorem ggX7_best_X0_pullAt : GoodIn wsX7_best wsX0_pullAt := (dg_c 49 rfl rfl (dg_c 50 rfl rfl (dg_c 51 rfl rfl (dg_c 10 rfl rfl (dg_c 6 rfl rfl (dg_c 11 rfl rfl gl_X7_best_X00))))))
set_option maxRecDepth 20000 in
theorem gX7_best_X0_pullAt : GoodIn wsX7_best (wsV RX7 100 RX0 yX0_pullAt wsX0_pullAt) := goodIn_app (dg_c 45 rfl rfl (dg_c 46 rfl rfl (dg_c 47 rfl rfl (dg_c 48 rfl rfl dg_0)))) ggX7_best_X0_pullAt
set_option maxRecDepth 20000 in
theorem gl_X7_best_X20 : GoodIn wsX7_best wsX20 := (dg_t (dg_r gw_wsX20))
theorem ggX7_best_X7_freedWeight : GoodIn wsX7_best wsX7_freedWeight := (dg_c 55 rfl rfl (goodIn_app (goodIn_app (goodIn_app (goodIn_app (goodIn_app (dg_c 1 rfl rfl (dg_c 56 rfl rfl (dg_c 57 rfl rfl (dg_c 37 rfl rfl (dg_c 38 rfl rfl (dg_c 24 rfl rfl (dg_c 39 rfl rfl (dg_c 40 rfl rfl (dg_c 41 rfl rfl (dg_c 42 rfl rfl (dg_c 43 rfl rfl (dg_c 44 rfl rfl (dg_c 26 rfl rfl (dg_c 58 rfl rfl (dg_c 59 rfl rfl (dg_c 60 rfl rfl (dg_c 61 rfl rfl (dg_c 62 rfl rfl (dg_c 63 rfl rfl (dg_c 64 rfl rfl (dg_c 65 rfl rfl (dg_c 66 rfl rfl (dg_c 67 rfl rfl (dg_c 68 rfl rfl dg_0)))))))))))))))))))))))) (dg_c 69 rfl rfl (dg_c 70 rfl rfl (dg_c 71 rfl rfl (dg_c 72 rfl rfl (dg_c 73 rfl rfl (dg_c 74 rfl rfl (dg_c 75 rfl rfl dg_0)))))))) gl_X7_best_X70) gl_X7_best_X00) gl_X7_best_X40) gl_X7_best_X20))
set_option maxRecDepth 20000 in
theorem gX7_best_X7_freedWeight : GoodIn wsX7_best (wsV RX7 223 RX7 yX7_freedWeight wsX7_freedWeight) := goodIn_app (dg_c 52 rfl rfl (dg_c 53 rfl rfl (dg_c 54 rfl rfl (dg_c 6 rfl rfl dg_0)))) ggX7_best_X7_freedWeight
theorem dX7_best_0 : decode cX7_best 0 = .ok (.aload_n 0, 1) := dq_42 dp_cX7_best rfl
theorem dX7_best_1 : decode cX7_best 1 = .ok (.iload_n 1, 1) := dq_27 dp_cX7_best rfl
theorem dX7_best_2 : decode cX7_best 2 = .ok (.invokevirtual 59, 3) := dq_182 dp_cX7_best rfl
theorem dX7_best_5 : decode cX7_best 5 = .ok (.astore_n 2, 1) := dq_77 dp_cX7_best rfl
theorem dX7_best_6 : decode cX7_best 6 = .ok (.aload_n 2, 1) := dq_44 dp_cX7_best rfl
theorem dX7_best_7 : decode cX7_best 7 = .ok (.ifnonnull 9, 3) := dq_199 (v := 9) dp_cX7_best rfl rfl
theorem dX7_best_10 : decode cX7_best 10 = .ok (.aload_n 0, 1) := dq_42 dp_cX7_best rfl
theorem dX7_best_11 : decode cX7_best 11 = .ok (.iconst 1, 1) := dq_4 dp_cX7_best rfl
theorem dX7_best_12 : decode cX7_best 12 = .ok (.invokevirtual 192, 3) := dq_182 dp_cX7_best rfl
theorem dX7_best_15 : decode cX7_best 15 = .ok (.ireturn, 1) := dq_172 dp_cX7_best rfl
theorem dX7_best_16 : decode cX7_best 16 = .ok (.aload_n 2, 1) := dq_44 dp_cX7_best rfl
theorem dX7_best_17 : decode cX7_best 17 = .ok (.invokevirtual 220, 3) := dq_182 dp_cX7_best rfl
theorem dX7_best_20 : decode cX7_best 20 = .ok (.istore_n 3, 1) := dq_62 dp_cX7_best rfl
theorem dX7_best_21 : decode cX7_best 21 = .ok (.iload_n 3, 1) := dq_29 dp_cX7_best rfl
theorem dX7_best_22 : decode cX7_best 22 = .ok (.ifCond .eq 9, 3) := dq_153 (v := 9) dp_cX7_best rfl rfl
theorem dX7_best_25 : decode cX7_best 25 = .ok (.aload_n 0, 1) := dq_42 dp_cX7_best rfl
theorem dX7_best_26 : decode cX7_best 26 = .ok (.iload_n 3, 1) := dq_29 dp_cX7_best rfl
theorem dX7_best_27 : decode cX7_best 27 = .ok (.invokevirtual 192, 3) := dq_182 dp_cX7_best rfl
theorem dX7_best_30 : decode cX7_best 30 = .ok (.ireturn, 1) := dq_172 dp_cX7_best rfl
theorem dX7_best_31 : decode cX7_best 31 = .ok (.iconst (-1), 1) := dq_2 dp_cX7_best rfl
theorem dX7_best_32 : decode cX7_best 32 = .ok (.istore 4, 2) := dq_54 dp_cX7_best rfl
theorem dX7_best_34 : decode cX7_best 34 = .ok (.iconst (-1), 1) := dq_2 dp_cX7_best rfl
theorem dX7_best_35 : decode cX7_best 35 = .ok (.istore 5, 2) := dq_54 dp_cX7_best rfl
theorem dX7_best_37 : decode cX7_best 37 = .ok (.iconst 0, 1) := dq_3 dp_cX7_best rfl
theorem dX7_best_38 : decode cX7_best 38 = .ok (.istore 6, 2) := dq_54 dp_cX7_best rfl
theorem dX7_best_40 : decode cX7_best 40 = .ok (.iload 6, 2) := dq_21 dp_cX7_best rfl
theorem dX7_best_42 : decode cX7_best 42 = .ok (.aload_n 0, 1) := dq_42 dp_cX7_best rfl
theorem dX7_best_43 : decode cX7_best 43 = .ok (.getfield 18, 3) := dq_180 dp_cX7_best rfl
theorem dX7_best_46 : decode cX7_best 46 = .ok (.getfield 123, 3) := dq_180 dp_cX7_best rfl
theorem dX7_best_49 : decode cX7_best 49 = .ok (.if_icmp .ge 53, 3) := dq_162 (v := 53) dp_cX7_best rfl rfl
theorem dX7_best_52 : decode cX7_best 52 = .ok (.aload_n 0, 1) := dq_42 dp_cX7_best rfl
theorem dX7_best_53 : decode cX7_best 53 = .ok (.getfield 18, 3) := dq_180 dp_cX7_best rfl
theorem dX7_best_56 : decode cX7_best 56 = .ok (.iload 6, 2) := dq_21 dp_cX7_best rfl
theorem dX7_best_58 : decode cX7_best 58 = .ok (.invokevirtual 100, 3) := dq_182 dp_cX7_best rfl
theorem dX7_best_61 : decode cX7_best 61 = .ok (.astore 7, 2) := dq_58 dp_cX7_best rfl
theorem dX7_best_63 : decode cX7_best 63 = .ok (.aload 7, 2) := dq_25 dp_cX7_best rfl
theorem dX7_best_65 : decode cX7_best 65 = .ok (.ifnonnull 7, 3) := dq_199 (v := 7) dp_cX7_best rfl rfl
theorem dX7_best_72 : decode cX7_best 72 = .ok (.aload_n 0, 1) := dq_42 dp_cX7_best rfl
theorem dX7_best_73 : decode cX7_best 73 = .ok (.aload_n 2, 1) := dq_44 dp_cX7_best rfl
theorem dX7_best_74 : decode cX7_best 74 = .ok (.aload 7, 2) := dq_25 dp_cX7_best rfl
theorem dX7_best_76 : decode cX7_best 76 = .ok (.invokevirtual 223, 3) := dq_182 dp_cX7_best rfl
theorem dX7_best_79 : decode cX7_best 79 = .ok (.istore 8, 2) := dq_54 dp_cX7_best rfl
theorem dX7_best_81 : decode cX7_best 81 = .ok (.iload 8, 2) := dq_21 dp_cX7_best rfl
theorem dX7_best_83 : decode cX7_best 83 = .ok (.iload 5, 2) := dq_21 dp_cX7_best rfl
theorem dX7_best_85 : decode cX7_best 85 = .ok (.if_icmp .le 11, 3) := dq_164 (v := 11) dp_cX7_best rfl rfl
theorem dX7_best_88 : decode cX7_best 88 = .ok (.iload 8, 2) := dq_21 dp_cX7_best rfl
theorem dX7_best_90 : decode cX7_best 90 = .ok (.istore 5, 2) := dq_54 dp_cX7_best rfl
theorem dX7_best_92 : decode cX7_best 92 = .ok (.iload 6, 2) := dq_21 dp_cX7_best rfl
theorem dX7_best_94 : decode cX7_best 94 = .ok (.istore 4, 2) := dq_54 dp_cX7_best rfl
theorem dX7_best_96 : decode cX7_best 96 = .ok (.iinc 6 1, 3) := dq_132 (v := 1) dp_cX7_best rfl (by decide) rfl
theorem dX7_best_99 : decode cX7_best 99 = .ok (.goto (-59), 3) := dq_167 (v := 65477) dp_cX7_best rfl rfl
theorem dX7_best_102 : decode cX7_best 102 = .ok (.iload 4, 2) := dq_21 dp_cX7_best rfl
theorem dX7_best_104 : decode cX7_best 104 = .ok (.ireturn, 1) := dq_172 dp_cX7_best rfl
set_option maxRecDepth 20000 in
theorem gl_X7_behind_X70 : GoodIn wsX7_behind wsX70 := (dg_t (dg_l (dg_l (dg_l (dg_r gw_wsX70)))))
theorem ggX7_behind_X7_shelfAt : GoodIn wsX7_behind wsX7_shelfAt := (dg_c 7 rfl rfl (dg_c 8 rfl rfl (dg_c 9 rfl rfl (dg_c 10 rfl rfl (dg_c 6 rfl rfl (dg_c 11 rfl rfl gl_X7_behind_X70))))))
set_option maxRecDepth 20000 in
theorem gX7_behind_X7_shelfAt : GoodIn wsX7_behind (wsV RX7 59 RX7 yX7_shelfAt wsX7_shelfAt) := goodIn_app (dg_c 3 rfl rfl (dg_c 4 rfl rfl (dg_c 5 rfl rfl (dg_c 6 rfl rfl dg_0)))) ggX7_behind_X7_shelfAt
set_option maxRecDepth 20000 in
theorem gl_X7_behind_X00 : GoodIn wsX7_behind wsX00 := (dg_t (dg_l (dg_l (dg_r gw_wsX00))))
theorem ggX7_behind_X0_pullAt : GoodIn wsX7_behind wsX0_pullAt := (dg_c 16 rfl rfl (dg_c 17 rfl rfl (dg_c 18 rfl rfl (dg_c 10 rfl rfl (dg_c 6 rfl rfl (dg_c 11 rfl rfl gl_X7_behind_X00))))))
set_option maxRecDepth 20000 in
theorem gX7_behind_X0_pullAt : GoodIn wsX7_behind (wsV RX7 100 RX0 yX0_pullAt wsX0_pullAt) := goodIn_app (dg_c 12 rfl rfl (dg_c 13 rfl rfl (dg_c 14 rfl rfl (dg_c 15 rfl rfl dg_0)))) ggX7_behind_X0_pullAt
set_option maxRecDepth 20000 in
theorem ggX7_behind_X7_refuse : GoodIn wsX7_behind wsX7_refuse := (dg_c 22 rfl rfl (dg_c 23 rfl rfl (dg_c 9 rfl rfl (dg_c 10 rfl rfl (dg_c 6 rfl rfl (dg_c 11 rfl rfl gl_X7_behind_X70))))))
set_option maxRecDepth 20000 in
theorem gX7_behind_X7_refuse : GoodIn wsX7_behind (wsV RX7 63 RX7 yX7_refuse wsX7_refuse) := goodIn_app (dg_c 19 rfl rfl (dg_c 20 rfl rfl (dg_c 21 rfl rfl (dg_c 6 rfl rfl dg_0)))) ggX7_behind_X7_refuse
set_option maxRecDepth 20000 in
theorem gl_X7_behind_X40 : GoodIn wsX7_behind wsX40 := (dg_t (dg_l (dg_r gw_wsX40)))
theorem ggX7_behind_X4_noBelief : GoodIn wsX7_behind wsX4_noBelief := (dg_c 28 rfl rfl (dg_c 29 rfl rfl (dg_c 30 rfl rfl (dg_c 31 rfl rfl (dg_c 32 rfl rfl (dg_c 27 rfl rfl (dg_c 33 rfl rfl (dg_c 34 rfl rfl (dg_c 35 rfl rfl (dg_c 36 rfl rfl (dg_c 37 rfl rfl (dg_c 38 rfl rfl (dg_c 39 rfl rfl (dg_c 40 rfl rfl (dg_c 41 rfl rfl (dg_c 42 rfl rfl (dg_c 43 rfl rfl (dg_c 44 rfl rfl (dg_c 45 rfl rfl (dg_c 46 rfl rfl (dg_c 47 rfl rfl (dg_c 10 rfl rfl (dg_c 6 rfl rfl (dg_c 11 rfl rfl gl_X7_behind_X40))))))))))))))))))))))))
set_option maxRecDepth 20000 in
theorem gX7_behind_X4_noBelief : GoodIn wsX7_behind (wsV RX7 220 RX4 yX4_noBelief wsX4_noBelief) := goodIn_app (dg_c 24 rfl rfl (dg_c 25 rfl rfl (dg_c 26 rfl rfl (dg_c 27 rfl rfl dg_0)))) ggX7_behind_X4_noBelief
set_option maxRecDepth 20000 in
theorem ggX7_behind_X7_within : GoodIn wsX7_behind wsX7_within := (dg_c 11 rfl rfl dg_0)
set_option maxRecDepth 20000 in
theorem gX7_behind_X7_within : GoodIn wsX7_behind (va_wsS RX7 67 yX7_within wsX7_within) := goodIn_app (dg_c 9 rfl rfl (dg_c 10 rfl rfl (dg_c 6 rfl rfl dg_0))) ggX7_behind_X7_within
set_option maxRecDepth 20000 in
theorem ggX7_behind_X4_tells : GoodIn wsX7_behind wsX4_tells := (dg_c 42 rfl rfl (dg_c 43 rfl rfl (dg_c 44 rfl rfl (dg_c 45 rfl rfl (dg_c 46 rfl rfl (dg_c 27 rfl rfl (dg_c 47 rfl rfl (dg_c 29 rfl rfl gl_X7_behind_X40))))))))
set_option maxRecDepth 20000 in
theorem gX7_behind_X4_tells : GoodIn wsX7_behind (wsV RX7 227 RX4 yX4_tells wsX4_tells) := goodIn_app (dg_c 48 rfl rfl (dg_c 40 rfl rfl (dg_c 41 rfl rfl (dg_c 27 rfl rfl dg_0)))) ggX7_behind_X4_tells
set_option maxRecDepth 20000 in
theorem gl_X7_behind_X20 : GoodIn wsX7_behind wsX20 := (dg_t (dg_r gw_wsX20))
theorem ggX7_behind_X2_waysAt : GoodIn wsX7_behind wsX2_waysAt := (dg_c 53 rfl rfl (dg_c 54 rfl rfl (dg_c 55 rfl rfl (dg_c 56 rfl rfl (dg_c 57 rfl rfl (dg_c 58 rfl rfl (dg_c 59 rfl rfl (dg_c 60 rfl rfl (dg_c 61 rfl rfl (dg_c 62 rfl rfl (dg_c 63 rfl rfl (dg_c 64 rfl rfl (dg_c 52 rfl rfl (dg_c 65 rfl rfl (dg_c 66 rfl rfl gl_X7_behind_X20)))))))))))))))
set_option maxRecDepth 20000 in
theorem gX7_behind_X2_waysAt : GoodIn wsX7_behind (wsV RX7 119 RX2 yX2_waysAt wsX2_waysAt) := goodIn_app (dg_c 49 rfl rfl (dg_c 50 rfl rfl (dg_c 51 rfl rfl (dg_c 52 rfl rfl dg_0)))) ggX7_behind_X2_waysAt
set_option maxRecDepth 20000 in
theorem ggX7_behind_X2_shallower : GoodIn wsX7_behind wsX2_shallower := (dg_c 70 rfl rfl (dg_c 59 rfl rfl (dg_c 60 rfl rfl (dg_c 57 rfl rfl (dg_c 61 rfl rfl (dg_c 71 rfl rfl (dg_c 72 rfl rfl (dg_c 73 rfl rfl (dg_c 52 rfl rfl (dg_c 74 rfl rfl (dg_c 54 rfl rfl (dg_c 66 rfl rfl gl_X7_behind_X20))))))))))))
set_option maxRecDepth 20000 in
theorem gX7_behind_X2_shallower : GoodIn wsX7_behind (wsV RX7 186 RX2 yX2_shallower wsX2_shallower) := goodIn_app (dg_c 67 rfl rfl (dg_c 68 rfl rfl (dg_c 69 rfl rfl (dg_c 52 rfl rfl dg_0)))) ggX7_behind_X2_shallower
set_option maxRecDepth 20000 in
theorem ggX7_behind_X2_deeper : GoodIn wsX7_behind wsX2_deeper := (dg_c 78 rfl rfl (dg_c 54 rfl rfl (dg_c 66 rfl rfl (dg_c 55 rfl rfl (dg_c 56 rfl rfl (dg_c 57 rfl rfl (dg_c 58 rfl rfl gl_X7_behind_X20)))))))
set_option maxRecDepth 20000 in
theorem gX7_behind_X2_deeper : GoodIn wsX7_behind (wsV RX7 189 RX2 yX2_deeper wsX2_deeper) := goodIn_app (dg_c 75 rfl rfl (dg_c 76 rfl rfl (dg_c 77 rfl rfl (dg_c 52 rfl rfl dg_0)))) ggX7_behind_X2_deeper
theorem dX7_behind_0 : decode cX7_behind 0 = .ok (.aload_n 0, 1) := dq_42 dp_cX7_behind rfl
theorem dX7_behind_1 : decode cX7_behind 1 = .ok (.iload_n 1, 1) := dq_27 dp_cX7_behind rfl
theorem dX7_behind_2 : decode cX7_behind 2 = .ok (.invokevirtual 59, 3) := dq_182 dp_cX7_behind rfl
theorem dX7_behind_5 : decode cX7_behind 5 = .ok (.astore 4, 2) := dq_58 dp_cX7_behind rfl
theorem dX7_behind_7 : decode cX7_behind 7 = .ok (.aload_n 0, 1) := dq_42 dp_cX7_behind rfl
theorem dX7_behind_8 : decode cX7_behind 8 = .ok (.getfield 18, 3) := dq_180 dp_cX7_behind rfl
theorem dX7_behind_11 : decode cX7_behind 11 = .ok (.iload_n 2, 1) := dq_28 dp_cX7_behind rfl
theorem dX7_behind_12 : decode cX7_behind 12 = .ok (.invokevirtual 100, 3) := dq_182 dp_cX7_behind rfl
theorem dX7_behind_15 : decode cX7_behind 15 = .ok (.astore 5, 2) := dq_58 dp_cX7_behind rfl
theorem dX7_behind_17 : decode cX7_behind 17 = .ok (.aload 4, 2) := dq_25 dp_cX7_behind rfl
theorem dX7_behind_19 : decode cX7_behind 19 = .ok (.ifnull 8, 3) := dq_198 (v := 8) dp_cX7_behind rfl rfl
theorem dX7_behind_22 : decode cX7_behind 22 = .ok (.aload 5, 2) := dq_25 dp_cX7_behind rfl
theorem dX7_behind_24 : decode cX7_behind 24 = .ok (.ifnonnull 9, 3) := dq_199 (v := 9) dp_cX7_behind rfl rfl
theorem dX7_behind_27 : decode cX7_behind 27 = .ok (.aload_n 0, 1) := dq_42 dp_cX7_behind rfl
theorem dX7_behind_28 : decode cX7_behind 28 = .ok (.iconst 1, 1) := dq_4 dp_cX7_behind rfl
theorem dX7_behind_29 : decode cX7_behind 29 = .ok (.invokevirtual 63, 3) := dq_182 dp_cX7_behind rfl
theorem dX7_behind_32 : decode cX7_behind 32 = .ok (.ireturn, 1) := dq_172 dp_cX7_behind rfl
theorem dX7_behind_33 : decode cX7_behind 33 = .ok (.aload 4, 2) := dq_25 dp_cX7_behind rfl
theorem dX7_behind_35 : decode cX7_behind 35 = .ok (.invokevirtual 220, 3) := dq_182 dp_cX7_behind rfl
theorem dX7_behind_38 : decode cX7_behind 38 = .ok (.istore 6, 2) := dq_54 dp_cX7_behind rfl
theorem dX7_behind_40 : decode cX7_behind 40 = .ok (.iload 6, 2) := dq_21 dp_cX7_behind rfl
theorem dX7_behind_42 : decode cX7_behind 42 = .ok (.ifCond .eq 10, 3) := dq_153 (v := 10) dp_cX7_behind rfl rfl
theorem dX7_behind_45 : decode cX7_behind 45 = .ok (.aload_n 0, 1) := dq_42 dp_cX7_behind rfl
theorem dX7_behind_46 : decode cX7_behind 46 = .ok (.iload 6, 2) := dq_21 dp_cX7_behind rfl
theorem dX7_behind_48 : decode cX7_behind 48 = .ok (.invokevirtual 63, 3) := dq_182 dp_cX7_behind rfl
theorem dX7_behind_51 : decode cX7_behind 51 = .ok (.ireturn, 1) := dq_172 dp_cX7_behind rfl
theorem dX7_behind_52 : decode cX7_behind 52 = .ok (.iload_n 3, 1) := dq_29 dp_cX7_behind rfl
theorem dX7_behind_53 : decode cX7_behind 53 = .ok (.iconst 0, 1) := dq_3 dp_cX7_behind rfl
theorem dX7_behind_54 : decode cX7_behind 54 = .ok (.bipush 24, 2) := dq_16 (v := 24) dp_cX7_behind rfl rfl
theorem dX7_behind_56 : decode cX7_behind 56 = .ok (.invokestatic 67, 3) := dq_184 dp_cX7_behind rfl
theorem dX7_behind_59 : decode cX7_behind 59 = .ok (.ifCond .ne 10, 3) := dq_154 (v := 10) dp_cX7_behind rfl rfl
theorem dX7_behind_62 : decode cX7_behind 62 = .ok (.aload_n 0, 1) := dq_42 dp_cX7_behind rfl
theorem dX7_behind_63 : decode cX7_behind 63 = .ok (.bipush 6, 2) := dq_16 (v := 6) dp_cX7_behind rfl rfl
theorem dX7_behind_65 : decode cX7_behind 65 = .ok (.invokevirtual 63, 3) := dq_182 dp_cX7_behind rfl
theorem dX7_behind_68 : decode cX7_behind 68 = .ok (.ireturn, 1) := dq_172 dp_cX7_behind rfl
theorem dX7_behind_69 : decode cX7_behind 69 = .ok (.iload_n 3, 1) := dq_29 dp_cX7_behind rfl
theorem dX7_behind_70 : decode cX7_behind 70 = .ok (.ifCond .ne 15, 3) := dq_154 (v := 15) dp_cX7_behind rfl rfl
theorem dX7_behind_73 : decode cX7_behind 73 = .ok (.aload 4, 2) := dq_25 dp_cX7_behind rfl
theorem dX7_behind_75 : decode cX7_behind 75 = .ok (.iconst 0, 1) := dq_3 dp_cX7_behind rfl
theorem dX7_behind_76 : decode cX7_behind 76 = .ok (.invokevirtual 227, 3) := dq_182 dp_cX7_behind rfl
theorem dX7_behind_79 : decode cX7_behind 79 = .ok (.bipush 12, 2) := dq_16 (v := 12) dp_cX7_behind rfl rfl
theorem dX7_behind_81 : decode cX7_behind 81 = .ok (.imul, 1) := dq_104 dp_cX7_behind rfl
theorem dX7_behind_82 : decode cX7_behind 82 = .ok (.goto 4, 3) := dq_167 (v := 4) dp_cX7_behind rfl rfl
theorem dX7_behind_85 : decode cX7_behind 85 = .ok (.iconst 0, 1) := dq_3 dp_cX7_behind rfl
theorem dX7_behind_86 : decode cX7_behind 86 = .ok (.istore 7, 2) := dq_54 dp_cX7_behind rfl
theorem dX7_behind_88 : decode cX7_behind 88 = .ok (.iconst 1, 1) := dq_4 dp_cX7_behind rfl
theorem dX7_behind_89 : decode cX7_behind 89 = .ok (.istore 8, 2) := dq_54 dp_cX7_behind rfl
theorem dX7_behind_91 : decode cX7_behind 91 = .ok (.iload 8, 2) := dq_21 dp_cX7_behind rfl
theorem dX7_behind_93 : decode cX7_behind 93 = .ok (.bipush 24, 2) := dq_16 (v := 24) dp_cX7_behind rfl rfl
theorem dX7_behind_95 : decode cX7_behind 95 = .ok (.if_icmp .gt 87, 3) := dq_163 (v := 87) dp_cX7_behind rfl rfl
theorem dX7_behind_98 : decode cX7_behind 98 = .ok (.aload 5, 2) := dq_25 dp_cX7_behind rfl
theorem dX7_behind_100 : decode cX7_behind 100 = .ok (.iload 8, 2) := dq_21 dp_cX7_behind rfl
theorem dX7_behind_102 : decode cX7_behind 102 = .ok (.aload_n 0, 1) := dq_42 dp_cX7_behind rfl
theorem dX7_behind_103 : decode cX7_behind 103 = .ok (.getfield 18, 3) := dq_180 dp_cX7_behind rfl
theorem dX7_behind_106 : decode cX7_behind 106 = .ok (.getfield 116, 3) := dq_180 dp_cX7_behind rfl
theorem dX7_behind_109 : decode cX7_behind 109 = .ok (.invokevirtual 119, 3) := dq_182 dp_cX7_behind rfl
theorem dX7_behind_112 : decode cX7_behind 112 = .ok (.istore 9, 2) := dq_54 dp_cX7_behind rfl
theorem dX7_behind_114 : decode cX7_behind 114 = .ok (.aload 5, 2) := dq_25 dp_cX7_behind rfl
theorem dX7_behind_116 : decode cX7_behind 116 = .ok (.iload 8, 2) := dq_21 dp_cX7_behind rfl
theorem dX7_behind_118 : decode cX7_behind 118 = .ok (.invokevirtual 186, 3) := dq_182 dp_cX7_behind rfl
theorem dX7_behind_121 : decode cX7_behind 121 = .ok (.iload_n 3, 1) := dq_29 dp_cX7_behind rfl
theorem dX7_behind_122 : decode cX7_behind 122 = .ok (.if_icmp .ne 18, 3) := dq_160 (v := 18) dp_cX7_behind rfl rfl
theorem dX7_behind_125 : decode cX7_behind 125 = .ok (.iload 7, 2) := dq_21 dp_cX7_behind rfl
theorem dX7_behind_127 : decode cX7_behind 127 = .ok (.aload 4, 2) := dq_25 dp_cX7_behind rfl
theorem dX7_behind_129 : decode cX7_behind 129 = .ok (.iload 8, 2) := dq_21 dp_cX7_behind rfl
theorem dX7_behind_131 : decode cX7_behind 131 = .ok (.invokevirtual 227, 3) := dq_182 dp_cX7_behind rfl
theorem dX7_behind_134 : decode cX7_behind 134 = .ok (.iload 9, 2) := dq_21 dp_cX7_behind rfl
theorem dX7_behind_136 : decode cX7_behind 136 = .ok (.imul, 1) := dq_104 dp_cX7_behind rfl
theorem dX7_behind_137 : decode cX7_behind 137 = .ok (.iadd, 1) := dq_96 dp_cX7_behind rfl
theorem dX7_behind_138 : decode cX7_behind 138 = .ok (.istore 7, 2) := dq_54 dp_cX7_behind rfl
theorem dX7_behind_140 : decode cX7_behind 140 = .ok (.aload 5, 2) := dq_25 dp_cX7_behind rfl
theorem dX7_behind_142 : decode cX7_behind 142 = .ok (.iload 8, 2) := dq_21 dp_cX7_behind rfl
theorem dX7_behind_144 : decode cX7_behind 144 = .ok (.aload_n 0, 1) := dq_42 dp_cX7_behind rfl
theorem dX7_behind_145 : decode cX7_behind 145 = .ok (.getfield 18, 3) := dq_180 dp_cX7_behind rfl
theorem dX7_behind_148 : decode cX7_behind 148 = .ok (.getfield 116, 3) := dq_180 dp_cX7_behind rfl
theorem dX7_behind_151 : decode cX7_behind 151 = .ok (.invokevirtual 189, 3) := dq_182 dp_cX7_behind rfl
theorem dX7_behind_154 : decode cX7_behind 154 = .ok (.iload_n 3, 1) := dq_29 dp_cX7_behind rfl
theorem dX7_behind_155 : decode cX7_behind 155 = .ok (.if_icmp .ne 21, 3) := dq_160 (v := 21) dp_cX7_behind rfl rfl
theorem dX7_behind_158 : decode cX7_behind 158 = .ok (.iload 7, 2) := dq_21 dp_cX7_behind rfl
theorem dX7_behind_160 : decode cX7_behind 160 = .ok (.aload 4, 2) := dq_25 dp_cX7_behind rfl
theorem dX7_behind_162 : decode cX7_behind 162 = .ok (.iload 8, 2) := dq_21 dp_cX7_behind rfl
theorem dX7_behind_164 : decode cX7_behind 164 = .ok (.invokevirtual 227, 3) := dq_182 dp_cX7_behind rfl
theorem dX7_behind_167 : decode cX7_behind 167 = .ok (.bipush 12, 2) := dq_16 (v := 12) dp_cX7_behind rfl rfl
theorem dX7_behind_169 : decode cX7_behind 169 = .ok (.iload 9, 2) := dq_21 dp_cX7_behind rfl
theorem dX7_behind_171 : decode cX7_behind 171 = .ok (.isub, 1) := dq_100 dp_cX7_behind rfl
theorem dX7_behind_172 : decode cX7_behind 172 = .ok (.imul, 1) := dq_104 dp_cX7_behind rfl
theorem dX7_behind_173 : decode cX7_behind 173 = .ok (.iadd, 1) := dq_96 dp_cX7_behind rfl
theorem dX7_behind_174 : decode cX7_behind 174 = .ok (.istore 7, 2) := dq_54 dp_cX7_behind rfl
theorem dX7_behind_176 : decode cX7_behind 176 = .ok (.iinc 8 1, 3) := dq_132 (v := 1) dp_cX7_behind rfl (by decide) rfl
theorem dX7_behind_179 : decode cX7_behind 179 = .ok (.goto (-88), 3) := dq_167 (v := 65448) dp_cX7_behind rfl rfl
theorem dX7_behind_182 : decode cX7_behind 182 = .ok (.iload 7, 2) := dq_21 dp_cX7_behind rfl
theorem dX7_behind_184 : decode cX7_behind 184 = .ok (.ireturn, 1) := dq_172 dp_cX7_behind rfl
set_option maxRecDepth 20000 in
theorem gl_X7_strong_X60 : GoodIn wsX7_strong wsX60 := (dg_t (dg_r gw_wsX60))
theorem ggX7_strong_X6_isStrong : GoodIn wsX7_strong wsX6_isStrong := (dg_c 7 rfl rfl (dg_c 8 rfl rfl (dg_c 9 rfl rfl (dg_c 10 rfl rfl (dg_c 11 rfl rfl (dg_c 6 rfl rfl (dg_c 12 rfl rfl (dg_c 13 rfl rfl (dg_c 14 rfl rfl (dg_c 15 rfl rfl (dg_c 16 rfl rfl (dg_c 17 rfl rfl (dg_c 18 rfl rfl (dg_c 19 rfl rfl (dg_c 20 rfl rfl (dg_c 21 rfl rfl gl_X7_strong_X60))))))))))))))))
set_option maxRecDepth 20000 in
theorem gX7_strong_X6_isStrong : GoodIn wsX7_strong (wsV RX7 230 RX6 yX6_isStrong wsX6_isStrong) := goodIn_app (dg_c 3 rfl rfl (dg_c 4 rfl rfl (dg_c 5 rfl rfl (dg_c 6 rfl rfl dg_0)))) ggX7_strong_X6_isStrong
set_option maxRecDepth 20000 in
theorem ggX7_strong_X6_frailTeeth : GoodIn wsX7_strong wsX6_frailTeeth := (dg_c 25 rfl rfl (dg_c 8 rfl rfl (dg_c 17 rfl rfl (dg_c 26 rfl rfl (dg_c 4 rfl rfl (dg_c 5 rfl rfl (dg_c 6 rfl rfl (dg_c 7 rfl rfl (dg_c 9 rfl rfl (dg_c 10 rfl rfl (dg_c 11 rfl rfl (dg_c 12 rfl rfl (dg_c 13 rfl rfl (dg_c 14 rfl rfl (dg_c 15 rfl rfl (dg_c 16 rfl rfl (dg_c 18 rfl rfl (dg_c 19 rfl rfl (dg_c 20 rfl rfl (dg_c 21 rfl rfl (dg_c 27 rfl rfl (dg_c 28 rfl rfl (dg_c 29 rfl rfl (dg_c 30 rfl rfl gl_X7_strong_X60))))))))))))))))))))))))
set_option maxRecDepth 20000 in
theorem gX7_strong_X6_frailTeeth : GoodIn wsX7_strong (wsV RX7 234 RX6 yX6_frailTeeth wsX6_frailTeeth) := goodIn_app (dg_c 22 rfl rfl (dg_c 23 rfl rfl (dg_c 24 rfl rfl (dg_c 6 rfl rfl dg_0)))) ggX7_strong_X6_frailTeeth
set_option maxRecDepth 20000 in
theorem ggX7_strong_X6_spareTeeth : GoodIn wsX7_strong wsX6_spareTeeth := (dg_c 34 rfl rfl (dg_c 8 rfl rfl (dg_c 17 rfl rfl (dg_c 35 rfl rfl (dg_c 36 rfl rfl (dg_c 37 rfl rfl (dg_c 38 rfl rfl (dg_c 26 rfl rfl (dg_c 4 rfl rfl (dg_c 5 rfl rfl (dg_c 6 rfl rfl (dg_c 7 rfl rfl (dg_c 9 rfl rfl (dg_c 10 rfl rfl (dg_c 11 rfl rfl (dg_c 12 rfl rfl (dg_c 13 rfl rfl (dg_c 14 rfl rfl (dg_c 15 rfl rfl (dg_c 16 rfl rfl (dg_c 18 rfl rfl (dg_c 19 rfl rfl (dg_c 20 rfl rfl (dg_c 21 rfl rfl gl_X7_strong_X60))))))))))))))))))))))))
set_option maxRecDepth 20000 in
theorem gX7_strong_X6_spareTeeth : GoodIn wsX7_strong (wsV RX7 237 RX6 yX6_spareTeeth wsX6_spareTeeth) := goodIn_app (dg_c 31 rfl rfl (dg_c 32 rfl rfl (dg_c 33 rfl rfl (dg_c 6 rfl rfl dg_0)))) ggX7_strong_X6_spareTeeth
set_option maxRecDepth 20000 in
theorem ggX7_strong_X6_lackingTeeth : GoodIn wsX7_strong wsX6_lackingTeeth := (dg_c 42 rfl rfl (dg_c 8 rfl rfl (dg_c 17 rfl rfl gl_X7_strong_X60)))
set_option maxRecDepth 20000 in
theorem gX7_strong_X6_lackingTeeth : GoodIn wsX7_strong (wsV RX7 240 RX6 yX6_lackingTeeth wsX6_lackingTeeth) := goodIn_app (dg_c 39 rfl rfl (dg_c 40 rfl rfl (dg_c 41 rfl rfl (dg_c 6 rfl rfl dg_0)))) ggX7_strong_X6_lackingTeeth
set_option maxRecDepth 20000 in
theorem gl_X7_strong_X70 : GoodIn wsX7_strong wsX70 := (dg_t (dg_l (dg_l (dg_r gw_wsX70))))
theorem ggX7_strong_X7_refuse : GoodIn wsX7_strong wsX7_refuse := (dg_c 47 rfl rfl (dg_c 48 rfl rfl (dg_c 49 rfl rfl (dg_c 50 rfl rfl (dg_c 46 rfl rfl (dg_c 51 rfl rfl gl_X7_strong_X70))))))
set_option maxRecDepth 20000 in
theorem gX7_strong_X7_refuse : GoodIn wsX7_strong (wsV RX7 63 RX7 yX7_refuse wsX7_refuse) := goodIn_app (dg_c 43 rfl rfl (dg_c 44 rfl rfl (dg_c 45 rfl rfl (dg_c 46 rfl rfl dg_0)))) ggX7_strong_X7_refuse
theorem dX7_strong_0 : decode cX7_strong 0 = .ok (.iload_n 1, 1) := dq_27 dp_cX7_strong rfl
theorem dX7_strong_1 : decode cX7_strong 1 = .ok (.tableswitch 83 0 3 #[31, 50, 61, 72], 31) := by decide +kernel
theorem dX7_strong_32 : decode cX7_strong 32 = .ok (.aload_n 0, 1) := dq_42 dp_cX7_strong rfl
theorem dX7_strong_33 : decode cX7_strong 33 = .ok (.getfield 18, 3) := dq_180 dp_cX7_strong rfl
theorem dX7_strong_36 : decode cX7_strong 36 = .ok (.getfield 140, 3) := dq_180 dp_cX7_strong rfl
theorem dX7_strong_39 : decode cX7_strong 39 = .ok (.invokevirtual 230, 3) := dq_182 dp_cX7_strong rfl
theorem dX7_strong_42 : decode cX7_strong 42 = .ok (.ifCond .eq 7, 3) := dq_153 (v := 7) dp_cX7_strong rfl rfl
theorem dX7_strong_45 : decode cX7_strong 45 = .ok (.iconst 1, 1) := dq_4 dp_cX7_strong rfl
theorem dX7_strong_46 : decode cX7_strong 46 = .ok (.goto 4, 3) := dq_167 (v := 4) dp_cX7_strong rfl rfl
theorem dX7_strong_49 : decode cX7_strong 49 = .ok (.iconst 0, 1) := dq_3 dp_cX7_strong rfl
theorem dX7_strong_50 : decode cX7_strong 50 = .ok (.ireturn, 1) := dq_172 dp_cX7_strong rfl
theorem dX7_strong_51 : decode cX7_strong 51 = .ok (.aload_n 0, 1) := dq_42 dp_cX7_strong rfl
theorem dX7_strong_52 : decode cX7_strong 52 = .ok (.getfield 18, 3) := dq_180 dp_cX7_strong rfl
theorem dX7_strong_55 : decode cX7_strong 55 = .ok (.getfield 140, 3) := dq_180 dp_cX7_strong rfl
theorem dX7_strong_58 : decode cX7_strong 58 = .ok (.invokevirtual 234, 3) := dq_182 dp_cX7_strong rfl
theorem dX7_strong_61 : decode cX7_strong 61 = .ok (.ireturn, 1) := dq_172 dp_cX7_strong rfl
theorem dX7_strong_62 : decode cX7_strong 62 = .ok (.aload_n 0, 1) := dq_42 dp_cX7_strong rfl
theorem dX7_strong_63 : decode cX7_strong 63 = .ok (.getfield 18, 3) := dq_180 dp_cX7_strong rfl
theorem dX7_strong_66 : decode cX7_strong 66 = .ok (.getfield 140, 3) := dq_180 dp_cX7_strong rfl
theorem dX7_strong_69 : decode cX7_strong 69 = .ok (.invokevirtual 237, 3) := dq_182 dp_cX7_strong rfl
theorem dX7_strong_72 : decode cX7_strong 72 = .ok (.ireturn, 1) := dq_172 dp_cX7_strong rfl
theorem dX7_strong_73 : decode cX7_strong 73 = .ok (.aload_n 0, 1) := dq_42 dp_cX7_strong rfl
theorem dX7_strong_74 : decode cX7_strong 74 = .ok (.getfield 18, 3) := dq_180 dp_cX7_strong rfl
theorem dX7_strong_77 : decode cX7_strong 77 = .ok (.getfield 140, 3) := dq_180 dp_cX7_strong rfl
theorem dX7_strong_80 : decode cX7_strong 80 = .ok (.invokevirtual 240, 3) := dq_182 dp_cX7_strong rfl
theorem dX7_strong_83 : decode cX7_strong 83 = .ok (.ireturn, 1) := dq_172 dp_cX7_strong rfl
theorem dX7_strong_84 : decode cX7_strong 84 = .ok (.aload_n 0, 1) := dq_42 dp_cX7_strong rfl
theorem dX7_strong_85 : decode cX7_strong 85 = .ok (.iconst 5, 1) := dq_8 dp_cX7_strong rfl
theorem dX7_strong_86 : decode cX7_strong 86 = .ok (.invokevirtual 63, 3) := dq_182 dp_cX7_strong rfl
theorem dX7_strong_89 : decode cX7_strong 89 = .ok (.ireturn, 1) := dq_172 dp_cX7_strong rfl
set_option maxRecDepth 20000 in
theorem gl_X7_catches_X60 : GoodIn wsX7_catches wsX60 := (dg_t (dg_r gw_wsX60))
theorem ggX7_catches_X6_catchingTeeth : GoodIn wsX7_catches wsX6_catchingTeeth := (dg_c 7 rfl rfl (dg_c 8 rfl rfl (dg_c 9 rfl rfl (dg_c 10 rfl rfl (dg_c 11 rfl rfl (dg_c 6 rfl rfl (dg_c 12 rfl rfl (dg_c 13 rfl rfl (dg_c 14 rfl rfl (dg_c 15 rfl rfl (dg_c 16 rfl rfl (dg_c 17 rfl rfl (dg_c 18 rfl rfl (dg_c 19 rfl rfl gl_X7_catches_X60))))))))))))))
set_option maxRecDepth 20000 in
theorem gX7_catches_X6_catchingTeeth : GoodIn wsX7_catches (wsV RX7 243 RX6 yX6_catchingTeeth wsX6_catchingTeeth) := goodIn_app (dg_c 3 rfl rfl (dg_c 4 rfl rfl (dg_c 5 rfl rfl (dg_c 6 rfl rfl dg_0)))) ggX7_catches_X6_catchingTeeth
set_option maxRecDepth 20000 in
theorem gl_X7_catches_X70 : GoodIn wsX7_catches wsX70 := (dg_t (dg_l (dg_l (dg_r gw_wsX70))))
theorem ggX7_catches_X7_refuse : GoodIn wsX7_catches wsX7_refuse := (dg_c 24 rfl rfl (dg_c 25 rfl rfl (dg_c 26 rfl rfl (dg_c 27 rfl rfl (dg_c 23 rfl rfl (dg_c 28 rfl rfl gl_X7_catches_X70))))))
set_option maxRecDepth 20000 in
theorem gX7_catches_X7_refuse : GoodIn wsX7_catches (wsV RX7 63 RX7 yX7_refuse wsX7_refuse) := goodIn_app (dg_c 20 rfl rfl (dg_c 21 rfl rfl (dg_c 22 rfl rfl (dg_c 23 rfl rfl dg_0)))) ggX7_catches_X7_refuse
theorem dX7_catches_0 : decode cX7_catches 0 = .ok (.aload_n 0, 1) := dq_42 dp_cX7_catches rfl
theorem dX7_catches_1 : decode cX7_catches 1 = .ok (.getfield 18, 3) := dq_180 dp_cX7_catches rfl
theorem dX7_catches_4 : decode cX7_catches 4 = .ok (.getfield 140, 3) := dq_180 dp_cX7_catches rfl
theorem dX7_catches_7 : decode cX7_catches 7 = .ok (.iload_n 1, 1) := dq_27 dp_cX7_catches rfl
theorem dX7_catches_8 : decode cX7_catches 8 = .ok (.invokevirtual 243, 3) := dq_182 dp_cX7_catches rfl
theorem dX7_catches_11 : decode cX7_catches 11 = .ok (.istore_n 2, 1) := dq_61 dp_cX7_catches rfl
theorem dX7_catches_12 : decode cX7_catches 12 = .ok (.iload_n 2, 1) := dq_28 dp_cX7_catches rfl
theorem dX7_catches_13 : decode cX7_catches 13 = .ok (.iconst (-1), 1) := dq_2 dp_cX7_catches rfl
theorem dX7_catches_14 : decode cX7_catches 14 = .ok (.if_icmp .ne 11, 3) := dq_160 (v := 11) dp_cX7_catches rfl rfl
theorem dX7_catches_17 : decode cX7_catches 17 = .ok (.aload_n 0, 1) := dq_42 dp_cX7_catches rfl
theorem dX7_catches_18 : decode cX7_catches 18 = .ok (.iconst 5, 1) := dq_8 dp_cX7_catches rfl
theorem dX7_catches_19 : decode cX7_catches 19 = .ok (.invokevirtual 63, 3) := dq_182 dp_cX7_catches rfl
theorem dX7_catches_22 : decode cX7_catches 22 = .ok (.goto 4, 3) := dq_167 (v := 4) dp_cX7_catches rfl rfl
theorem dX7_catches_25 : decode cX7_catches 25 = .ok (.iload_n 2, 1) := dq_28 dp_cX7_catches rfl
theorem dX7_catches_26 : decode cX7_catches 26 = .ok (.ireturn, 1) := dq_172 dp_cX7_catches rfl
set_option maxRecDepth 20000 in
theorem gl_X7_stitches_X60 : GoodIn wsX7_stitches wsX60 := (dg_t (dg_r gw_wsX60))
theorem ggX7_stitches_X6_stitchesNeeded : GoodIn wsX7_stitches wsX6_stitchesNeeded := (dg_c 7 rfl rfl (dg_c 8 rfl rfl (dg_c 9 rfl rfl (dg_c 10 rfl rfl (dg_c 11 rfl rfl (dg_c 12 rfl rfl (dg_c 13 rfl rfl (dg_c 14 rfl rfl (dg_c 15 rfl rfl (dg_c 6 rfl rfl (dg_c 16 rfl rfl (dg_c 17 rfl rfl (dg_c 18 rfl rfl (dg_c 19 rfl rfl (dg_c 20 rfl rfl (dg_c 21 rfl rfl (dg_c 22 rfl rfl (dg_c 23 rfl rfl gl_X7_stitches_X60))))))))))))))))))
set_option maxRecDepth 20000 in
theorem gX7_stitches_X6_stitchesNeeded : GoodIn wsX7_stitches (wsV RX7 246 RX6 yX6_stitchesNeeded wsX6_stitchesNeeded) := goodIn_app (dg_c 3 rfl rfl (dg_c 4 rfl rfl (dg_c 5 rfl rfl (dg_c 6 rfl rfl dg_0)))) ggX7_stitches_X6_stitchesNeeded
set_option maxRecDepth 20000 in
theorem gl_X7_stitches_X70 : GoodIn wsX7_stitches wsX70 := (dg_t (dg_l (dg_l (dg_r gw_wsX70))))
theorem ggX7_stitches_X7_refuse : GoodIn wsX7_stitches wsX7_refuse := (dg_c 28 rfl rfl (dg_c 29 rfl rfl (dg_c 30 rfl rfl (dg_c 31 rfl rfl (dg_c 27 rfl rfl (dg_c 32 rfl rfl gl_X7_stitches_X70))))))
set_option maxRecDepth 20000 in
theorem gX7_stitches_X7_refuse : GoodIn wsX7_stitches (wsV RX7 63 RX7 yX7_refuse wsX7_refuse) := goodIn_app (dg_c 24 rfl rfl (dg_c 25 rfl rfl (dg_c 26 rfl rfl (dg_c 27 rfl rfl dg_0)))) ggX7_stitches_X7_refuse
theorem dX7_stitches_0 : decode cX7_stitches 0 = .ok (.aload_n 0, 1) := dq_42 dp_cX7_stitches rfl
theorem dX7_stitches_1 : decode cX7_stitches 1 = .ok (.getfield 18, 3) := dq_180 dp_cX7_stitches rfl
theorem dX7_stitches_4 : decode cX7_stitches 4 = .ok (.getfield 140, 3) := dq_180 dp_cX7_stitches rfl
theorem dX7_stitches_7 : decode cX7_stitches 7 = .ok (.iload_n 1, 1) := dq_27 dp_cX7_stitches rfl
theorem dX7_stitches_8 : decode cX7_stitches 8 = .ok (.invokevirtual 246, 3) := dq_182 dp_cX7_stitches rfl
theorem dX7_stitches_11 : decode cX7_stitches 11 = .ok (.istore_n 2, 1) := dq_61 dp_cX7_stitches rfl
theorem dX7_stitches_12 : decode cX7_stitches 12 = .ok (.iload_n 2, 1) := dq_28 dp_cX7_stitches rfl
theorem dX7_stitches_13 : decode cX7_stitches 13 = .ok (.iconst (-1), 1) := dq_2 dp_cX7_stitches rfl
theorem dX7_stitches_14 : decode cX7_stitches 14 = .ok (.if_icmp .ne 11, 3) := dq_160 (v := 11) dp_cX7_stitches rfl rfl
theorem dX7_stitches_17 : decode cX7_stitches 17 = .ok (.aload_n 0, 1) := dq_42 dp_cX7_stitches rfl
theorem dX7_stitches_18 : decode cX7_stitches 18 = .ok (.iconst 5, 1) := dq_8 dp_cX7_stitches rfl
theorem dX7_stitches_19 : decode cX7_stitches 19 = .ok (.invokevirtual 63, 3) := dq_182 dp_cX7_stitches rfl
theorem dX7_stitches_22 : decode cX7_stitches 22 = .ok (.goto 4, 3) := dq_167 (v := 4) dp_cX7_stitches rfl rfl
theorem dX7_stitches_25 : decode cX7_stitches 25 = .ok (.iload_n 2, 1) := dq_28 dp_cX7_stitches rfl
theorem dX7_stitches_26 : decode cX7_stitches 26 = .ok (.ireturn, 1) := dq_172 dp_cX7_stitches rfl
set_option maxRecDepth 20000 in
theorem gl_X7_judge_X70 : GoodIn wsX7_judge wsX70 := (dg_t (dg_l (dg_l (dg_l (dg_r gw_wsX70)))))
theorem ggX7_judge_X7_shelfAt : GoodIn wsX7_judge wsX7_shelfAt := (dg_c 5 rfl rfl (dg_c 6 rfl rfl (dg_c 7 rfl rfl (dg_c 8 rfl rfl (dg_c 4 rfl rfl (dg_c 9 rfl rfl gl_X7_judge_X70))))))
set_option maxRecDepth 20000 in
theorem gX7_judge_X7_shelfAt : GoodIn wsX7_judge (wsV RX7 59 RX7 yX7_shelfAt wsX7_shelfAt) := goodIn_app (dg_c 1 rfl rfl (dg_c 2 rfl rfl (dg_c 3 rfl rfl (dg_c 4 rfl rfl dg_0)))) ggX7_judge_X7_shelfAt
set_option maxRecDepth 20000 in
theorem ggX7_judge_X7_refuseLower : GoodIn wsX7_judge wsX7_refuseLower := (dg_c 13 rfl rfl (dg_c 14 rfl rfl (dg_c 15 rfl rfl (dg_c 16 rfl rfl (dg_c 4 rfl rfl (dg_c 17 rfl rfl (dg_c 18 rfl rfl (dg_c 7 rfl rfl (dg_c 8 rfl rfl (dg_c 9 rfl rfl gl_X7_judge_X70))))))))))
set_option maxRecDepth 20000 in
theorem gX7_judge_X7_refuseLower : GoodIn wsX7_judge (wsV RX7 192 RX7 yX7_refuseLower wsX7_refuseLower) := goodIn_app (dg_c 10 rfl rfl (dg_c 11 rfl rfl (dg_c 12 rfl rfl (dg_c 4 rfl rfl dg_0)))) ggX7_judge_X7_refuseLower
set_option maxRecDepth 20000 in
theorem gl_X7_judge_X40 : GoodIn wsX7_judge wsX40 := (dg_t (dg_l (dg_l (dg_r gw_wsX40))))
theorem ggX7_judge_X4_noTelling : GoodIn wsX7_judge wsX4_noTelling := (dg_c 23 rfl rfl (dg_c 24 rfl rfl (dg_c 25 rfl rfl (dg_c 26 rfl rfl (dg_c 27 rfl rfl (dg_c 22 rfl rfl (dg_c 28 rfl rfl (dg_c 29 rfl rfl gl_X7_judge_X40))))))))
set_option maxRecDepth 20000 in
theorem gX7_judge_X4_noTelling : GoodIn wsX7_judge (wsV RX7 249 RX4 yX4_noTelling wsX4_noTelling) := goodIn_app (dg_c 19 rfl rfl (dg_c 20 rfl rfl (dg_c 21 rfl rfl (dg_c 22 rfl rfl dg_0)))) ggX7_judge_X4_noTelling
set_option maxRecDepth 20000 in
theorem gl_X7_judge_X00 : GoodIn wsX7_judge wsX00 := (dg_t (dg_l (dg_r gw_wsX00)))
theorem gl_X7_judge_X20 : GoodIn wsX7_judge wsX20 := (dg_t (dg_r gw_wsX20))
theorem ggX7_judge_X7_firstWrong : GoodIn wsX7_judge wsX7_firstWrong := (dg_c 33 rfl rfl (goodIn_app (goodIn_app (goodIn_app (goodIn_app (goodIn_app (dg_c 34 rfl rfl (dg_c 35 rfl rfl (dg_c 36 rfl rfl (dg_c 37 rfl rfl (dg_c 38 rfl rfl (dg_c 39 rfl rfl (dg_c 40 rfl rfl (dg_c 41 rfl rfl (dg_c 22 rfl rfl (dg_c 42 rfl rfl (dg_c 43 rfl rfl (dg_c 44 rfl rfl (dg_c 45 rfl rfl (dg_c 46 rfl rfl (dg_c 47 rfl rfl (dg_c 24 rfl rfl (dg_c 48 rfl rfl (dg_c 49 rfl rfl (dg_c 50 rfl rfl (dg_c 51 rfl rfl (dg_c 52 rfl rfl (dg_c 53 rfl rfl (dg_c 54 rfl rfl (dg_c 8 rfl rfl dg_0)))))))))))))))))))))))) (goodIn_app (dg_c 4 rfl rfl (dg_c 9 rfl rfl (dg_c 55 rfl rfl (dg_c 56 rfl rfl (dg_c 57 rfl rfl (dg_c 58 rfl rfl (dg_c 59 rfl rfl (dg_c 60 rfl rfl (dg_c 61 rfl rfl (dg_c 62 rfl rfl (dg_c 63 rfl rfl (dg_c 64 rfl rfl (dg_c 65 rfl rfl (dg_c 66 rfl rfl (dg_c 67 rfl rfl (dg_c 68 rfl rfl (dg_c 69 rfl rfl (dg_c 70 rfl rfl (dg_c 71 rfl rfl (dg_c 72 rfl rfl (dg_c 73 rfl rfl (dg_c 74 rfl rfl (dg_c 75 rfl rfl (dg_c 76 rfl rfl dg_0)))))))))))))))))))))))) (dg_c 77 rfl rfl (dg_c 78 rfl rfl (dg_c 79 rfl rfl (dg_c 80 rfl rfl (dg_c 81 rfl rfl (dg_c 82 rfl rfl (dg_c 83 rfl rfl (dg_c 84 rfl rfl (dg_c 85 rfl rfl (dg_c 86 rfl rfl (dg_c 87 rfl rfl (dg_c 88 rfl rfl (dg_c 89 rfl rfl dg_0))))))))))))))) gl_X7_judge_X70) gl_X7_judge_X00) gl_X7_judge_X20) gl_X7_judge_X40))
set_option maxRecDepth 20000 in
theorem gX7_judge_X7_firstWrong : GoodIn wsX7_judge (wsV RX7 252 RX7 yX7_firstWrong wsX7_firstWrong) := goodIn_app (dg_c 30 rfl rfl (dg_c 31 rfl rfl (dg_c 32 rfl rfl (dg_c 4 rfl rfl dg_0)))) ggX7_judge_X7_firstWrong
theorem dX7_judge_0 : decode cX7_judge 0 = .ok (.aload_n 0, 1) := dq_42 dp_cX7_judge rfl
theorem dX7_judge_1 : decode cX7_judge 1 = .ok (.iload_n 1, 1) := dq_27 dp_cX7_judge rfl
theorem dX7_judge_2 : decode cX7_judge 2 = .ok (.invokevirtual 59, 3) := dq_182 dp_cX7_judge rfl
theorem dX7_judge_5 : decode cX7_judge 5 = .ok (.astore_n 3, 1) := dq_78 dp_cX7_judge rfl
theorem dX7_judge_6 : decode cX7_judge 6 = .ok (.aload_n 3, 1) := dq_45 dp_cX7_judge rfl
theorem dX7_judge_7 : decode cX7_judge 7 = .ok (.ifnonnull 9, 3) := dq_199 (v := 9) dp_cX7_judge rfl rfl
theorem dX7_judge_10 : decode cX7_judge 10 = .ok (.aload_n 0, 1) := dq_42 dp_cX7_judge rfl
theorem dX7_judge_11 : decode cX7_judge 11 = .ok (.iconst 1, 1) := dq_4 dp_cX7_judge rfl
theorem dX7_judge_12 : decode cX7_judge 12 = .ok (.invokevirtual 192, 3) := dq_182 dp_cX7_judge rfl
theorem dX7_judge_15 : decode cX7_judge 15 = .ok (.ireturn, 1) := dq_172 dp_cX7_judge rfl
theorem dX7_judge_16 : decode cX7_judge 16 = .ok (.aload_n 3, 1) := dq_45 dp_cX7_judge rfl
theorem dX7_judge_17 : decode cX7_judge 17 = .ok (.iload_n 2, 1) := dq_28 dp_cX7_judge rfl
theorem dX7_judge_18 : decode cX7_judge 18 = .ok (.invokevirtual 249, 3) := dq_182 dp_cX7_judge rfl
theorem dX7_judge_21 : decode cX7_judge 21 = .ok (.istore 4, 2) := dq_54 dp_cX7_judge rfl
theorem dX7_judge_23 : decode cX7_judge 23 = .ok (.iload 4, 2) := dq_21 dp_cX7_judge rfl
theorem dX7_judge_25 : decode cX7_judge 25 = .ok (.ifCond .eq 10, 3) := dq_153 (v := 10) dp_cX7_judge rfl rfl
theorem dX7_judge_28 : decode cX7_judge 28 = .ok (.aload_n 0, 1) := dq_42 dp_cX7_judge rfl
theorem dX7_judge_29 : decode cX7_judge 29 = .ok (.iload 4, 2) := dq_21 dp_cX7_judge rfl
theorem dX7_judge_31 : decode cX7_judge 31 = .ok (.invokevirtual 192, 3) := dq_182 dp_cX7_judge rfl
theorem dX7_judge_34 : decode cX7_judge 34 = .ok (.ireturn, 1) := dq_172 dp_cX7_judge rfl
theorem dX7_judge_35 : decode cX7_judge 35 = .ok (.iload_n 2, 1) := dq_28 dp_cX7_judge rfl
theorem dX7_judge_36 : decode cX7_judge 36 = .ok (.bipush 20, 2) := dq_16 (v := 20) dp_cX7_judge rfl rfl
theorem dX7_judge_38 : decode cX7_judge 38 = .ok (.if_icmp .le 10, 3) := dq_164 (v := 10) dp_cX7_judge rfl rfl
theorem dX7_judge_41 : decode cX7_judge 41 = .ok (.aload_n 0, 1) := dq_42 dp_cX7_judge rfl
theorem dX7_judge_42 : decode cX7_judge 42 = .ok (.bipush 6, 2) := dq_16 (v := 6) dp_cX7_judge rfl rfl
theorem dX7_judge_44 : decode cX7_judge 44 = .ok (.invokevirtual 192, 3) := dq_182 dp_cX7_judge rfl
theorem dX7_judge_47 : decode cX7_judge 47 = .ok (.ireturn, 1) := dq_172 dp_cX7_judge rfl
theorem dX7_judge_48 : decode cX7_judge 48 = .ok (.aload_n 0, 1) := dq_42 dp_cX7_judge rfl
theorem dX7_judge_49 : decode cX7_judge 49 = .ok (.aload_n 3, 1) := dq_45 dp_cX7_judge rfl
theorem dX7_judge_50 : decode cX7_judge 50 = .ok (.iload_n 2, 1) := dq_28 dp_cX7_judge rfl
theorem dX7_judge_51 : decode cX7_judge 51 = .ok (.invokevirtual 252, 3) := dq_182 dp_cX7_judge rfl
theorem dX7_judge_54 : decode cX7_judge 54 = .ok (.ireturn, 1) := dq_172 dp_cX7_judge rfl
set_option maxRecDepth 20000 in
theorem gl_X7_meant_X70 : GoodIn wsX7_meant wsX70 := (dg_t (dg_l (dg_l (dg_l (dg_r gw_wsX70)))))
theorem ggX7_meant_X7_shelfAt : GoodIn wsX7_meant wsX7_shelfAt := (dg_c 7 rfl rfl (dg_c 8 rfl rfl (dg_c 9 rfl rfl (dg_c 10 rfl rfl (dg_c 6 rfl rfl (dg_c 11 rfl rfl gl_X7_meant_X70))))))
set_option maxRecDepth 20000 in
theorem gX7_meant_X7_shelfAt : GoodIn wsX7_meant (wsV RX7 59 RX7 yX7_shelfAt wsX7_shelfAt) := goodIn_app (dg_c 3 rfl rfl (dg_c 4 rfl rfl (dg_c 5 rfl rfl (dg_c 6 rfl rfl dg_0)))) ggX7_meant_X7_shelfAt
set_option maxRecDepth 20000 in
theorem ggX7_meant_X7_refuse : GoodIn wsX7_meant wsX7_refuse := (dg_c 15 rfl rfl (dg_c 16 rfl rfl (dg_c 9 rfl rfl (dg_c 10 rfl rfl (dg_c 6 rfl rfl (dg_c 11 rfl rfl gl_X7_meant_X70))))))
set_option maxRecDepth 20000 in
theorem gX7_meant_X7_refuse : GoodIn wsX7_meant (wsV RX7 63 RX7 yX7_refuse wsX7_refuse) := goodIn_app (dg_c 12 rfl rfl (dg_c 13 rfl rfl (dg_c 14 rfl rfl (dg_c 6 rfl rfl dg_0)))) ggX7_meant_X7_refuse
set_option maxRecDepth 20000 in
theorem gl_X7_meant_X40 : GoodIn wsX7_meant wsX40 := (dg_t (dg_l (dg_r gw_wsX40)))
theorem ggX7_meant_X4_noTelling : GoodIn wsX7_meant wsX4_noTelling := (dg_c 21 rfl rfl (dg_c 22 rfl rfl (dg_c 23 rfl rfl (dg_c 24 rfl rfl (dg_c 25 rfl rfl (dg_c 20 rfl rfl (dg_c 26 rfl rfl (dg_c 27 rfl rfl gl_X7_meant_X40))))))))
set_option maxRecDepth 20000 in
theorem gX7_meant_X4_noTelling : GoodIn wsX7_meant (wsV RX7 249 RX4 yX4_noTelling wsX4_noTelling) := goodIn_app (dg_c 17 rfl rfl (dg_c 18 rfl rfl (dg_c 19 rfl rfl (dg_c 20 rfl rfl dg_0)))) ggX7_meant_X4_noTelling
set_option maxRecDepth 20000 in
theorem ggX7_meant_X7_within : GoodIn wsX7_meant wsX7_within := (dg_c 11 rfl rfl dg_0)
set_option maxRecDepth 20000 in
theorem gX7_meant_X7_within : GoodIn wsX7_meant (va_wsS RX7 67 yX7_within wsX7_within) := goodIn_app (dg_c 9 rfl rfl (dg_c 10 rfl rfl (dg_c 6 rfl rfl dg_0))) ggX7_meant_X7_within
set_option maxRecDepth 20000 in
theorem ggX7_meant_X4_tellsWithin : GoodIn wsX7_meant wsX4_tellsWithin := (dg_c 31 rfl rfl (dg_c 32 rfl rfl (dg_c 33 rfl rfl (dg_c 34 rfl rfl (dg_c 20 rfl rfl (dg_c 35 rfl rfl (dg_c 36 rfl rfl (dg_c 37 rfl rfl (dg_c 38 rfl rfl (dg_c 39 rfl rfl (dg_c 40 rfl rfl (dg_c 22 rfl rfl (dg_c 10 rfl rfl (dg_c 6 rfl rfl (dg_c 11 rfl rfl gl_X7_meant_X40)))))))))))))))
set_option maxRecDepth 20000 in
theorem gX7_meant_X4_tellsWithin : GoodIn wsX7_meant (wsV RX7 256 RX4 yX4_tellsWithin wsX4_tellsWithin) := goodIn_app (dg_c 28 rfl rfl (dg_c 29 rfl rfl (dg_c 30 rfl rfl (dg_c 20 rfl rfl dg_0)))) ggX7_meant_X4_tellsWithin
set_option maxRecDepth 20000 in
theorem gl_X7_meant_X00 : GoodIn wsX7_meant wsX00 := (dg_t (dg_l (dg_l (dg_r gw_wsX00))))
theorem gl_X7_meant_X20 : GoodIn wsX7_meant wsX20 := (dg_t (dg_r gw_wsX20))
theorem ggX7_meant_X7_rowsMeant : GoodIn wsX7_meant wsX7_rowsMeant := (dg_c 44 rfl rfl (goodIn_app (goodIn_app (goodIn_app (goodIn_app (goodIn_app (dg_c 1 rfl rfl (dg_c 2 rfl rfl (dg_c 45 rfl rfl (dg_c 46 rfl rfl (dg_c 47 rfl rfl (dg_c 48 rfl rfl (dg_c 49 rfl rfl (dg_c 50 rfl rfl (dg_c 33 rfl rfl (dg_c 34 rfl rfl (dg_c 20 rfl rfl (dg_c 35 rfl rfl (dg_c 36 rfl rfl (dg_c 37 rfl rfl (dg_c 38 rfl rfl (dg_c 39 rfl rfl (dg_c 40 rfl rfl (dg_c 22 rfl rfl (dg_c 51 rfl rfl (dg_c 52 rfl rfl (dg_c 53 rfl rfl (dg_c 54 rfl rfl (dg_c 55 rfl rfl (dg_c 56 rfl rfl dg_0)))))))))))))))))))))))) (goodIn_app (dg_c 57 rfl rfl (dg_c 58 rfl rfl (dg_c 59 rfl rfl (dg_c 60 rfl rfl (dg_c 61 rfl rfl (dg_c 62 rfl rfl (dg_c 10 rfl rfl (dg_c 6 rfl rfl (dg_c 11 rfl rfl (dg_c 63 rfl rfl (dg_c 64 rfl rfl (dg_c 65 rfl rfl (dg_c 66 rfl rfl (dg_c 67 rfl rfl (dg_c 68 rfl rfl (dg_c 69 rfl rfl (dg_c 70 rfl rfl (dg_c 71 rfl rfl (dg_c 72 rfl rfl (dg_c 73 rfl rfl (dg_c 74 rfl rfl (dg_c 75 rfl rfl (dg_c 76 rfl rfl (dg_c 77 rfl rfl dg_0)))))))))))))))))))))))) (dg_c 78 rfl rfl (dg_c 79 rfl rfl (dg_c 80 rfl rfl (dg_c 81 rfl rfl (dg_c 82 rfl rfl (dg_c 83 rfl rfl (dg_c 84 rfl rfl (dg_c 85 rfl rfl (dg_c 86 rfl rfl (dg_c 87 rfl rfl (dg_c 88 rfl rfl (dg_c 89 rfl rfl (dg_c 90 rfl rfl (dg_c 91 rfl rfl (dg_c 92 rfl rfl (dg_c 93 rfl rfl dg_0)))))))))))))))))) gl_X7_meant_X70) gl_X7_meant_X00) gl_X7_meant_X40) gl_X7_meant_X20))
set_option maxRecDepth 20000 in
theorem gX7_meant_X7_rowsMeant : GoodIn wsX7_meant (wsV RX7 259 RX7 yX7_rowsMeant wsX7_rowsMeant) := goodIn_app (dg_c 41 rfl rfl (dg_c 42 rfl rfl (dg_c 43 rfl rfl (dg_c 6 rfl rfl dg_0)))) ggX7_meant_X7_rowsMeant
set_option maxRecDepth 20000 in
theorem ggX7_meant_X4_tells : GoodIn wsX7_meant wsX4_tells := (dg_c 35 rfl rfl (dg_c 36 rfl rfl (dg_c 37 rfl rfl (dg_c 38 rfl rfl (dg_c 39 rfl rfl (dg_c 20 rfl rfl (dg_c 40 rfl rfl (dg_c 22 rfl rfl gl_X7_meant_X40))))))))
set_option maxRecDepth 20000 in
theorem gX7_meant_X4_tells : GoodIn wsX7_meant (wsV RX7 227 RX4 yX4_tells wsX4_tells) := goodIn_app (dg_c 50 rfl rfl (dg_c 33 rfl rfl (dg_c 34 rfl rfl (dg_c 20 rfl rfl dg_0)))) ggX7_meant_X4_tells
set_option maxRecDepth 20000 in
theorem ggX7_meant_X0_firstMaking : GoodIn wsX7_meant wsX0_firstMaking := (dg_c 97 rfl rfl (goodIn_app (goodIn_app (goodIn_app (dg_c 56 rfl rfl (dg_c 57 rfl rfl (dg_c 58 rfl rfl (dg_c 59 rfl rfl (dg_c 60 rfl rfl (dg_c 54 rfl rfl (dg_c 61 rfl rfl (dg_c 62 rfl rfl (dg_c 10 rfl rfl (dg_c 6 rfl rfl (dg_c 11 rfl rfl (dg_c 63 rfl rfl (dg_c 64 rfl rfl (dg_c 65 rfl rfl (dg_c 66 rfl rfl (dg_c 67 rfl rfl (dg_c 68 rfl rfl (dg_c 69 rfl rfl (dg_c 70 rfl rfl (dg_c 71 rfl rfl (dg_c 72 rfl rfl (dg_c 73 rfl rfl (dg_c 47 rfl rfl (dg_c 48 rfl rfl dg_0)))))))))))))))))))))))) (dg_c 49 rfl rfl (dg_c 74 rfl rfl (dg_c 75 rfl rfl (dg_c 76 rfl rfl (dg_c 77 rfl rfl (dg_c 78 rfl rfl (dg_c 79 rfl rfl (dg_c 80 rfl rfl (dg_c 81 rfl rfl (dg_c 82 rfl rfl (dg_c 83 rfl rfl (dg_c 84 rfl rfl (dg_c 85 rfl rfl (dg_c 86 rfl rfl (dg_c 87 rfl rfl (dg_c 88 rfl rfl (dg_c 89 rfl rfl (dg_c 90 rfl rfl (dg_c 91 rfl rfl (dg_c 92 rfl rfl (dg_c 93 rfl rfl dg_0)))))))))))))))))))))) gl_X7_meant_X00) gl_X7_meant_X20))
set_option maxRecDepth 20000 in
theorem gX7_meant_X0_firstMaking : GoodIn wsX7_meant (wsV RX7 262 RX0 yX0_firstMaking wsX0_firstMaking) := goodIn_app (dg_c 94 rfl rfl (dg_c 95 rfl rfl (dg_c 96 rfl rfl (dg_c 54 rfl rfl dg_0)))) ggX7_meant_X0_firstMaking
theorem dX7_meant_0 : decode cX7_meant 0 = .ok (.aload_n 0, 1) := dq_42 dp_cX7_meant rfl
theorem dX7_meant_1 : decode cX7_meant 1 = .ok (.iload_n 1, 1) := dq_27 dp_cX7_meant rfl
theorem dX7_meant_2 : decode cX7_meant 2 = .ok (.invokevirtual 59, 3) := dq_182 dp_cX7_meant rfl
theorem dX7_meant_5 : decode cX7_meant 5 = .ok (.astore 4, 2) := dq_58 dp_cX7_meant rfl
theorem dX7_meant_7 : decode cX7_meant 7 = .ok (.aload 4, 2) := dq_25 dp_cX7_meant rfl
theorem dX7_meant_9 : decode cX7_meant 9 = .ok (.ifnonnull 9, 3) := dq_199 (v := 9) dp_cX7_meant rfl rfl
theorem dX7_meant_12 : decode cX7_meant 12 = .ok (.aload_n 0, 1) := dq_42 dp_cX7_meant rfl
theorem dX7_meant_13 : decode cX7_meant 13 = .ok (.iconst 1, 1) := dq_4 dp_cX7_meant rfl
theorem dX7_meant_14 : decode cX7_meant 14 = .ok (.invokevirtual 63, 3) := dq_182 dp_cX7_meant rfl
theorem dX7_meant_17 : decode cX7_meant 17 = .ok (.ireturn, 1) := dq_172 dp_cX7_meant rfl
theorem dX7_meant_18 : decode cX7_meant 18 = .ok (.aload 4, 2) := dq_25 dp_cX7_meant rfl
theorem dX7_meant_20 : decode cX7_meant 20 = .ok (.iload_n 2, 1) := dq_28 dp_cX7_meant rfl
theorem dX7_meant_21 : decode cX7_meant 21 = .ok (.invokevirtual 249, 3) := dq_182 dp_cX7_meant rfl
theorem dX7_meant_24 : decode cX7_meant 24 = .ok (.istore 5, 2) := dq_54 dp_cX7_meant rfl
theorem dX7_meant_26 : decode cX7_meant 26 = .ok (.iload 5, 2) := dq_21 dp_cX7_meant rfl
theorem dX7_meant_28 : decode cX7_meant 28 = .ok (.ifCond .eq 10, 3) := dq_153 (v := 10) dp_cX7_meant rfl rfl
theorem dX7_meant_31 : decode cX7_meant 31 = .ok (.aload_n 0, 1) := dq_42 dp_cX7_meant rfl
theorem dX7_meant_32 : decode cX7_meant 32 = .ok (.iload 5, 2) := dq_21 dp_cX7_meant rfl
theorem dX7_meant_34 : decode cX7_meant 34 = .ok (.invokevirtual 63, 3) := dq_182 dp_cX7_meant rfl
theorem dX7_meant_37 : decode cX7_meant 37 = .ok (.ireturn, 1) := dq_172 dp_cX7_meant rfl
theorem dX7_meant_38 : decode cX7_meant 38 = .ok (.iload_n 2, 1) := dq_28 dp_cX7_meant rfl
theorem dX7_meant_39 : decode cX7_meant 39 = .ok (.iconst 1, 1) := dq_4 dp_cX7_meant rfl
theorem dX7_meant_40 : decode cX7_meant 40 = .ok (.bipush 20, 2) := dq_16 (v := 20) dp_cX7_meant rfl rfl
theorem dX7_meant_42 : decode cX7_meant 42 = .ok (.invokestatic 67, 3) := dq_184 dp_cX7_meant rfl
theorem dX7_meant_45 : decode cX7_meant 45 = .ok (.ifCond .ne 10, 3) := dq_154 (v := 10) dp_cX7_meant rfl rfl
theorem dX7_meant_48 : decode cX7_meant 48 = .ok (.aload_n 0, 1) := dq_42 dp_cX7_meant rfl
theorem dX7_meant_49 : decode cX7_meant 49 = .ok (.bipush 6, 2) := dq_16 (v := 6) dp_cX7_meant rfl rfl
theorem dX7_meant_51 : decode cX7_meant 51 = .ok (.invokevirtual 63, 3) := dq_182 dp_cX7_meant rfl
theorem dX7_meant_54 : decode cX7_meant 54 = .ok (.ireturn, 1) := dq_172 dp_cX7_meant rfl
theorem dX7_meant_55 : decode cX7_meant 55 = .ok (.iload_n 3, 1) := dq_29 dp_cX7_meant rfl
theorem dX7_meant_56 : decode cX7_meant 56 = .ok (.iconst (-1), 1) := dq_2 dp_cX7_meant rfl
theorem dX7_meant_57 : decode cX7_meant 57 = .ok (.iload_n 2, 1) := dq_28 dp_cX7_meant rfl
theorem dX7_meant_58 : decode cX7_meant 58 = .ok (.iconst 1, 1) := dq_4 dp_cX7_meant rfl
theorem dX7_meant_59 : decode cX7_meant 59 = .ok (.isub, 1) := dq_100 dp_cX7_meant rfl
theorem dX7_meant_60 : decode cX7_meant 60 = .ok (.invokestatic 67, 3) := dq_184 dp_cX7_meant rfl
theorem dX7_meant_63 : decode cX7_meant 63 = .ok (.ifCond .ne 9, 3) := dq_154 (v := 9) dp_cX7_meant rfl rfl
theorem dX7_meant_66 : decode cX7_meant 66 = .ok (.aload_n 0, 1) := dq_42 dp_cX7_meant rfl
theorem dX7_meant_67 : decode cX7_meant 67 = .ok (.iconst 5, 1) := dq_8 dp_cX7_meant rfl
theorem dX7_meant_68 : decode cX7_meant 68 = .ok (.invokevirtual 63, 3) := dq_182 dp_cX7_meant rfl
theorem dX7_meant_71 : decode cX7_meant 71 = .ok (.ireturn, 1) := dq_172 dp_cX7_meant rfl
theorem dX7_meant_72 : decode cX7_meant 72 = .ok (.aload 4, 2) := dq_25 dp_cX7_meant rfl
theorem dX7_meant_74 : decode cX7_meant 74 = .ok (.iload_n 2, 1) := dq_28 dp_cX7_meant rfl
theorem dX7_meant_75 : decode cX7_meant 75 = .ok (.iconst 0, 1) := dq_3 dp_cX7_meant rfl
theorem dX7_meant_76 : decode cX7_meant 76 = .ok (.bipush 24, 2) := dq_16 (v := 24) dp_cX7_meant rfl rfl
theorem dX7_meant_78 : decode cX7_meant 78 = .ok (.invokevirtual 256, 3) := dq_182 dp_cX7_meant rfl
theorem dX7_meant_81 : decode cX7_meant 81 = .ok (.ifCond .ne 10, 3) := dq_154 (v := 10) dp_cX7_meant rfl rfl
theorem dX7_meant_84 : decode cX7_meant 84 = .ok (.aload_n 0, 1) := dq_42 dp_cX7_meant rfl
theorem dX7_meant_85 : decode cX7_meant 85 = .ok (.bipush 6, 2) := dq_16 (v := 6) dp_cX7_meant rfl rfl
theorem dX7_meant_87 : decode cX7_meant 87 = .ok (.invokevirtual 63, 3) := dq_182 dp_cX7_meant rfl
theorem dX7_meant_90 : decode cX7_meant 90 = .ok (.ireturn, 1) := dq_172 dp_cX7_meant rfl
theorem dX7_meant_91 : decode cX7_meant 91 = .ok (.aload_n 0, 1) := dq_42 dp_cX7_meant rfl
theorem dX7_meant_92 : decode cX7_meant 92 = .ok (.aload 4, 2) := dq_25 dp_cX7_meant rfl
theorem dX7_meant_94 : decode cX7_meant 94 = .ok (.iload_n 2, 1) := dq_28 dp_cX7_meant rfl
theorem dX7_meant_95 : decode cX7_meant 95 = .ok (.invokevirtual 259, 3) := dq_182 dp_cX7_meant rfl
theorem dX7_meant_98 : decode cX7_meant 98 = .ok (.istore 6, 2) := dq_54 dp_cX7_meant rfl
theorem dX7_meant_100 : decode cX7_meant 100 = .ok (.iload_n 3, 1) := dq_29 dp_cX7_meant rfl
theorem dX7_meant_101 : decode cX7_meant 101 = .ok (.iconst (-1), 1) := dq_2 dp_cX7_meant rfl
theorem dX7_meant_102 : decode cX7_meant 102 = .ok (.if_icmp .ne 6, 3) := dq_160 (v := 6) dp_cX7_meant rfl rfl
theorem dX7_meant_105 : decode cX7_meant 105 = .ok (.iload 6, 2) := dq_21 dp_cX7_meant rfl
theorem dX7_meant_107 : decode cX7_meant 107 = .ok (.ireturn, 1) := dq_172 dp_cX7_meant rfl
theorem dX7_meant_108 : decode cX7_meant 108 = .ok (.iload 6, 2) := dq_21 dp_cX7_meant rfl
theorem dX7_meant_110 : decode cX7_meant 110 = .ok (.ifCond .ne 9, 3) := dq_154 (v := 9) dp_cX7_meant rfl rfl
theorem dX7_meant_113 : decode cX7_meant 113 = .ok (.aload_n 0, 1) := dq_42 dp_cX7_meant rfl
theorem dX7_meant_114 : decode cX7_meant 114 = .ok (.iconst 5, 1) := dq_8 dp_cX7_meant rfl
theorem dX7_meant_115 : decode cX7_meant 115 = .ok (.invokevirtual 63, 3) := dq_182 dp_cX7_meant rfl
theorem dX7_meant_118 : decode cX7_meant 118 = .ok (.ireturn, 1) := dq_172 dp_cX7_meant rfl
theorem dX7_meant_119 : decode cX7_meant 119 = .ok (.iload_n 3, 1) := dq_29 dp_cX7_meant rfl
theorem dX7_meant_120 : decode cX7_meant 120 = .ok (.ifCond .ne 13, 3) := dq_154 (v := 13) dp_cX7_meant rfl rfl
theorem dX7_meant_123 : decode cX7_meant 123 = .ok (.aload_n 0, 1) := dq_42 dp_cX7_meant rfl
theorem dX7_meant_124 : decode cX7_meant 124 = .ok (.getfield 18, 3) := dq_180 dp_cX7_meant rfl
theorem dX7_meant_127 : decode cX7_meant 127 = .ok (.getfield 199, 3) := dq_180 dp_cX7_meant rfl
theorem dX7_meant_130 : decode cX7_meant 130 = .ok (.goto 11, 3) := dq_167 (v := 11) dp_cX7_meant rfl rfl
theorem dX7_meant_133 : decode cX7_meant 133 = .ok (.aload 4, 2) := dq_25 dp_cX7_meant rfl
theorem dX7_meant_135 : decode cX7_meant 135 = .ok (.iload_n 3, 1) := dq_29 dp_cX7_meant rfl
theorem dX7_meant_136 : decode cX7_meant 136 = .ok (.iconst 1, 1) := dq_4 dp_cX7_meant rfl
theorem dX7_meant_137 : decode cX7_meant 137 = .ok (.isub, 1) := dq_100 dp_cX7_meant rfl
theorem dX7_meant_138 : decode cX7_meant 138 = .ok (.invokevirtual 227, 3) := dq_182 dp_cX7_meant rfl
theorem dX7_meant_141 : decode cX7_meant 141 = .ok (.istore 7, 2) := dq_54 dp_cX7_meant rfl
theorem dX7_meant_143 : decode cX7_meant 143 = .ok (.aload_n 0, 1) := dq_42 dp_cX7_meant rfl
theorem dX7_meant_144 : decode cX7_meant 144 = .ok (.getfield 18, 3) := dq_180 dp_cX7_meant rfl
theorem dX7_meant_147 : decode cX7_meant 147 = .ok (.iload 7, 2) := dq_21 dp_cX7_meant rfl
theorem dX7_meant_149 : decode cX7_meant 149 = .ok (.aload 4, 2) := dq_25 dp_cX7_meant rfl
theorem dX7_meant_151 : decode cX7_meant 151 = .ok (.iload_n 3, 1) := dq_29 dp_cX7_meant rfl
theorem dX7_meant_152 : decode cX7_meant 152 = .ok (.invokevirtual 227, 3) := dq_182 dp_cX7_meant rfl
theorem dX7_meant_155 : decode cX7_meant 155 = .ok (.invokevirtual 262, 3) := dq_182 dp_cX7_meant rfl
theorem dX7_meant_158 : decode cX7_meant 158 = .ok (.ireturn, 1) := dq_172 dp_cX7_meant rfl
set_option maxRecDepth 20000 in
theorem gl_X7_closed_X60 : GoodIn wsX7_closed wsX60 := (dg_t (dg_r gw_wsX60))
theorem ggX7_closed_X6_runsTo : GoodIn wsX7_closed wsX6_runsTo := (dg_c 7 rfl rfl (dg_c 8 rfl rfl (dg_c 9 rfl rfl (dg_c 10 rfl rfl (dg_c 11 rfl rfl (dg_c 12 rfl rfl (dg_c 6 rfl rfl (dg_c 13 rfl rfl (dg_c 14 rfl rfl (dg_c 15 rfl rfl (dg_c 16 rfl rfl (dg_c 17 rfl rfl (dg_c 18 rfl rfl (dg_c 19 rfl rfl (dg_c 20 rfl rfl (dg_c 21 rfl rfl (dg_c 22 rfl rfl (dg_c 23 rfl rfl (dg_c 24 rfl rfl (dg_c 25 rfl rfl (dg_c 26 rfl rfl (dg_c 27 rfl rfl (dg_c 28 rfl rfl gl_X7_closed_X60)))))))))))))))))))))))
set_option maxRecDepth 20000 in
theorem gX7_closed_X6_runsTo : GoodIn wsX7_closed (wsV RX7 265 RX6 yX6_runsTo wsX6_runsTo) := goodIn_app (dg_c 3 rfl rfl (dg_c 4 rfl rfl (dg_c 5 rfl rfl (dg_c 6 rfl rfl dg_0)))) ggX7_closed_X6_runsTo
theorem dX7_closed_0 : decode cX7_closed 0 = .ok (.aload_n 0, 1) := dq_42 dp_cX7_closed rfl
theorem dX7_closed_1 : decode cX7_closed 1 = .ok (.getfield 18, 3) := dq_180 dp_cX7_closed rfl
theorem dX7_closed_4 : decode cX7_closed 4 = .ok (.getfield 140, 3) := dq_180 dp_cX7_closed rfl
theorem dX7_closed_7 : decode cX7_closed 7 = .ok (.invokevirtual 265, 3) := dq_182 dp_cX7_closed rfl
theorem dX7_closed_10 : decode cX7_closed 10 = .ok (.ireturn, 1) := dq_172 dp_cX7_closed rfl
set_option maxRecDepth 20000 in
theorem gl_X7_pulls_X00 : GoodIn wsX7_pulls wsX00 := (dg_t (dg_l (dg_r gw_wsX00)))
theorem ggX7_pulls_X0_pullAt : GoodIn wsX7_pulls wsX0_pullAt := (dg_c 7 rfl rfl (dg_c 8 rfl rfl (dg_c 9 rfl rfl (dg_c 10 rfl rfl (dg_c 11 rfl rfl (dg_c 12 rfl rfl gl_X7_pulls_X00))))))
set_option maxRecDepth 20000 in
theorem gX7_pulls_X0_pullAt : GoodIn wsX7_pulls (wsV RX7 100 RX0 yX0_pullAt wsX0_pullAt) := goodIn_app (dg_c 3 rfl rfl (dg_c 4 rfl rfl (dg_c 5 rfl rfl (dg_c 6 rfl rfl dg_0)))) ggX7_pulls_X0_pullAt
set_option maxRecDepth 20000 in
theorem gl_X7_pulls_X70 : GoodIn wsX7_pulls wsX70 := (dg_t (dg_l (dg_l (dg_r gw_wsX70))))
theorem ggX7_pulls_X7_refuse : GoodIn wsX7_pulls wsX7_refuse := (dg_c 16 rfl rfl (dg_c 17 rfl rfl (dg_c 18 rfl rfl (dg_c 10 rfl rfl (dg_c 11 rfl rfl (dg_c 12 rfl rfl gl_X7_pulls_X70))))))
set_option maxRecDepth 20000 in
theorem gX7_pulls_X7_refuse : GoodIn wsX7_pulls (wsV RX7 63 RX7 yX7_refuse wsX7_refuse) := goodIn_app (dg_c 13 rfl rfl (dg_c 14 rfl rfl (dg_c 15 rfl rfl (dg_c 11 rfl rfl dg_0)))) ggX7_pulls_X7_refuse
set_option maxRecDepth 20000 in
theorem gl_X7_pulls_X20 : GoodIn wsX7_pulls wsX20 := (dg_t (dg_r gw_wsX20))
theorem ggX7_pulls_X0_mayBe : GoodIn wsX7_pulls wsX0_mayBe := (dg_c 22 rfl rfl (dg_c 23 rfl rfl (dg_c 24 rfl rfl (dg_c 25 rfl rfl (dg_c 26 rfl rfl (dg_c 27 rfl rfl (dg_c 28 rfl rfl (dg_c 29 rfl rfl (dg_c 30 rfl rfl (goodIn_app gl_X7_pulls_X00 gl_X7_pulls_X20))))))))))
set_option maxRecDepth 20000 in
theorem gX7_pulls_X0_mayBe : GoodIn wsX7_pulls (wsV RX7 136 RX0 yX0_mayBe wsX0_mayBe) := goodIn_app (dg_c 19 rfl rfl (dg_c 20 rfl rfl (dg_c 21 rfl rfl (dg_c 6 rfl rfl dg_0)))) ggX7_pulls_X0_mayBe
set_option maxRecDepth 20000 in
theorem ggX7_pulls_X0_pullInTruth : GoodIn wsX7_pulls wsX0_pullInTruth := (dg_c 34 rfl rfl (goodIn_app (goodIn_app (goodIn_app (dg_c 23 rfl rfl (dg_c 35 rfl rfl (dg_c 24 rfl rfl (dg_c 36 rfl rfl (dg_c 37 rfl rfl (dg_c 38 rfl rfl (dg_c 39 rfl rfl (dg_c 40 rfl rfl (dg_c 41 rfl rfl (dg_c 6 rfl rfl (dg_c 42 rfl rfl (dg_c 43 rfl rfl (dg_c 44 rfl rfl (dg_c 45 rfl rfl (dg_c 46 rfl rfl (dg_c 47 rfl rfl (dg_c 28 rfl rfl (dg_c 48 rfl rfl (dg_c 49 rfl rfl (dg_c 50 rfl rfl (dg_c 51 rfl rfl (dg_c 52 rfl rfl (dg_c 53 rfl rfl (dg_c 54 rfl rfl dg_0)))))))))))))))))))))))) (dg_c 55 rfl rfl (dg_c 56 rfl rfl (dg_c 57 rfl rfl (dg_c 58 rfl rfl (dg_c 59 rfl rfl (dg_c 60 rfl rfl (dg_c 61 rfl rfl (dg_c 62 rfl rfl (dg_c 63 rfl rfl (dg_c 64 rfl rfl (dg_c 65 rfl rfl (dg_c 66 rfl rfl (dg_c 67 rfl rfl (dg_c 68 rfl rfl (dg_c 69 rfl rfl (dg_c 70 rfl rfl (dg_c 71 rfl rfl (dg_c 72 rfl rfl (dg_c 73 rfl rfl dg_0)))))))))))))))))))) gl_X7_pulls_X00) gl_X7_pulls_X20))
set_option maxRecDepth 20000 in
theorem gX7_pulls_X0_pullInTruth : GoodIn wsX7_pulls (wsV RX7 268 RX0 yX0_pullInTruth wsX0_pullInTruth) := goodIn_app (dg_c 31 rfl rfl (dg_c 32 rfl rfl (dg_c 33 rfl rfl (dg_c 6 rfl rfl dg_0)))) ggX7_pulls_X0_pullInTruth
theorem dX7_pulls_0 : decode cX7_pulls 0 = .ok (.aload_n 0, 1) := dq_42 dp_cX7_pulls rfl
theorem dX7_pulls_1 : decode cX7_pulls 1 = .ok (.getfield 18, 3) := dq_180 dp_cX7_pulls rfl
theorem dX7_pulls_4 : decode cX7_pulls 4 = .ok (.iload_n 1, 1) := dq_27 dp_cX7_pulls rfl
theorem dX7_pulls_5 : decode cX7_pulls 5 = .ok (.invokevirtual 100, 3) := dq_182 dp_cX7_pulls rfl
theorem dX7_pulls_8 : decode cX7_pulls 8 = .ok (.astore_n 2, 1) := dq_77 dp_cX7_pulls rfl
theorem dX7_pulls_9 : decode cX7_pulls 9 = .ok (.aload_n 2, 1) := dq_44 dp_cX7_pulls rfl
theorem dX7_pulls_10 : decode cX7_pulls 10 = .ok (.ifnonnull 9, 3) := dq_199 (v := 9) dp_cX7_pulls rfl rfl
theorem dX7_pulls_13 : decode cX7_pulls 13 = .ok (.aload_n 0, 1) := dq_42 dp_cX7_pulls rfl
theorem dX7_pulls_14 : decode cX7_pulls 14 = .ok (.iconst 1, 1) := dq_4 dp_cX7_pulls rfl
theorem dX7_pulls_15 : decode cX7_pulls 15 = .ok (.invokevirtual 63, 3) := dq_182 dp_cX7_pulls rfl
theorem dX7_pulls_18 : decode cX7_pulls 18 = .ok (.ireturn, 1) := dq_172 dp_cX7_pulls rfl
theorem dX7_pulls_19 : decode cX7_pulls 19 = .ok (.aload_n 0, 1) := dq_42 dp_cX7_pulls rfl
theorem dX7_pulls_20 : decode cX7_pulls 20 = .ok (.getfield 18, 3) := dq_180 dp_cX7_pulls rfl
theorem dX7_pulls_23 : decode cX7_pulls 23 = .ok (.aload_n 2, 1) := dq_44 dp_cX7_pulls rfl
theorem dX7_pulls_24 : decode cX7_pulls 24 = .ok (.invokevirtual 136, 3) := dq_182 dp_cX7_pulls rfl
theorem dX7_pulls_27 : decode cX7_pulls 27 = .ok (.ifCond .ne 10, 3) := dq_154 (v := 10) dp_cX7_pulls rfl rfl
theorem dX7_pulls_30 : decode cX7_pulls 30 = .ok (.aload_n 0, 1) := dq_42 dp_cX7_pulls rfl
theorem dX7_pulls_31 : decode cX7_pulls 31 = .ok (.bipush 6, 2) := dq_16 (v := 6) dp_cX7_pulls rfl rfl
theorem dX7_pulls_33 : decode cX7_pulls 33 = .ok (.invokevirtual 63, 3) := dq_182 dp_cX7_pulls rfl
theorem dX7_pulls_36 : decode cX7_pulls 36 = .ok (.ireturn, 1) := dq_172 dp_cX7_pulls rfl
theorem dX7_pulls_37 : decode cX7_pulls 37 = .ok (.aload_n 0, 1) := dq_42 dp_cX7_pulls rfl
theorem dX7_pulls_38 : decode cX7_pulls 38 = .ok (.getfield 18, 3) := dq_180 dp_cX7_pulls rfl
theorem dX7_pulls_41 : decode cX7_pulls 41 = .ok (.aload_n 2, 1) := dq_44 dp_cX7_pulls rfl
theorem dX7_pulls_42 : decode cX7_pulls 42 = .ok (.invokevirtual 268, 3) := dq_182 dp_cX7_pulls rfl
theorem dX7_pulls_45 : decode cX7_pulls 45 = .ok (.aload_n 0, 1) := dq_42 dp_cX7_pulls rfl
theorem dX7_pulls_46 : decode cX7_pulls 46 = .ok (.getfield 18, 3) := dq_180 dp_cX7_pulls rfl
theorem dX7_pulls_49 : decode cX7_pulls 49 = .ok (.getfield 199, 3) := dq_180 dp_cX7_pulls rfl
theorem dX7_pulls_52 : decode cX7_pulls 52 = .ok (.ireturn, 1) := dq_172 dp_cX7_pulls rfl
set_option maxRecDepth 20000 in
theorem gl_X7_close_X70 : GoodIn wsX7_close wsX70 := (dg_t (dg_l (dg_l (dg_r gw_wsX70))))
theorem ggX7_close_X7_refuse : GoodIn wsX7_close wsX7_refuse := (dg_c 9 rfl rfl (dg_c 10 rfl rfl (dg_c 11 rfl rfl (dg_c 12 rfl rfl (dg_c 8 rfl rfl (dg_c 13 rfl rfl gl_X7_close_X70))))))
set_option maxRecDepth 20000 in
theorem gX7_close_X7_refuse : GoodIn wsX7_close (wsV RX7 63 RX7 yX7_refuse wsX7_refuse) := goodIn_app (dg_c 5 rfl rfl (dg_c 6 rfl rfl (dg_c 7 rfl rfl (dg_c 8 rfl rfl dg_0)))) ggX7_close_X7_refuse
set_option maxRecDepth 20000 in
theorem gl_X7_close_X00 : GoodIn wsX7_close wsX00 := (dg_t (dg_l (dg_r gw_wsX00)))
theorem gl_X7_close_X60 : GoodIn wsX7_close wsX60 := (dg_t (dg_r gw_wsX60))
theorem ggX7_close_X0_closeInTruth : GoodIn wsX7_close wsX0_closeInTruth := (dg_c 18 rfl rfl (goodIn_app (goodIn_app (goodIn_app (dg_c 19 rfl rfl (dg_c 20 rfl rfl (dg_c 21 rfl rfl (dg_c 22 rfl rfl (dg_c 23 rfl rfl (dg_c 24 rfl rfl (dg_c 25 rfl rfl (dg_c 26 rfl rfl (dg_c 27 rfl rfl (dg_c 28 rfl rfl (dg_c 29 rfl rfl (dg_c 30 rfl rfl (dg_c 31 rfl rfl (dg_c 32 rfl rfl (dg_c 33 rfl rfl (dg_c 34 rfl rfl (dg_c 35 rfl rfl (dg_c 36 rfl rfl (dg_c 37 rfl rfl (dg_c 38 rfl rfl (dg_c 39 rfl rfl (dg_c 40 rfl rfl (dg_c 17 rfl rfl (dg_c 41 rfl rfl dg_0)))))))))))))))))))))))) (dg_c 42 rfl rfl (dg_c 43 rfl rfl (dg_c 44 rfl rfl (dg_c 45 rfl rfl (dg_c 46 rfl rfl (dg_c 47 rfl rfl (dg_c 48 rfl rfl (dg_c 49 rfl rfl (dg_c 50 rfl rfl (dg_c 51 rfl rfl dg_0))))))))))) gl_X7_close_X00) gl_X7_close_X60))
set_option maxRecDepth 20000 in
theorem gX7_close_X0_closeInTruth : GoodIn wsX7_close (wsV RX7 272 RX0 yX0_closeInTruth wsX0_closeInTruth) := goodIn_app (dg_c 14 rfl rfl (dg_c 15 rfl rfl (dg_c 16 rfl rfl (dg_c 17 rfl rfl dg_0)))) ggX7_close_X0_closeInTruth
theorem dX7_close_0 : decode cX7_close 0 = .ok (.aload_n 0, 1) := dq_42 dp_cX7_close rfl
theorem dX7_close_1 : decode cX7_close 1 = .ok (.getfield 18, 3) := dq_180 dp_cX7_close rfl
theorem dX7_close_4 : decode cX7_close 4 = .ok (.getfield 199, 3) := dq_180 dp_cX7_close rfl
theorem dX7_close_7 : decode cX7_close 7 = .ok (.ifCond .eq 10, 3) := dq_153 (v := 10) dp_cX7_close rfl rfl
theorem dX7_close_10 : decode cX7_close 10 = .ok (.aload_n 0, 1) := dq_42 dp_cX7_close rfl
theorem dX7_close_11 : decode cX7_close 11 = .ok (.bipush 6, 2) := dq_16 (v := 6) dp_cX7_close rfl rfl
theorem dX7_close_13 : decode cX7_close 13 = .ok (.invokevirtual 63, 3) := dq_182 dp_cX7_close rfl
theorem dX7_close_16 : decode cX7_close 16 = .ok (.ireturn, 1) := dq_172 dp_cX7_close rfl
theorem dX7_close_17 : decode cX7_close 17 = .ok (.aload_n 0, 1) := dq_42 dp_cX7_close rfl
theorem dX7_close_18 : decode cX7_close 18 = .ok (.getfield 18, 3) := dq_180 dp_cX7_close rfl
theorem dX7_close_21 : decode cX7_close 21 = .ok (.invokevirtual 272, 3) := dq_182 dp_cX7_close rfl
theorem dX7_close_24 : decode cX7_close 24 = .ok (.aload_n 0, 1) := dq_42 dp_cX7_close rfl
theorem dX7_close_25 : decode cX7_close 25 = .ok (.getfield 18, 3) := dq_180 dp_cX7_close rfl
theorem dX7_close_28 : decode cX7_close 28 = .ok (.getfield 140, 3) := dq_180 dp_cX7_close rfl
theorem dX7_close_31 : decode cX7_close 31 = .ok (.getfield 275, 3) := dq_180 dp_cX7_close rfl
theorem dX7_close_34 : decode cX7_close 34 = .ok (.ireturn, 1) := dq_172 dp_cX7_close rfl
set_option maxRecDepth 20000 in
theorem ggX7_winter_X7_within : GoodIn wsX7_winter wsX7_within := (dg_c 7 rfl rfl dg_0)
set_option maxRecDepth 20000 in
theorem gX7_winter_X7_within : GoodIn wsX7_winter (va_wsS RX7 67 yX7_within wsX7_within) := goodIn_app (dg_c 4 rfl rfl (dg_c 5 rfl rfl (dg_c 6 rfl rfl dg_0))) ggX7_winter_X7_within
set_option maxRecDepth 20000 in
theorem gl_X7_winter_X70 : GoodIn wsX7_winter wsX70 := (dg_t (dg_l (dg_l (dg_l (dg_l (dg_r gw_wsX70))))))
theorem ggX7_winter_X7_refuse : GoodIn wsX7_winter wsX7_refuse := (dg_c 11 rfl rfl (dg_c 12 rfl rfl (dg_c 4 rfl rfl (dg_c 5 rfl rfl (dg_c 6 rfl rfl (dg_c 7 rfl rfl gl_X7_winter_X70))))))
set_option maxRecDepth 20000 in
theorem gX7_winter_X7_refuse : GoodIn wsX7_winter (wsV RX7 63 RX7 yX7_refuse wsX7_refuse) := goodIn_app (dg_c 8 rfl rfl (dg_c 9 rfl rfl (dg_c 10 rfl rfl (dg_c 6 rfl rfl dg_0)))) ggX7_winter_X7_refuse
set_option maxRecDepth 20000 in
theorem gl_X7_winter_X00 : GoodIn wsX7_winter wsX00 := (dg_t (dg_l (dg_l (dg_l (dg_r gw_wsX00)))))
theorem gl_X7_winter_X50 : GoodIn wsX7_winter wsX50 := (dg_t (dg_l (dg_l (dg_r gw_wsX50))))
theorem gl_X7_winter_X20 : GoodIn wsX7_winter wsX20 := (dg_t (dg_l (dg_r gw_wsX20)))
theorem ggX7_winter_X5_look : GoodIn wsX7_winter wsX5_look := (dg_c 17 rfl rfl (goodIn_app (goodIn_app (goodIn_app (goodIn_app (dg_c 18 rfl rfl (dg_c 19 rfl rfl (dg_c 20 rfl rfl (dg_c 21 rfl rfl (dg_c 22 rfl rfl (dg_c 23 rfl rfl (dg_c 24 rfl rfl (dg_c 25 rfl rfl (dg_c 26 rfl rfl (dg_c 27 rfl rfl (dg_c 28 rfl rfl (dg_c 29 rfl rfl (dg_c 30 rfl rfl (dg_c 31 rfl rfl (dg_c 32 rfl rfl (dg_c 33 rfl rfl (dg_c 34 rfl rfl (dg_c 35 rfl rfl (dg_c 36 rfl rfl (dg_c 37 rfl rfl (dg_c 38 rfl rfl (dg_c 39 rfl rfl (dg_c 40 rfl rfl (dg_c 41 rfl rfl dg_0)))))))))))))))))))))))) (dg_c 42 rfl rfl (dg_c 43 rfl rfl (dg_c 5 rfl rfl (dg_c 6 rfl rfl (dg_c 7 rfl rfl (dg_c 44 rfl rfl (dg_c 45 rfl rfl (dg_c 46 rfl rfl (dg_c 47 rfl rfl dg_0)))))))))) gl_X7_winter_X00) gl_X7_winter_X50) gl_X7_winter_X20))
set_option maxRecDepth 20000 in
theorem gX7_winter_X5_look : GoodIn wsX7_winter (wsV RX7 195 RX5 yX5_look wsX5_look) := goodIn_app (dg_c 13 rfl rfl (dg_c 14 rfl rfl (dg_c 15 rfl rfl (dg_c 16 rfl rfl dg_0)))) ggX7_winter_X5_look
set_option maxRecDepth 20000 in
theorem gl_X7_winter_X60 : GoodIn wsX7_winter wsX60 := (dg_t (dg_r gw_wsX60))
theorem ggX7_winter_X0_dayInTruth : GoodIn wsX7_winter wsX0_dayInTruth := (dg_c 51 rfl rfl (goodIn_app (goodIn_app (goodIn_app (goodIn_app (goodIn_app (dg_c 52 rfl rfl (dg_c 53 rfl rfl (dg_c 54 rfl rfl (dg_c 55 rfl rfl (dg_c 56 rfl rfl (dg_c 57 rfl rfl (dg_c 58 rfl rfl (dg_c 59 rfl rfl (dg_c 40 rfl rfl (dg_c 60 rfl rfl (dg_c 61 rfl rfl (dg_c 62 rfl rfl (dg_c 63 rfl rfl (dg_c 64 rfl rfl (dg_c 65 rfl rfl (dg_c 66 rfl rfl (dg_c 67 rfl rfl (dg_c 68 rfl rfl (dg_c 69 rfl rfl (dg_c 70 rfl rfl (dg_c 71 rfl rfl (dg_c 72 rfl rfl (dg_c 73 rfl rfl (dg_c 74 rfl rfl dg_0)))))))))))))))))))))))) (goodIn_app (dg_c 75 rfl rfl (dg_c 76 rfl rfl (dg_c 77 rfl rfl (dg_c 78 rfl rfl (dg_c 79 rfl rfl (dg_c 80 rfl rfl (dg_c 81 rfl rfl (dg_c 82 rfl rfl (dg_c 83 rfl rfl (dg_c 84 rfl rfl (dg_c 85 rfl rfl (dg_c 86 rfl rfl (dg_c 87 rfl rfl (dg_c 88 rfl rfl (dg_c 89 rfl rfl (dg_c 90 rfl rfl (dg_c 91 rfl rfl (dg_c 92 rfl rfl (dg_c 93 rfl rfl (dg_c 94 rfl rfl (dg_c 95 rfl rfl (dg_c 96 rfl rfl (dg_c 16 rfl rfl (dg_c 97 rfl rfl dg_0)))))))))))))))))))))))) (goodIn_app (dg_c 19 rfl rfl (dg_c 98 rfl rfl (dg_c 99 rfl rfl (dg_c 100 rfl rfl (dg_c 101 rfl rfl (dg_c 23 rfl rfl (dg_c 5 rfl rfl (dg_c 6 rfl rfl (dg_c 7 rfl rfl (dg_c 102 rfl rfl (dg_c 103 rfl rfl (dg_c 104 rfl rfl (dg_c 105 rfl rfl (dg_c 106 rfl rfl (dg_c 107 rfl rfl (dg_c 108 rfl rfl (dg_c 109 rfl rfl (dg_c 110 rfl rfl (dg_c 111 rfl rfl (dg_c 20 rfl rfl (dg_c 24 rfl rfl (dg_c 112 rfl rfl (dg_c 113 rfl rfl (dg_c 114 rfl rfl dg_0)))))))))))))))))))))))) (goodIn_app (dg_c 115 rfl rfl (dg_c 116 rfl rfl (dg_c 117 rfl rfl (dg_c 118 rfl rfl (dg_c 27 rfl rfl (dg_c 119 rfl rfl (dg_c 120 rfl rfl (dg_c 26 rfl rfl (dg_c 28 rfl rfl (dg_c 121 rfl rfl (dg_c 122 rfl rfl (dg_c 123 rfl rfl (dg_c 124 rfl rfl (dg_c 125 rfl rfl (dg_c 126 rfl rfl (dg_c 127 rfl rfl (dg_c 128 rfl rfl (dg_c 129 rfl rfl (dg_c 130 rfl rfl (dg_c 131 rfl rfl (dg_c 132 rfl rfl (dg_c 133 rfl rfl (dg_c 134 rfl rfl (dg_c 135 rfl rfl dg_0)))))))))))))))))))))))) (goodIn_app (dg_c 136 rfl rfl (dg_c 137 rfl rfl (dg_c 138 rfl rfl (dg_c 139 rfl rfl (dg_c 140 rfl rfl (dg_c 141 rfl rfl (dg_c 142 rfl rfl (dg_c 21 rfl rfl (dg_c 35 rfl rfl (dg_c 25 rfl rfl (dg_c 143 rfl rfl (dg_c 38 rfl rfl (dg_c 39 rfl rfl (dg_c 41 rfl rfl (dg_c 42 rfl rfl (dg_c 43 rfl rfl (dg_c 144 rfl rfl (dg_c 145 rfl rfl (dg_c 146 rfl rfl (dg_c 147 rfl rfl (dg_c 148 rfl rfl (dg_c 149 rfl rfl (dg_c 150 rfl rfl (dg_c 151 rfl rfl dg_0)))))))))))))))))))))))) (dg_c 152 rfl rfl (dg_c 153 rfl rfl (dg_c 154 rfl rfl dg_0)))))))) gl_X7_winter_X00) gl_X7_winter_X60) gl_X7_winter_X50) gl_X7_winter_X20))
set_option maxRecDepth 20000 in
theorem gX7_winter_X0_dayInTruth : GoodIn wsX7_winter (wsV RX7 278 RX0 yX0_dayInTruth wsX0_dayInTruth) := goodIn_app (dg_c 48 rfl rfl (dg_c 49 rfl rfl (dg_c 50 rfl rfl (dg_c 40 rfl rfl dg_0)))) ggX7_winter_X0_dayInTruth
theorem dX7_winter_0 : decode cX7_winter 0 = .ok (.iload_n 1, 1) := dq_27 dp_cX7_winter rfl
theorem dX7_winter_1 : decode cX7_winter 1 = .ok (.iconst 1, 1) := dq_4 dp_cX7_winter rfl
theorem dX7_winter_2 : decode cX7_winter 2 = .ok (.bipush 60, 2) := dq_16 (v := 60) dp_cX7_winter rfl rfl
theorem dX7_winter_4 : decode cX7_winter 4 = .ok (.invokestatic 67, 3) := dq_184 dp_cX7_winter rfl
theorem dX7_winter_7 : decode cX7_winter 7 = .ok (.ifCond .ne 10, 3) := dq_154 (v := 10) dp_cX7_winter rfl rfl
theorem dX7_winter_10 : decode cX7_winter 10 = .ok (.aload_n 0, 1) := dq_42 dp_cX7_winter rfl
theorem dX7_winter_11 : decode cX7_winter 11 = .ok (.bipush 6, 2) := dq_16 (v := 6) dp_cX7_winter rfl rfl
theorem dX7_winter_13 : decode cX7_winter 13 = .ok (.invokevirtual 63, 3) := dq_182 dp_cX7_winter rfl
theorem dX7_winter_16 : decode cX7_winter 16 = .ok (.ireturn, 1) := dq_172 dp_cX7_winter rfl
theorem dX7_winter_17 : decode cX7_winter 17 = .ok (.aload_n 0, 1) := dq_42 dp_cX7_winter rfl
theorem dX7_winter_18 : decode cX7_winter 18 = .ok (.getfield 28, 3) := dq_180 dp_cX7_winter rfl
theorem dX7_winter_21 : decode cX7_winter 21 = .ok (.aload_n 0, 1) := dq_42 dp_cX7_winter rfl
theorem dX7_winter_22 : decode cX7_winter 22 = .ok (.getfield 18, 3) := dq_180 dp_cX7_winter rfl
theorem dX7_winter_25 : decode cX7_winter 25 = .ok (.aload_n 0, 1) := dq_42 dp_cX7_winter rfl
theorem dX7_winter_26 : decode cX7_winter 26 = .ok (.getfield 18, 3) := dq_180 dp_cX7_winter rfl
theorem dX7_winter_29 : decode cX7_winter 29 = .ok (.getfield 116, 3) := dq_180 dp_cX7_winter rfl
theorem dX7_winter_32 : decode cX7_winter 32 = .ok (.iconst 1, 1) := dq_4 dp_cX7_winter rfl
theorem dX7_winter_33 : decode cX7_winter 33 = .ok (.invokevirtual 195, 3) := dq_182 dp_cX7_winter rfl
theorem dX7_winter_36 : decode cX7_winter 36 = .ok (.iconst 0, 1) := dq_3 dp_cX7_winter rfl
theorem dX7_winter_37 : decode cX7_winter 37 = .ok (.istore_n 2, 1) := dq_61 dp_cX7_winter rfl
theorem dX7_winter_38 : decode cX7_winter 38 = .ok (.iconst 0, 1) := dq_3 dp_cX7_winter rfl
theorem dX7_winter_39 : decode cX7_winter 39 = .ok (.istore_n 3, 1) := dq_62 dp_cX7_winter rfl
theorem dX7_winter_40 : decode cX7_winter 40 = .ok (.iload_n 3, 1) := dq_29 dp_cX7_winter rfl
theorem dX7_winter_41 : decode cX7_winter 41 = .ok (.iload_n 1, 1) := dq_27 dp_cX7_winter rfl
theorem dX7_winter_42 : decode cX7_winter 42 = .ok (.if_icmp .ge 26, 3) := dq_162 (v := 26) dp_cX7_winter rfl rfl
theorem dX7_winter_45 : decode cX7_winter 45 = .ok (.aload_n 0, 1) := dq_42 dp_cX7_winter rfl
theorem dX7_winter_46 : decode cX7_winter 46 = .ok (.getfield 18, 3) := dq_180 dp_cX7_winter rfl
theorem dX7_winter_49 : decode cX7_winter 49 = .ok (.aload_n 0, 1) := dq_42 dp_cX7_winter rfl
theorem dX7_winter_50 : decode cX7_winter 50 = .ok (.getfield 28, 3) := dq_180 dp_cX7_winter rfl
theorem dX7_winter_53 : decode cX7_winter 53 = .ok (.invokevirtual 278, 3) := dq_182 dp_cX7_winter rfl
theorem dX7_winter_56 : decode cX7_winter 56 = .ok (.ifCond .eq 6, 3) := dq_153 (v := 6) dp_cX7_winter rfl rfl
theorem dX7_winter_59 : decode cX7_winter 59 = .ok (.iinc 2 1, 3) := dq_132 (v := 1) dp_cX7_winter rfl (by decide) rfl
theorem dX7_winter_62 : decode cX7_winter 62 = .ok (.iinc 3 1, 3) := dq_132 (v := 1) dp_cX7_winter rfl (by decide) rfl
theorem dX7_winter_65 : decode cX7_winter 65 = .ok (.goto (-25), 3) := dq_167 (v := 65511) dp_cX7_winter rfl rfl
theorem dX7_winter_68 : decode cX7_winter 68 = .ok (.iload_n 2, 1) := dq_28 dp_cX7_winter rfl
theorem dX7_winter_69 : decode cX7_winter 69 = .ok (.ireturn, 1) := dq_172 dp_cX7_winter rfl
set_option maxRecDepth 20000 in
theorem gl_X7_stitch_X60 : GoodIn wsX7_stitch wsX60 := (dg_t (dg_t (dg_t (dg_t (dg_t (dg_t (dg_t (dg_t (dg_t (dg_t (dg_t (dg_t (dg_t (dg_t (dg_t (dg_t (dg_t (dg_t (dg_t (dg_t (dg_t (dg_t (dg_t (dg_t (dg_r gw_wsX60)))))))))))))))))))))))))
theorem ggX7_stitch_X6_has : GoodIn wsX7_stitch wsX6_has := (dg_c 7 rfl rfl (dg_c 8 rfl rfl gl_X7_stitch_X60))
set_option maxRecDepth 20000 in
theorem gX7_stitch_X6_has : GoodIn wsX7_stitch (wsV RX7 153 RX6 yX6_has wsX6_has) := goodIn_app (dg_c 3 rfl rfl (dg_c 4 rfl rfl (dg_c 5 rfl rfl (dg_c 6 rfl rfl dg_0)))) ggX7_stitch_X6_has
set_option maxRecDepth 20000 in
theorem gl_X7_stitch_X70 : GoodIn wsX7_stitch wsX70 := (dg_t (dg_t (dg_t (dg_t (dg_t (dg_t (dg_t (dg_t (dg_t (dg_t (dg_t (dg_t (dg_t (dg_t (dg_t (dg_t (dg_t (dg_t (dg_t (dg_t (dg_t (dg_t (dg_t (dg_t (dg_l (dg_l gw_wsX70))))))))))))))))))))))))))
theorem ggX7_stitch_X7_refuse : GoodIn wsX7_stitch wsX7_refuse := (dg_c 13 rfl rfl (dg_c 14 rfl rfl (dg_c 15 rfl rfl (dg_c 16 rfl rfl (dg_c 12 rfl rfl (dg_c 17 rfl rfl gl_X7_stitch_X70))))))
set_option maxRecDepth 20000 in
theorem gX7_stitch_X7_refuse : GoodIn wsX7_stitch (wsV RX7 63 RX7 yX7_refuse wsX7_refuse) := goodIn_app (dg_c 9 rfl rfl (dg_c 10 rfl rfl (dg_c 11 rfl rfl (dg_c 12 rfl rfl dg_0)))) ggX7_stitch_X7_refuse
set_option maxRecDepth 20000 in
theorem ggX7_stitch_X6_takeSlack : GoodIn wsX7_stitch wsX6_takeSlack := (dg_c 21 rfl rfl (dg_c 22 rfl rfl (dg_c 23 rfl rfl (dg_c 4 rfl rfl (dg_c 5 rfl rfl (dg_c 6 rfl rfl (dg_c 7 rfl rfl (dg_c 8 rfl rfl gl_X7_stitch_X60))))))))
set_option maxRecDepth 20000 in
theorem gX7_stitch_X6_takeSlack : GoodIn wsX7_stitch (wsV RX7 282 RX6 yX6_takeSlack wsX6_takeSlack) := goodIn_app (dg_c 18 rfl rfl (dg_c 19 rfl rfl (dg_c 20 rfl rfl (dg_c 6 rfl rfl dg_0)))) ggX7_stitch_X6_takeSlack
theorem dX7_stitch_0 : decode cX7_stitch 0 = .ok (.aload_n 0, 1) := dq_42 dp_cX7_stitch rfl
theorem dX7_stitch_1 : decode cX7_stitch 1 = .ok (.getfield 18, 3) := dq_180 dp_cX7_stitch rfl
theorem dX7_stitch_4 : decode cX7_stitch 4 = .ok (.getfield 140, 3) := dq_180 dp_cX7_stitch rfl
theorem dX7_stitch_7 : decode cX7_stitch 7 = .ok (.iload_n 1, 1) := dq_27 dp_cX7_stitch rfl
theorem dX7_stitch_8 : decode cX7_stitch 8 = .ok (.invokevirtual 153, 3) := dq_182 dp_cX7_stitch rfl
theorem dX7_stitch_11 : decode cX7_stitch 11 = .ok (.ifCond .ne 9, 3) := dq_154 (v := 9) dp_cX7_stitch rfl rfl
theorem dX7_stitch_14 : decode cX7_stitch 14 = .ok (.aload_n 0, 1) := dq_42 dp_cX7_stitch rfl
theorem dX7_stitch_15 : decode cX7_stitch 15 = .ok (.iconst 1, 1) := dq_4 dp_cX7_stitch rfl
theorem dX7_stitch_16 : decode cX7_stitch 16 = .ok (.invokevirtual 63, 3) := dq_182 dp_cX7_stitch rfl
theorem dX7_stitch_19 : decode cX7_stitch 19 = .ok (.ireturn, 1) := dq_172 dp_cX7_stitch rfl
theorem dX7_stitch_20 : decode cX7_stitch 20 = .ok (.aload_n 0, 1) := dq_42 dp_cX7_stitch rfl
theorem dX7_stitch_21 : decode cX7_stitch 21 = .ok (.getfield 18, 3) := dq_180 dp_cX7_stitch rfl
theorem dX7_stitch_24 : decode cX7_stitch 24 = .ok (.getfield 140, 3) := dq_180 dp_cX7_stitch rfl
theorem dX7_stitch_27 : decode cX7_stitch 27 = .ok (.iload_n 1, 1) := dq_27 dp_cX7_stitch rfl
theorem dX7_stitch_28 : decode cX7_stitch 28 = .ok (.invokevirtual 282, 3) := dq_182 dp_cX7_stitch rfl
theorem dX7_stitch_31 : decode cX7_stitch 31 = .ok (.ireturn, 1) := dq_172 dp_cX7_stitch rfl
theorem dX7_seed_0 : decode cX7_seed 0 = .ok (.aload_n 0, 1) := dq_42 dp_cX7_seed rfl
theorem dX7_seed_1 : decode cX7_seed 1 = .ok (.getfield 18, 3) := dq_180 dp_cX7_seed rfl
theorem dX7_seed_4 : decode cX7_seed 4 = .ok (.getfield 285, 3) := dq_180 dp_cX7_seed rfl
theorem dX7_seed_7 : decode cX7_seed 7 = .ok (.istore_n 2, 1) := dq_61 dp_cX7_seed rfl
theorem dX7_seed_8 : decode cX7_seed 8 = .ok (.aload_n 0, 1) := dq_42 dp_cX7_seed rfl
theorem dX7_seed_9 : decode cX7_seed 9 = .ok (.getfield 18, 3) := dq_180 dp_cX7_seed rfl
theorem dX7_seed_12 : decode cX7_seed 12 = .ok (.iload_n 1, 1) := dq_27 dp_cX7_seed rfl
theorem dX7_seed_13 : decode cX7_seed 13 = .ok (.putfield 285, 3) := dq_181 dp_cX7_seed rfl
theorem dX7_seed_16 : decode cX7_seed 16 = .ok (.iload_n 2, 1) := dq_28 dp_cX7_seed rfl
theorem dX7_seed_17 : decode cX7_seed 17 = .ok (.ireturn, 1) := dq_172 dp_cX7_seed rfl
set_option maxRecDepth 20000 in
theorem gl_X7_act_X00 : GoodIn wsX7_act wsX00 := (dg_t (dg_l (dg_r gw_wsX00)))
theorem ggX7_act_X0_pullAt : GoodIn wsX7_act wsX0_pullAt := (dg_c 8 rfl rfl (dg_c 9 rfl rfl (dg_c 10 rfl rfl (dg_c 11 rfl rfl (dg_c 12 rfl rfl (dg_c 13 rfl rfl gl_X7_act_X00))))))
set_option maxRecDepth 20000 in
theorem gX7_act_X0_pullAt : GoodIn wsX7_act (wsV RX7 100 RX0 yX0_pullAt wsX0_pullAt) := goodIn_app (dg_c 4 rfl rfl (dg_c 5 rfl rfl (dg_c 6 rfl rfl (dg_c 7 rfl rfl dg_0)))) ggX7_act_X0_pullAt
set_option maxRecDepth 20000 in
theorem ggX7_act_X7_within : GoodIn wsX7_act wsX7_within := (dg_c 13 rfl rfl dg_0)
set_option maxRecDepth 20000 in
theorem gX7_act_X7_within : GoodIn wsX7_act (va_wsS RX7 67 yX7_within wsX7_within) := goodIn_app (dg_c 14 rfl rfl (dg_c 11 rfl rfl (dg_c 12 rfl rfl dg_0))) ggX7_act_X7_within
set_option maxRecDepth 20000 in
theorem gl_X7_act_X20 : GoodIn wsX7_act wsX20 := (dg_t (dg_r gw_wsX20))
theorem gl_X7_act_X10 : GoodIn wsX7_act wsX10 := (dg_t (dg_l (dg_l (dg_r gw_wsX10))))
theorem ggX7_act_X1_begin : GoodIn wsX7_act wsX1_begin := (dg_c 19 rfl rfl (goodIn_app (goodIn_app (goodIn_app (dg_c 20 rfl rfl (dg_c 21 rfl rfl (dg_c 22 rfl rfl (dg_c 23 rfl rfl (dg_c 24 rfl rfl (dg_c 25 rfl rfl (dg_c 26 rfl rfl (dg_c 27 rfl rfl (dg_c 18 rfl rfl (dg_c 28 rfl rfl (dg_c 29 rfl rfl (dg_c 30 rfl rfl (dg_c 31 rfl rfl (dg_c 11 rfl rfl (dg_c 12 rfl rfl (dg_c 13 rfl rfl (dg_c 32 rfl rfl (dg_c 33 rfl rfl (dg_c 34 rfl rfl (dg_c 35 rfl rfl (dg_c 36 rfl rfl (dg_c 37 rfl rfl (dg_c 38 rfl rfl (dg_c 39 rfl rfl dg_0)))))))))))))))))))))))) (dg_c 40 rfl rfl dg_0)) gl_X7_act_X20) gl_X7_act_X10))
set_option maxRecDepth 20000 in
theorem gX7_act_X1_begin : GoodIn wsX7_act (wsV RX7 291 RX1 yX1_begin wsX1_begin) := goodIn_app (dg_c 15 rfl rfl (dg_c 16 rfl rfl (dg_c 17 rfl rfl (dg_c 18 rfl rfl dg_0)))) ggX7_act_X1_begin
theorem dX7_act_0 : decode cX7_act 0 = .ok (.aload_n 0, 1) := dq_42 dp_cX7_act rfl
theorem dX7_act_1 : decode cX7_act 1 = .ok (.getfield 42, 3) := dq_180 dp_cX7_act rfl
theorem dX7_act_4 : decode cX7_act 4 = .ok (.iconst 0, 1) := dq_3 dp_cX7_act rfl
theorem dX7_act_5 : decode cX7_act 5 = .ok (.putfield 288, 3) := dq_181 dp_cX7_act rfl
theorem dX7_act_8 : decode cX7_act 8 = .ok (.aload_n 0, 1) := dq_42 dp_cX7_act rfl
theorem dX7_act_9 : decode cX7_act 9 = .ok (.getfield 18, 3) := dq_180 dp_cX7_act rfl
theorem dX7_act_12 : decode cX7_act 12 = .ok (.iload_n 1, 1) := dq_27 dp_cX7_act rfl
theorem dX7_act_13 : decode cX7_act 13 = .ok (.invokevirtual 100, 3) := dq_182 dp_cX7_act rfl
theorem dX7_act_16 : decode cX7_act 16 = .ok (.astore 4, 2) := dq_58 dp_cX7_act rfl
theorem dX7_act_18 : decode cX7_act 18 = .ok (.aload 4, 2) := dq_25 dp_cX7_act rfl
theorem dX7_act_20 : decode cX7_act 20 = .ok (.ifnull 12, 3) := dq_198 (v := 12) dp_cX7_act rfl rfl
theorem dX7_act_23 : decode cX7_act 23 = .ok (.iload_n 2, 1) := dq_28 dp_cX7_act rfl
theorem dX7_act_24 : decode cX7_act 24 = .ok (.iconst 0, 1) := dq_3 dp_cX7_act rfl
theorem dX7_act_25 : decode cX7_act 25 = .ok (.iconst 2, 1) := dq_5 dp_cX7_act rfl
theorem dX7_act_26 : decode cX7_act 26 = .ok (.invokestatic 67, 3) := dq_184 dp_cX7_act rfl
theorem dX7_act_29 : decode cX7_act 29 = .ok (.ifCond .ne 5, 3) := dq_154 (v := 5) dp_cX7_act rfl rfl
theorem dX7_act_32 : decode cX7_act 32 = .ok (.iconst 0, 1) := dq_3 dp_cX7_act rfl
theorem dX7_act_33 : decode cX7_act 33 = .ok (.ireturn, 1) := dq_172 dp_cX7_act rfl
theorem dX7_act_34 : decode cX7_act 34 = .ok (.aload_n 0, 1) := dq_42 dp_cX7_act rfl
theorem dX7_act_35 : decode cX7_act 35 = .ok (.getfield 42, 3) := dq_180 dp_cX7_act rfl
theorem dX7_act_38 : decode cX7_act 38 = .ok (.aload 4, 2) := dq_25 dp_cX7_act rfl
theorem dX7_act_40 : decode cX7_act 40 = .ok (.iload_n 1, 1) := dq_27 dp_cX7_act rfl
theorem dX7_act_41 : decode cX7_act 41 = .ok (.iload_n 2, 1) := dq_28 dp_cX7_act rfl
theorem dX7_act_42 : decode cX7_act 42 = .ok (.iload_n 3, 1) := dq_29 dp_cX7_act rfl
theorem dX7_act_43 : decode cX7_act 43 = .ok (.invokevirtual 291, 3) := dq_182 dp_cX7_act rfl
theorem dX7_act_46 : decode cX7_act 46 = .ok (.ireturn, 1) := dq_172 dp_cX7_act rfl
set_option maxRecDepth 20000 in
theorem gl_X7_trace_X10 : GoodIn wsX7_trace wsX10 := (dg_t (dg_t (dg_t (dg_t (dg_t (dg_t (dg_t (dg_t (dg_t (dg_t (dg_t (dg_t (dg_t (dg_t (dg_t (dg_t (dg_r gw_wsX10)))))))))))))))))
theorem ggX7_trace_X1_bodyAt : GoodIn wsX7_trace wsX1_bodyAt := (dg_c 6 rfl rfl (dg_c 7 rfl rfl (dg_c 8 rfl rfl (dg_c 9 rfl rfl (dg_c 10 rfl rfl (dg_c 11 rfl rfl (dg_c 12 rfl rfl (dg_c 13 rfl rfl (dg_c 14 rfl rfl (dg_c 15 rfl rfl gl_X7_trace_X10))))))))))
set_option maxRecDepth 20000 in
theorem gX7_trace_X1_bodyAt : GoodIn wsX7_trace (wsV RX7 295 RX1 yX1_bodyAt wsX1_bodyAt) := goodIn_app (dg_c 2 rfl rfl (dg_c 3 rfl rfl (dg_c 4 rfl rfl (dg_c 5 rfl rfl dg_0)))) ggX7_trace_X1_bodyAt
theorem dX7_trace_0 : decode cX7_trace 0 = .ok (.aload_n 0, 1) := dq_42 dp_cX7_trace rfl
theorem dX7_trace_1 : decode cX7_trace 1 = .ok (.getfield 42, 3) := dq_180 dp_cX7_trace rfl
theorem dX7_trace_4 : decode cX7_trace 4 = .ok (.iload_n 1, 1) := dq_27 dp_cX7_trace rfl
theorem dX7_trace_5 : decode cX7_trace 5 = .ok (.invokevirtual 295, 3) := dq_182 dp_cX7_trace rfl
theorem dX7_trace_8 : decode cX7_trace 8 = .ok (.ireturn, 1) := dq_172 dp_cX7_trace rfl
set_option maxRecDepth 20000 in
theorem gl_X7_image_X00 : GoodIn wsX7_image wsX00 := (dg_t (dg_l (dg_r gw_wsX00)))
theorem gl_X7_image_X60 : GoodIn wsX7_image wsX60 := (dg_t (dg_r gw_wsX60))
theorem ggX7_image_X0_become : GoodIn wsX7_image wsX0_become := (dg_c 9 rfl rfl (dg_c 10 rfl rfl (dg_c 11 rfl rfl (dg_c 12 rfl rfl (dg_c 13 rfl rfl (dg_c 14 rfl rfl (dg_c 15 rfl rfl (dg_c 16 rfl rfl (dg_c 17 rfl rfl (dg_c 18 rfl rfl (dg_c 19 rfl rfl (dg_c 20 rfl rfl (dg_c 21 rfl rfl (dg_c 22 rfl rfl (dg_c 23 rfl rfl (dg_c 24 rfl rfl (dg_c 25 rfl rfl (dg_c 26 rfl rfl (dg_c 27 rfl rfl (dg_c 28 rfl rfl (dg_c 29 rfl rfl (dg_c 30 rfl rfl (dg_c 31 rfl rfl (dg_c 32 rfl rfl (goodIn_app gl_X7_image_X00 gl_X7_image_X60)))))))))))))))))))))))))
set_option maxRecDepth 20000 in
theorem gX7_image_X0_become : GoodIn wsX7_image (wsV RX7 298 RX0 yX0_become wsX0_become) := goodIn_app (dg_c 5 rfl rfl (dg_c 6 rfl rfl (dg_c 7 rfl rfl (dg_c 8 rfl rfl dg_0)))) ggX7_image_X0_become
theorem dX7_image_0 : decode cX7_image 0 = .ok (.aload_n 0, 1) := dq_42 dp_cX7_image rfl
theorem dX7_image_1 : decode cX7_image 1 = .ok (.getfield 22, 3) := dq_180 dp_cX7_image rfl
theorem dX7_image_4 : decode cX7_image 4 = .ok (.aload_n 0, 1) := dq_42 dp_cX7_image rfl
theorem dX7_image_5 : decode cX7_image 5 = .ok (.getfield 18, 3) := dq_180 dp_cX7_image rfl
theorem dX7_image_8 : decode cX7_image 8 = .ok (.invokevirtual 298, 3) := dq_182 dp_cX7_image rfl
theorem dX7_image_11 : decode cX7_image 11 = .ok (.aload_n 0, 1) := dq_42 dp_cX7_image rfl
theorem dX7_image_12 : decode cX7_image 12 = .ok (.iconst 1, 1) := dq_4 dp_cX7_image rfl
theorem dX7_image_13 : decode cX7_image 13 = .ok (.putfield 50, 3) := dq_181 dp_cX7_image rfl
theorem dX7_image_16 : decode cX7_image 16 = .ok (.aload_n 0, 1) := dq_42 dp_cX7_image rfl
theorem dX7_image_17 : decode cX7_image 17 = .ok (.getfield 22, 3) := dq_180 dp_cX7_image rfl
theorem dX7_image_20 : decode cX7_image 20 = .ok (.getfield 123, 3) := dq_180 dp_cX7_image rfl
theorem dX7_image_23 : decode cX7_image 23 = .ok (.ireturn, 1) := dq_172 dp_cX7_image rfl
set_option maxRecDepth 20000 in
theorem gl_X7_restore_X70 : GoodIn wsX7_restore wsX70 := (dg_t (dg_l (dg_l (dg_l (dg_r gw_wsX70)))))
theorem ggX7_restore_X7_refuse : GoodIn wsX7_restore wsX7_refuse := (dg_c 10 rfl rfl (dg_c 11 rfl rfl (dg_c 12 rfl rfl (dg_c 13 rfl rfl (dg_c 9 rfl rfl (dg_c 14 rfl rfl gl_X7_restore_X70))))))
set_option maxRecDepth 20000 in
theorem gX7_restore_X7_refuse : GoodIn wsX7_restore (wsV RX7 63 RX7 yX7_refuse wsX7_refuse) := goodIn_app (dg_c 6 rfl rfl (dg_c 7 rfl rfl (dg_c 8 rfl rfl (dg_c 9 rfl rfl dg_0)))) ggX7_restore_X7_refuse
set_option maxRecDepth 20000 in
theorem gl_X7_restore_X00 : GoodIn wsX7_restore wsX00 := (dg_t (dg_l (dg_l (dg_r gw_wsX00))))
theorem gl_X7_restore_X60 : GoodIn wsX7_restore wsX60 := (dg_t (dg_l (dg_r gw_wsX60)))
theorem ggX7_restore_X0_become : GoodIn wsX7_restore wsX0_become := (dg_c 19 rfl rfl (dg_c 20 rfl rfl (dg_c 21 rfl rfl (dg_c 22 rfl rfl (dg_c 23 rfl rfl (dg_c 24 rfl rfl (dg_c 25 rfl rfl (dg_c 26 rfl rfl (dg_c 27 rfl rfl (dg_c 28 rfl rfl (dg_c 29 rfl rfl (dg_c 30 rfl rfl (dg_c 31 rfl rfl (dg_c 32 rfl rfl (dg_c 33 rfl rfl (dg_c 34 rfl rfl (dg_c 35 rfl rfl (dg_c 36 rfl rfl (dg_c 37 rfl rfl (dg_c 38 rfl rfl (dg_c 39 rfl rfl (dg_c 40 rfl rfl (dg_c 41 rfl rfl (dg_c 42 rfl rfl (goodIn_app gl_X7_restore_X00 gl_X7_restore_X60)))))))))))))))))))))))))
set_option maxRecDepth 20000 in
theorem gX7_restore_X0_become : GoodIn wsX7_restore (wsV RX7 298 RX0 yX0_become wsX0_become) := goodIn_app (dg_c 15 rfl rfl (dg_c 16 rfl rfl (dg_c 17 rfl rfl (dg_c 18 rfl rfl dg_0)))) ggX7_restore_X0_become
set_option maxRecDepth 20000 in
theorem gl_X7_restore_X40 : GoodIn wsX7_restore wsX40 := (dg_t (dg_r gw_wsX40))
theorem ggX7_restore_X4_forgetFrom : GoodIn wsX7_restore wsX4_forgetFrom := (dg_c 47 rfl rfl (dg_c 48 rfl rfl gl_X7_restore_X40))
set_option maxRecDepth 20000 in
theorem gX7_restore_X4_forgetFrom : GoodIn wsX7_restore (wsV RX7 301 RX4 yX4_forgetFrom wsX4_forgetFrom) := goodIn_app (dg_c 43 rfl rfl (dg_c 44 rfl rfl (dg_c 45 rfl rfl (dg_c 46 rfl rfl dg_0)))) ggX7_restore_X4_forgetFrom
theorem dX7_restore_0 : decode cX7_restore 0 = .ok (.aload_n 0, 1) := dq_42 dp_cX7_restore rfl
theorem dX7_restore_1 : decode cX7_restore 1 = .ok (.getfield 50, 3) := dq_180 dp_cX7_restore rfl
theorem dX7_restore_4 : decode cX7_restore 4 = .ok (.ifCond .ne 10, 3) := dq_154 (v := 10) dp_cX7_restore rfl rfl
theorem dX7_restore_7 : decode cX7_restore 7 = .ok (.aload_n 0, 1) := dq_42 dp_cX7_restore rfl
theorem dX7_restore_8 : decode cX7_restore 8 = .ok (.bipush 6, 2) := dq_16 (v := 6) dp_cX7_restore rfl rfl
theorem dX7_restore_10 : decode cX7_restore 10 = .ok (.invokevirtual 63, 3) := dq_182 dp_cX7_restore rfl
theorem dX7_restore_13 : decode cX7_restore 13 = .ok (.ireturn, 1) := dq_172 dp_cX7_restore rfl
theorem dX7_restore_14 : decode cX7_restore 14 = .ok (.aload_n 0, 1) := dq_42 dp_cX7_restore rfl
theorem dX7_restore_15 : decode cX7_restore 15 = .ok (.getfield 18, 3) := dq_180 dp_cX7_restore rfl
theorem dX7_restore_18 : decode cX7_restore 18 = .ok (.aload_n 0, 1) := dq_42 dp_cX7_restore rfl
theorem dX7_restore_19 : decode cX7_restore 19 = .ok (.getfield 22, 3) := dq_180 dp_cX7_restore rfl
theorem dX7_restore_22 : decode cX7_restore 22 = .ok (.invokevirtual 298, 3) := dq_182 dp_cX7_restore rfl
theorem dX7_restore_25 : decode cX7_restore 25 = .ok (.iconst 0, 1) := dq_3 dp_cX7_restore rfl
theorem dX7_restore_26 : decode cX7_restore 26 = .ok (.istore_n 1, 1) := dq_60 dp_cX7_restore rfl
theorem dX7_restore_27 : decode cX7_restore 27 = .ok (.iload_n 1, 1) := dq_27 dp_cX7_restore rfl
theorem dX7_restore_28 : decode cX7_restore 28 = .ok (.bipush 8, 2) := dq_16 (v := 8) dp_cX7_restore rfl rfl
theorem dX7_restore_30 : decode cX7_restore 30 = .ok (.if_icmp .ge 25, 3) := dq_162 (v := 25) dp_cX7_restore rfl rfl
theorem dX7_restore_33 : decode cX7_restore 33 = .ok (.aload_n 0, 1) := dq_42 dp_cX7_restore rfl
theorem dX7_restore_34 : decode cX7_restore 34 = .ok (.getfield 11, 3) := dq_180 dp_cX7_restore rfl
theorem dX7_restore_37 : decode cX7_restore 37 = .ok (.iload_n 1, 1) := dq_27 dp_cX7_restore rfl
theorem dX7_restore_38 : decode cX7_restore 38 = .ok (.aaload, 1) := dq_50 dp_cX7_restore rfl
theorem dX7_restore_39 : decode cX7_restore 39 = .ok (.aload_n 0, 1) := dq_42 dp_cX7_restore rfl
theorem dX7_restore_40 : decode cX7_restore 40 = .ok (.getfield 18, 3) := dq_180 dp_cX7_restore rfl
theorem dX7_restore_43 : decode cX7_restore 43 = .ok (.getfield 123, 3) := dq_180 dp_cX7_restore rfl
theorem dX7_restore_46 : decode cX7_restore 46 = .ok (.invokevirtual 301, 3) := dq_182 dp_cX7_restore rfl
theorem dX7_restore_49 : decode cX7_restore 49 = .ok (.iinc 1 1, 3) := dq_132 (v := 1) dp_cX7_restore rfl (by decide) rfl
theorem dX7_restore_52 : decode cX7_restore 52 = .ok (.goto (-25), 3) := dq_167 (v := 65511) dp_cX7_restore rfl rfl
theorem dX7_restore_55 : decode cX7_restore 55 = .ok (.aload_n 0, 1) := dq_42 dp_cX7_restore rfl
theorem dX7_restore_56 : decode cX7_restore 56 = .ok (.getfield 18, 3) := dq_180 dp_cX7_restore rfl
theorem dX7_restore_59 : decode cX7_restore 59 = .ok (.getfield 123, 3) := dq_180 dp_cX7_restore rfl
theorem dX7_restore_62 : decode cX7_restore 62 = .ok (.ireturn, 1) := dq_172 dp_cX7_restore rfl
set_option maxRecDepth 20000 in
theorem ggX7_status_X7_within : GoodIn wsX7_status wsX7_within := (dg_c 18 rfl rfl dg_0)
set_option maxRecDepth 20000 in
theorem gX7_status_X7_within : GoodIn wsX7_status (va_wsS RX7 67 yX7_within wsX7_within) := goodIn_app (dg_c 15 rfl rfl (dg_c 16 rfl rfl (dg_c 17 rfl rfl dg_0))) ggX7_status_X7_within
theorem dX7_status_0 : decode cX7_status 0 = .ok (.iload_n 1, 1) := dq_27 dp_cX7_status rfl
theorem dX7_status_1 : decode cX7_status 1 = .ok (.bipush 11, 2) := dq_16 (v := 11) dp_cX7_status rfl rfl
theorem dX7_status_3 : decode cX7_status 3 = .ok (.bipush 17, 2) := dq_16 (v := 17) dp_cX7_status rfl rfl
theorem dX7_status_5 : decode cX7_status 5 = .ok (.invokestatic 67, 3) := dq_184 dp_cX7_status rfl
theorem dX7_status_8 : decode cX7_status 8 = .ok (.ifCond .eq 13, 3) := dq_153 (v := 13) dp_cX7_status rfl rfl
theorem dX7_status_11 : decode cX7_status 11 = .ok (.aload_n 0, 1) := dq_42 dp_cX7_status rfl
theorem dX7_status_12 : decode cX7_status 12 = .ok (.getfield 46, 3) := dq_180 dp_cX7_status rfl
theorem dX7_status_15 : decode cX7_status 15 = .ok (.iload_n 1, 1) := dq_27 dp_cX7_status rfl
theorem dX7_status_16 : decode cX7_status 16 = .ok (.bipush 10, 2) := dq_16 (v := 10) dp_cX7_status rfl rfl
theorem dX7_status_18 : decode cX7_status 18 = .ok (.isub, 1) := dq_100 dp_cX7_status rfl
theorem dX7_status_19 : decode cX7_status 19 = .ok (.iaload, 1) := dq_46 dp_cX7_status rfl
theorem dX7_status_20 : decode cX7_status 20 = .ok (.ireturn, 1) := dq_172 dp_cX7_status rfl
theorem dX7_status_21 : decode cX7_status 21 = .ok (.iload_n 1, 1) := dq_27 dp_cX7_status rfl
theorem dX7_status_22 : decode cX7_status 22 = .ok (.tableswitch 143 0 9 #[54, 62, 73, 84, 92, 100, 108, 116, 127, 135], 54) := by decide +kernel
theorem dX7_status_76 : decode cX7_status 76 = .ok (.aload_n 0, 1) := dq_42 dp_cX7_status rfl
theorem dX7_status_77 : decode cX7_status 77 = .ok (.getfield 18, 3) := dq_180 dp_cX7_status rfl
theorem dX7_status_80 : decode cX7_status 80 = .ok (.getfield 123, 3) := dq_180 dp_cX7_status rfl
theorem dX7_status_83 : decode cX7_status 83 = .ok (.ireturn, 1) := dq_172 dp_cX7_status rfl
theorem dX7_status_84 : decode cX7_status 84 = .ok (.aload_n 0, 1) := dq_42 dp_cX7_status rfl
theorem dX7_status_85 : decode cX7_status 85 = .ok (.getfield 18, 3) := dq_180 dp_cX7_status rfl
theorem dX7_status_88 : decode cX7_status 88 = .ok (.getfield 140, 3) := dq_180 dp_cX7_status rfl
theorem dX7_status_91 : decode cX7_status 91 = .ok (.getfield 144, 3) := dq_180 dp_cX7_status rfl
theorem dX7_status_94 : decode cX7_status 94 = .ok (.ireturn, 1) := dq_172 dp_cX7_status rfl
theorem dX7_status_95 : decode cX7_status 95 = .ok (.aload_n 0, 1) := dq_42 dp_cX7_status rfl
theorem dX7_status_96 : decode cX7_status 96 = .ok (.getfield 18, 3) := dq_180 dp_cX7_status rfl
theorem dX7_status_99 : decode cX7_status 99 = .ok (.getfield 140, 3) := dq_180 dp_cX7_status rfl
theorem dX7_status_102 : decode cX7_status 102 = .ok (.getfield 275, 3) := dq_180 dp_cX7_status rfl
theorem dX7_status_105 : decode cX7_status 105 = .ok (.ireturn, 1) := dq_172 dp_cX7_status rfl
theorem dX7_status_106 : decode cX7_status 106 = .ok (.aload_n 0, 1) := dq_42 dp_cX7_status rfl
theorem dX7_status_107 : decode cX7_status 107 = .ok (.getfield 18, 3) := dq_180 dp_cX7_status rfl
theorem dX7_status_110 : decode cX7_status 110 = .ok (.getfield 199, 3) := dq_180 dp_cX7_status rfl
theorem dX7_status_113 : decode cX7_status 113 = .ok (.ireturn, 1) := dq_172 dp_cX7_status rfl
theorem dX7_status_114 : decode cX7_status 114 = .ok (.aload_n 0, 1) := dq_42 dp_cX7_status rfl
theorem dX7_status_115 : decode cX7_status 115 = .ok (.getfield 18, 3) := dq_180 dp_cX7_status rfl
theorem dX7_status_118 : decode cX7_status 118 = .ok (.getfield 304, 3) := dq_180 dp_cX7_status rfl
theorem dX7_status_121 : decode cX7_status 121 = .ok (.ireturn, 1) := dq_172 dp_cX7_status rfl
theorem dX7_status_122 : decode cX7_status 122 = .ok (.aload_n 0, 1) := dq_42 dp_cX7_status rfl
theorem dX7_status_123 : decode cX7_status 123 = .ok (.getfield 18, 3) := dq_180 dp_cX7_status rfl
theorem dX7_status_126 : decode cX7_status 126 = .ok (.getfield 202, 3) := dq_180 dp_cX7_status rfl
theorem dX7_status_129 : decode cX7_status 129 = .ok (.ireturn, 1) := dq_172 dp_cX7_status rfl
theorem dX7_status_130 : decode cX7_status 130 = .ok (.aload_n 0, 1) := dq_42 dp_cX7_status rfl
theorem dX7_status_131 : decode cX7_status 131 = .ok (.getfield 18, 3) := dq_180 dp_cX7_status rfl
theorem dX7_status_134 : decode cX7_status 134 = .ok (.getfield 116, 3) := dq_180 dp_cX7_status rfl
theorem dX7_status_137 : decode cX7_status 137 = .ok (.ireturn, 1) := dq_172 dp_cX7_status rfl
theorem dX7_status_138 : decode cX7_status 138 = .ok (.aload_n 0, 1) := dq_42 dp_cX7_status rfl
theorem dX7_status_139 : decode cX7_status 139 = .ok (.getfield 18, 3) := dq_180 dp_cX7_status rfl
theorem dX7_status_142 : decode cX7_status 142 = .ok (.getfield 140, 3) := dq_180 dp_cX7_status rfl
theorem dX7_status_145 : decode cX7_status 145 = .ok (.getfield 307, 3) := dq_180 dp_cX7_status rfl
theorem dX7_status_148 : decode cX7_status 148 = .ok (.ireturn, 1) := dq_172 dp_cX7_status rfl
theorem dX7_status_149 : decode cX7_status 149 = .ok (.aload_n 0, 1) := dq_42 dp_cX7_status rfl
theorem dX7_status_150 : decode cX7_status 150 = .ok (.getfield 18, 3) := dq_180 dp_cX7_status rfl
theorem dX7_status_153 : decode cX7_status 153 = .ok (.getfield 285, 3) := dq_180 dp_cX7_status rfl
theorem dX7_status_156 : decode cX7_status 156 = .ok (.ireturn, 1) := dq_172 dp_cX7_status rfl
theorem dX7_status_157 : decode cX7_status 157 = .ok (.aload_n 0, 1) := dq_42 dp_cX7_status rfl
theorem dX7_status_158 : decode cX7_status 158 = .ok (.getfield 42, 3) := dq_180 dp_cX7_status rfl
theorem dX7_status_161 : decode cX7_status 161 = .ok (.getfield 288, 3) := dq_180 dp_cX7_status rfl
theorem dX7_status_164 : decode cX7_status 164 = .ok (.ireturn, 1) := dq_172 dp_cX7_status rfl
theorem dX7_status_165 : decode cX7_status 165 = .ok (.iconst (-1), 1) := dq_2 dp_cX7_status rfl
theorem dX7_status_166 : decode cX7_status 166 = .ok (.ireturn, 1) := dq_172 dp_cX7_status rfl
set_option maxRecDepth 20000 in
theorem ggX7_refuse_X7_within : GoodIn wsX7_refuse wsX7_within := (dg_c 5 rfl rfl dg_0)
set_option maxRecDepth 20000 in
theorem gX7_refuse_X7_within : GoodIn wsX7_refuse (va_wsS RX7 67 yX7_within wsX7_within) := goodIn_app (dg_c 2 rfl rfl (dg_c 3 rfl rfl (dg_c 4 rfl rfl dg_0))) ggX7_refuse_X7_within
theorem dX7_refuse_0 : decode cX7_refuse 0 = .ok (.iload_n 1, 1) := dq_27 dp_cX7_refuse rfl
theorem dX7_refuse_1 : decode cX7_refuse 1 = .ok (.iconst 1, 1) := dq_4 dp_cX7_refuse rfl
theorem dX7_refuse_2 : decode cX7_refuse 2 = .ok (.bipush 7, 2) := dq_16 (v := 7) dp_cX7_refuse rfl rfl
theorem dX7_refuse_4 : decode cX7_refuse 4 = .ok (.invokestatic 67, 3) := dq_184 dp_cX7_refuse rfl
theorem dX7_refuse_7 : decode cX7_refuse 7 = .ok (.ifCond .eq 13, 3) := dq_153 (v := 13) dp_cX7_refuse rfl rfl
theorem dX7_refuse_10 : decode cX7_refuse 10 = .ok (.aload_n 0, 1) := dq_42 dp_cX7_refuse rfl
theorem dX7_refuse_11 : decode cX7_refuse 11 = .ok (.getfield 46, 3) := dq_180 dp_cX7_refuse rfl
theorem dX7_refuse_14 : decode cX7_refuse 14 = .ok (.iload_n 1, 1) := dq_27 dp_cX7_refuse rfl
theorem dX7_refuse_15 : decode cX7_refuse 15 = .ok (.dup2, 1) := dq_92 dp_cX7_refuse rfl
theorem dX7_refuse_16 : decode cX7_refuse 16 = .ok (.iaload, 1) := dq_46 dp_cX7_refuse rfl
theorem dX7_refuse_17 : decode cX7_refuse 17 = .ok (.iconst 1, 1) := dq_4 dp_cX7_refuse rfl
theorem dX7_refuse_18 : decode cX7_refuse 18 = .ok (.iadd, 1) := dq_96 dp_cX7_refuse rfl
theorem dX7_refuse_19 : decode cX7_refuse 19 = .ok (.iastore, 1) := dq_79 dp_cX7_refuse rfl
theorem dX7_refuse_20 : decode cX7_refuse 20 = .ok (.iload_n 1, 1) := dq_27 dp_cX7_refuse rfl
theorem dX7_refuse_21 : decode cX7_refuse 21 = .ok (.ineg, 1) := dq_116 dp_cX7_refuse rfl
theorem dX7_refuse_22 : decode cX7_refuse 22 = .ok (.ireturn, 1) := dq_172 dp_cX7_refuse rfl
set_option maxRecDepth 20000 in
theorem gl_X7_refuseLower_X70 : GoodIn wsX7_refuseLower wsX70 := (dg_t (dg_t (dg_t (dg_t (dg_t (dg_t (dg_t (dg_t (dg_t (dg_t gw_wsX70))))))))))
theorem ggX7_refuseLower_X7_refuse : GoodIn wsX7_refuseLower wsX7_refuse := (dg_c 5 rfl rfl (dg_c 6 rfl rfl (dg_c 7 rfl rfl (dg_c 8 rfl rfl (dg_c 4 rfl rfl (dg_c 9 rfl rfl gl_X7_refuseLower_X70))))))
set_option maxRecDepth 20000 in
theorem gX7_refuseLower_X7_refuse : GoodIn wsX7_refuseLower (wsV RX7 63 RX7 yX7_refuse wsX7_refuse) := goodIn_app (dg_c 1 rfl rfl (dg_c 2 rfl rfl (dg_c 3 rfl rfl (dg_c 4 rfl rfl dg_0)))) ggX7_refuseLower_X7_refuse
theorem dX7_refuseLower_0 : decode cX7_refuseLower 0 = .ok (.aload_n 0, 1) := dq_42 dp_cX7_refuseLower rfl
theorem dX7_refuseLower_1 : decode cX7_refuseLower 1 = .ok (.iload_n 1, 1) := dq_27 dp_cX7_refuseLower rfl
theorem dX7_refuseLower_2 : decode cX7_refuseLower 2 = .ok (.invokevirtual 63, 3) := dq_182 dp_cX7_refuseLower rfl
theorem dX7_refuseLower_5 : decode cX7_refuseLower 5 = .ok (.bipush 10, 2) := dq_16 (v := 10) dp_cX7_refuseLower rfl rfl
theorem dX7_refuseLower_7 : decode cX7_refuseLower 7 = .ok (.isub, 1) := dq_100 dp_cX7_refuseLower rfl
theorem dX7_refuseLower_8 : decode cX7_refuseLower 8 = .ok (.ireturn, 1) := dq_172 dp_cX7_refuseLower rfl
set_option maxRecDepth 20000 in
theorem ggX7_shelfAt_X7_within : GoodIn wsX7_shelfAt wsX7_within := (dg_c 5 rfl rfl dg_0)
set_option maxRecDepth 20000 in
theorem gX7_shelfAt_X7_within : GoodIn wsX7_shelfAt (va_wsS RX7 67 yX7_within wsX7_within) := goodIn_app (dg_c 2 rfl rfl (dg_c 3 rfl rfl (dg_c 4 rfl rfl dg_0))) ggX7_shelfAt_X7_within
theorem dX7_shelfAt_0 : decode cX7_shelfAt 0 = .ok (.iload_n 1, 1) := dq_27 dp_cX7_shelfAt rfl
theorem dX7_shelfAt_1 : decode cX7_shelfAt 1 = .ok (.iconst 0, 1) := dq_3 dp_cX7_shelfAt rfl
theorem dX7_shelfAt_2 : decode cX7_shelfAt 2 = .ok (.bipush 7, 2) := dq_16 (v := 7) dp_cX7_shelfAt rfl rfl
theorem dX7_shelfAt_4 : decode cX7_shelfAt 4 = .ok (.invokestatic 67, 3) := dq_184 dp_cX7_shelfAt rfl
theorem dX7_shelfAt_7 : decode cX7_shelfAt 7 = .ok (.ifCond .eq 12, 3) := dq_153 (v := 12) dp_cX7_shelfAt rfl rfl
theorem dX7_shelfAt_10 : decode cX7_shelfAt 10 = .ok (.aload_n 0, 1) := dq_42 dp_cX7_shelfAt rfl
theorem dX7_shelfAt_11 : decode cX7_shelfAt 11 = .ok (.getfield 11, 3) := dq_180 dp_cX7_shelfAt rfl
theorem dX7_shelfAt_14 : decode cX7_shelfAt 14 = .ok (.iload_n 1, 1) := dq_27 dp_cX7_shelfAt rfl
theorem dX7_shelfAt_15 : decode cX7_shelfAt 15 = .ok (.aaload, 1) := dq_50 dp_cX7_shelfAt rfl
theorem dX7_shelfAt_16 : decode cX7_shelfAt 16 = .ok (.goto 4, 3) := dq_167 (v := 4) dp_cX7_shelfAt rfl rfl
theorem dX7_shelfAt_19 : decode cX7_shelfAt 19 = .ok (.aconst_null, 1) := dq_1 dp_cX7_shelfAt rfl
theorem dX7_shelfAt_20 : decode cX7_shelfAt 20 = .ok (.areturn, 1) := dq_176 dp_cX7_shelfAt rfl
set_option maxRecDepth 20000 in
theorem gl_X7_casesBy_X00 : GoodIn wsX7_casesBy wsX00 := (dg_t (dg_l (dg_l (dg_r gw_wsX00))))
theorem gl_X7_casesBy_X50 : GoodIn wsX7_casesBy wsX50 := (dg_t (dg_l (dg_r gw_wsX50)))
theorem gl_X7_casesBy_X20 : GoodIn wsX7_casesBy wsX20 := (dg_t (dg_r gw_wsX20))
theorem ggX7_casesBy_X5_look : GoodIn wsX7_casesBy wsX5_look := (dg_c 9 rfl rfl (goodIn_app (goodIn_app (goodIn_app (goodIn_app (dg_c 10 rfl rfl (dg_c 11 rfl rfl (dg_c 12 rfl rfl (dg_c 13 rfl rfl (dg_c 14 rfl rfl (dg_c 15 rfl rfl (dg_c 16 rfl rfl (dg_c 17 rfl rfl (dg_c 18 rfl rfl (dg_c 19 rfl rfl (dg_c 20 rfl rfl (dg_c 21 rfl rfl (dg_c 22 rfl rfl (dg_c 23 rfl rfl (dg_c 24 rfl rfl (dg_c 25 rfl rfl (dg_c 26 rfl rfl (dg_c 27 rfl rfl (dg_c 28 rfl rfl (dg_c 29 rfl rfl (dg_c 30 rfl rfl (dg_c 31 rfl rfl (dg_c 32 rfl rfl (dg_c 33 rfl rfl dg_0)))))))))))))))))))))))) (dg_c 34 rfl rfl (dg_c 35 rfl rfl (dg_c 36 rfl rfl (dg_c 37 rfl rfl (dg_c 38 rfl rfl (dg_c 39 rfl rfl (dg_c 40 rfl rfl (dg_c 41 rfl rfl (dg_c 42 rfl rfl dg_0)))))))))) gl_X7_casesBy_X00) gl_X7_casesBy_X50) gl_X7_casesBy_X20))
set_option maxRecDepth 20000 in
theorem gX7_casesBy_X5_look : GoodIn wsX7_casesBy (wsV RX7 195 RX5 yX5_look wsX5_look) := goodIn_app (dg_c 5 rfl rfl (dg_c 6 rfl rfl (dg_c 7 rfl rfl (dg_c 8 rfl rfl dg_0)))) ggX7_casesBy_X5_look
set_option maxRecDepth 20000 in
theorem ggX7_casesBy_X5_most : GoodIn wsX7_casesBy wsX5_most := (dg_c 45 rfl rfl (goodIn_app (goodIn_app (goodIn_app (dg_c 46 rfl rfl (dg_c 13 rfl rfl (dg_c 27 rfl rfl (dg_c 11 rfl rfl (dg_c 17 rfl rfl (dg_c 18 rfl rfl (dg_c 19 rfl rfl (dg_c 20 rfl rfl (dg_c 47 rfl rfl (dg_c 48 rfl rfl (dg_c 49 rfl rfl (dg_c 8 rfl rfl (dg_c 50 rfl rfl (dg_c 15 rfl rfl (dg_c 36 rfl rfl (dg_c 37 rfl rfl (dg_c 38 rfl rfl (dg_c 51 rfl rfl (dg_c 52 rfl rfl (dg_c 53 rfl rfl (dg_c 54 rfl rfl (dg_c 55 rfl rfl (dg_c 56 rfl rfl (dg_c 57 rfl rfl dg_0)))))))))))))))))))))))) (goodIn_app (dg_c 58 rfl rfl (dg_c 59 rfl rfl (dg_c 60 rfl rfl (dg_c 12 rfl rfl (dg_c 16 rfl rfl (dg_c 61 rfl rfl (dg_c 62 rfl rfl (dg_c 63 rfl rfl (dg_c 64 rfl rfl (dg_c 65 rfl rfl (dg_c 66 rfl rfl (dg_c 67 rfl rfl (dg_c 68 rfl rfl (dg_c 69 rfl rfl (dg_c 70 rfl rfl (dg_c 71 rfl rfl (dg_c 72 rfl rfl (dg_c 73 rfl rfl (dg_c 74 rfl rfl (dg_c 75 rfl rfl (dg_c 76 rfl rfl (dg_c 77 rfl rfl (dg_c 78 rfl rfl (dg_c 79 rfl rfl dg_0)))))))))))))))))))))))) (dg_c 80 rfl rfl (dg_c 81 rfl rfl (dg_c 82 rfl rfl (dg_c 83 rfl rfl (dg_c 43 rfl rfl (dg_c 44 rfl rfl (dg_c 84 rfl rfl (dg_c 85 rfl rfl (dg_c 86 rfl rfl (dg_c 87 rfl rfl dg_0)))))))))))) gl_X7_casesBy_X50) gl_X7_casesBy_X20))
set_option maxRecDepth 20000 in
theorem gX7_casesBy_X5_most_n208 : GoodIn wsX7_casesBy (wsX5_most) := ggX7_casesBy_X5_most
theorem dX7_casesBy_0 : decode cX7_casesBy 0 = .ok (.aload_n 0, 1) := dq_42 dp_cX7_casesBy rfl
theorem dX7_casesBy_1 : decode cX7_casesBy 1 = .ok (.getfield 28, 3) := dq_180 dp_cX7_casesBy rfl
theorem dX7_casesBy_4 : decode cX7_casesBy 4 = .ok (.aload_n 0, 1) := dq_42 dp_cX7_casesBy rfl
theorem dX7_casesBy_5 : decode cX7_casesBy 5 = .ok (.getfield 18, 3) := dq_180 dp_cX7_casesBy rfl
theorem dX7_casesBy_8 : decode cX7_casesBy 8 = .ok (.iload_n 1, 1) := dq_27 dp_cX7_casesBy rfl
theorem dX7_casesBy_9 : decode cX7_casesBy 9 = .ok (.iconst 1, 1) := dq_4 dp_cX7_casesBy rfl
theorem dX7_casesBy_10 : decode cX7_casesBy 10 = .ok (.invokevirtual 195, 3) := dq_182 dp_cX7_casesBy rfl
theorem dX7_casesBy_13 : decode cX7_casesBy 13 = .ok (.aload_n 0, 1) := dq_42 dp_cX7_casesBy rfl
theorem dX7_casesBy_14 : decode cX7_casesBy 14 = .ok (.getfield 28, 3) := dq_180 dp_cX7_casesBy rfl
theorem dX7_casesBy_17 : decode cX7_casesBy 17 = .ok (.iload_n 2, 1) := dq_28 dp_cX7_casesBy rfl
theorem dX7_casesBy_18 : decode cX7_casesBy 18 = .ok (.aload_n 0, 1) := dq_42 dp_cX7_casesBy rfl
theorem dX7_casesBy_19 : decode cX7_casesBy 19 = .ok (.getfield 18, 3) := dq_180 dp_cX7_casesBy rfl
theorem dX7_casesBy_22 : decode cX7_casesBy 22 = .ok (.getfield 199, 3) := dq_180 dp_cX7_casesBy rfl
theorem dX7_casesBy_25 : decode cX7_casesBy 25 = .ok (.aload_n 0, 1) := dq_42 dp_cX7_casesBy rfl
theorem dX7_casesBy_26 : decode cX7_casesBy 26 = .ok (.getfield 18, 3) := dq_180 dp_cX7_casesBy rfl
theorem dX7_casesBy_29 : decode cX7_casesBy 29 = .ok (.getfield 202, 3) := dq_180 dp_cX7_casesBy rfl
theorem dX7_casesBy_32 : decode cX7_casesBy 32 = .ok (.invokevirtual 208, 3) := dq_182 dp_cX7_casesBy rfl
theorem dX7_casesBy_35 : decode cX7_casesBy 35 = .ok (.ireturn, 1) := dq_172 dp_cX7_casesBy rfl
set_option maxRecDepth 20000 in
theorem gl_X7_freedWeight_X40 : GoodIn wsX7_freedWeight wsX40 := (dg_t (dg_l (dg_r gw_wsX40)))
theorem ggX7_freedWeight_X4_tells : GoodIn wsX7_freedWeight wsX4_tells := (dg_c 7 rfl rfl (dg_c 8 rfl rfl (dg_c 9 rfl rfl (dg_c 10 rfl rfl (dg_c 11 rfl rfl (dg_c 6 rfl rfl (dg_c 12 rfl rfl (dg_c 13 rfl rfl gl_X7_freedWeight_X40))))))))
set_option maxRecDepth 20000 in
theorem gX7_freedWeight_X4_tells : GoodIn wsX7_freedWeight (wsV RX7 227 RX4 yX4_tells wsX4_tells) := goodIn_app (dg_c 3 rfl rfl (dg_c 4 rfl rfl (dg_c 5 rfl rfl (dg_c 6 rfl rfl dg_0)))) ggX7_freedWeight_X4_tells
set_option maxRecDepth 20000 in
theorem gl_X7_freedWeight_X20 : GoodIn wsX7_freedWeight wsX20 := (dg_t (dg_r gw_wsX20))
theorem ggX7_freedWeight_X2_waysAt : GoodIn wsX7_freedWeight wsX2_waysAt := (dg_c 18 rfl rfl (dg_c 19 rfl rfl (dg_c 20 rfl rfl (dg_c 21 rfl rfl (dg_c 22 rfl rfl (dg_c 23 rfl rfl (dg_c 24 rfl rfl (dg_c 25 rfl rfl (dg_c 26 rfl rfl (dg_c 27 rfl rfl (dg_c 28 rfl rfl (dg_c 29 rfl rfl (dg_c 17 rfl rfl (dg_c 30 rfl rfl (dg_c 31 rfl rfl gl_X7_freedWeight_X20)))))))))))))))
set_option maxRecDepth 20000 in
theorem gX7_freedWeight_X2_waysAt : GoodIn wsX7_freedWeight (wsV RX7 119 RX2 yX2_waysAt wsX2_waysAt) := goodIn_app (dg_c 14 rfl rfl (dg_c 15 rfl rfl (dg_c 16 rfl rfl (dg_c 17 rfl rfl dg_0)))) ggX7_freedWeight_X2_waysAt
theorem dX7_freedWeight_0 : decode cX7_freedWeight 0 = .ok (.aload_n 1, 1) := dq_43 dp_cX7_freedWeight rfl
theorem dX7_freedWeight_1 : decode cX7_freedWeight 1 = .ok (.iconst 0, 1) := dq_3 dp_cX7_freedWeight rfl
theorem dX7_freedWeight_2 : decode cX7_freedWeight 2 = .ok (.invokevirtual 227, 3) := dq_182 dp_cX7_freedWeight rfl
theorem dX7_freedWeight_5 : decode cX7_freedWeight 5 = .ok (.bipush 12, 2) := dq_16 (v := 12) dp_cX7_freedWeight rfl rfl
theorem dX7_freedWeight_7 : decode cX7_freedWeight 7 = .ok (.imul, 1) := dq_104 dp_cX7_freedWeight rfl
theorem dX7_freedWeight_8 : decode cX7_freedWeight 8 = .ok (.istore_n 3, 1) := dq_62 dp_cX7_freedWeight rfl
theorem dX7_freedWeight_9 : decode cX7_freedWeight 9 = .ok (.iconst 1, 1) := dq_4 dp_cX7_freedWeight rfl
theorem dX7_freedWeight_10 : decode cX7_freedWeight 10 = .ok (.istore 4, 2) := dq_54 dp_cX7_freedWeight rfl
theorem dX7_freedWeight_12 : decode cX7_freedWeight 12 = .ok (.iload 4, 2) := dq_21 dp_cX7_freedWeight rfl
theorem dX7_freedWeight_14 : decode cX7_freedWeight 14 = .ok (.bipush 24, 2) := dq_16 (v := 24) dp_cX7_freedWeight rfl rfl
theorem dX7_freedWeight_16 : decode cX7_freedWeight 16 = .ok (.if_icmp .gt 32, 3) := dq_163 (v := 32) dp_cX7_freedWeight rfl rfl
theorem dX7_freedWeight_19 : decode cX7_freedWeight 19 = .ok (.iload_n 3, 1) := dq_29 dp_cX7_freedWeight rfl
theorem dX7_freedWeight_20 : decode cX7_freedWeight 20 = .ok (.aload_n 1, 1) := dq_43 dp_cX7_freedWeight rfl
theorem dX7_freedWeight_21 : decode cX7_freedWeight 21 = .ok (.iload 4, 2) := dq_21 dp_cX7_freedWeight rfl
theorem dX7_freedWeight_23 : decode cX7_freedWeight 23 = .ok (.invokevirtual 227, 3) := dq_182 dp_cX7_freedWeight rfl
theorem dX7_freedWeight_26 : decode cX7_freedWeight 26 = .ok (.aload_n 2, 1) := dq_44 dp_cX7_freedWeight rfl
theorem dX7_freedWeight_27 : decode cX7_freedWeight 27 = .ok (.iload 4, 2) := dq_21 dp_cX7_freedWeight rfl
theorem dX7_freedWeight_29 : decode cX7_freedWeight 29 = .ok (.aload_n 0, 1) := dq_42 dp_cX7_freedWeight rfl
theorem dX7_freedWeight_30 : decode cX7_freedWeight 30 = .ok (.getfield 18, 3) := dq_180 dp_cX7_freedWeight rfl
theorem dX7_freedWeight_33 : decode cX7_freedWeight 33 = .ok (.getfield 116, 3) := dq_180 dp_cX7_freedWeight rfl
theorem dX7_freedWeight_36 : decode cX7_freedWeight 36 = .ok (.invokevirtual 119, 3) := dq_182 dp_cX7_freedWeight rfl
theorem dX7_freedWeight_39 : decode cX7_freedWeight 39 = .ok (.imul, 1) := dq_104 dp_cX7_freedWeight rfl
theorem dX7_freedWeight_40 : decode cX7_freedWeight 40 = .ok (.iadd, 1) := dq_96 dp_cX7_freedWeight rfl
theorem dX7_freedWeight_41 : decode cX7_freedWeight 41 = .ok (.istore_n 3, 1) := dq_62 dp_cX7_freedWeight rfl
theorem dX7_freedWeight_42 : decode cX7_freedWeight 42 = .ok (.iinc 4 1, 3) := dq_132 (v := 1) dp_cX7_freedWeight rfl (by decide) rfl
theorem dX7_freedWeight_45 : decode cX7_freedWeight 45 = .ok (.goto (-33), 3) := dq_167 (v := 65503) dp_cX7_freedWeight rfl rfl
theorem dX7_freedWeight_48 : decode cX7_freedWeight 48 = .ok (.iload_n 3, 1) := dq_29 dp_cX7_freedWeight rfl
theorem dX7_freedWeight_49 : decode cX7_freedWeight 49 = .ok (.ireturn, 1) := dq_172 dp_cX7_freedWeight rfl
set_option maxRecDepth 20000 in
theorem gl_X7_firstWrong_X40 : GoodIn wsX7_firstWrong wsX40 := (dg_t (dg_r gw_wsX40))
theorem ggX7_firstWrong_X4_tells : GoodIn wsX7_firstWrong wsX4_tells := (dg_c 10 rfl rfl (dg_c 11 rfl rfl (dg_c 12 rfl rfl (dg_c 13 rfl rfl (dg_c 14 rfl rfl (dg_c 9 rfl rfl (dg_c 15 rfl rfl (dg_c 16 rfl rfl gl_X7_firstWrong_X40))))))))
set_option maxRecDepth 20000 in
theorem gX7_firstWrong_X4_tells : GoodIn wsX7_firstWrong (wsV RX7 227 RX4 yX4_tells wsX4_tells) := goodIn_app (dg_c 6 rfl rfl (dg_c 7 rfl rfl (dg_c 8 rfl rfl (dg_c 9 rfl rfl dg_0)))) ggX7_firstWrong_X4_tells
set_option maxRecDepth 20000 in
theorem gl_X7_firstWrong_X00 : GoodIn wsX7_firstWrong wsX00 := (dg_t (dg_l (dg_l (dg_r gw_wsX00))))
theorem ggX7_firstWrong_X0_pullAt : GoodIn wsX7_firstWrong wsX0_pullAt := (dg_c 21 rfl rfl (dg_c 22 rfl rfl (dg_c 23 rfl rfl (dg_c 24 rfl rfl (dg_c 25 rfl rfl (dg_c 26 rfl rfl gl_X7_firstWrong_X00))))))
set_option maxRecDepth 20000 in
theorem gX7_firstWrong_X0_pullAt : GoodIn wsX7_firstWrong (wsV RX7 100 RX0 yX0_pullAt wsX0_pullAt) := goodIn_app (dg_c 17 rfl rfl (dg_c 18 rfl rfl (dg_c 19 rfl rfl (dg_c 20 rfl rfl dg_0)))) ggX7_firstWrong_X0_pullAt
set_option maxRecDepth 20000 in
theorem gl_X7_firstWrong_X20 : GoodIn wsX7_firstWrong wsX20 := (dg_t (dg_l (dg_r gw_wsX20)))
theorem ggX7_firstWrong_X2_mayBe : GoodIn wsX7_firstWrong wsX2_mayBe := (dg_c 31 rfl rfl (dg_c 32 rfl rfl gl_X7_firstWrong_X20))
set_option maxRecDepth 20000 in
theorem gX7_firstWrong_X2_mayBe : GoodIn wsX7_firstWrong (wsV RX7 310 RX2 yX2_mayBe wsX2_mayBe) := goodIn_app (dg_c 27 rfl rfl (dg_c 28 rfl rfl (dg_c 29 rfl rfl (dg_c 30 rfl rfl dg_0)))) ggX7_firstWrong_X2_mayBe
set_option maxRecDepth 20000 in
theorem ggX7_firstWrong_X2_waysAt : GoodIn wsX7_firstWrong wsX2_waysAt := (dg_c 36 rfl rfl (dg_c 37 rfl rfl (dg_c 38 rfl rfl (dg_c 39 rfl rfl (dg_c 40 rfl rfl (dg_c 41 rfl rfl (dg_c 42 rfl rfl (dg_c 43 rfl rfl (dg_c 44 rfl rfl (dg_c 45 rfl rfl (dg_c 46 rfl rfl (dg_c 47 rfl rfl (dg_c 30 rfl rfl (dg_c 48 rfl rfl (dg_c 49 rfl rfl gl_X7_firstWrong_X20)))))))))))))))
set_option maxRecDepth 20000 in
theorem gX7_firstWrong_X2_waysAt : GoodIn wsX7_firstWrong (wsV RX7 119 RX2 yX2_waysAt wsX2_waysAt) := goodIn_app (dg_c 33 rfl rfl (dg_c 34 rfl rfl (dg_c 35 rfl rfl (dg_c 30 rfl rfl dg_0)))) ggX7_firstWrong_X2_waysAt
set_option maxRecDepth 20000 in
theorem ggX7_firstWrong_X2_shallower : GoodIn wsX7_firstWrong wsX2_shallower := (dg_c 53 rfl rfl (dg_c 42 rfl rfl (dg_c 43 rfl rfl (dg_c 40 rfl rfl (dg_c 44 rfl rfl (dg_c 54 rfl rfl (dg_c 55 rfl rfl (dg_c 56 rfl rfl (dg_c 30 rfl rfl (dg_c 57 rfl rfl (dg_c 37 rfl rfl (dg_c 49 rfl rfl gl_X7_firstWrong_X20))))))))))))
set_option maxRecDepth 20000 in
theorem gX7_firstWrong_X2_shallower : GoodIn wsX7_firstWrong (wsV RX7 186 RX2 yX2_shallower wsX2_shallower) := goodIn_app (dg_c 50 rfl rfl (dg_c 51 rfl rfl (dg_c 52 rfl rfl (dg_c 30 rfl rfl dg_0)))) ggX7_firstWrong_X2_shallower
set_option maxRecDepth 20000 in
theorem ggX7_firstWrong_X2_deeper : GoodIn wsX7_firstWrong wsX2_deeper := (dg_c 61 rfl rfl (dg_c 37 rfl rfl (dg_c 49 rfl rfl (dg_c 38 rfl rfl (dg_c 39 rfl rfl (dg_c 40 rfl rfl (dg_c 41 rfl rfl gl_X7_firstWrong_X20)))))))
set_option maxRecDepth 20000 in
theorem gX7_firstWrong_X2_deeper : GoodIn wsX7_firstWrong (wsV RX7 189 RX2 yX2_deeper wsX2_deeper) := goodIn_app (dg_c 58 rfl rfl (dg_c 59 rfl rfl (dg_c 60 rfl rfl (dg_c 30 rfl rfl dg_0)))) ggX7_firstWrong_X2_deeper
theorem dX7_firstWrong_0 : decode cX7_firstWrong 0 = .ok (.aload_n 0, 1) := dq_42 dp_cX7_firstWrong rfl
theorem dX7_firstWrong_1 : decode cX7_firstWrong 1 = .ok (.getfield 18, 3) := dq_180 dp_cX7_firstWrong rfl
theorem dX7_firstWrong_4 : decode cX7_firstWrong 4 = .ok (.getfield 199, 3) := dq_180 dp_cX7_firstWrong rfl
theorem dX7_firstWrong_7 : decode cX7_firstWrong 7 = .ok (.istore_n 3, 1) := dq_62 dp_cX7_firstWrong rfl
theorem dX7_firstWrong_8 : decode cX7_firstWrong 8 = .ok (.aload_n 0, 1) := dq_42 dp_cX7_firstWrong rfl
theorem dX7_firstWrong_9 : decode cX7_firstWrong 9 = .ok (.getfield 18, 3) := dq_180 dp_cX7_firstWrong rfl
theorem dX7_firstWrong_12 : decode cX7_firstWrong 12 = .ok (.getfield 202, 3) := dq_180 dp_cX7_firstWrong rfl
theorem dX7_firstWrong_15 : decode cX7_firstWrong 15 = .ok (.istore 4, 2) := dq_54 dp_cX7_firstWrong rfl
theorem dX7_firstWrong_17 : decode cX7_firstWrong 17 = .ok (.iconst 0, 1) := dq_3 dp_cX7_firstWrong rfl
theorem dX7_firstWrong_18 : decode cX7_firstWrong 18 = .ok (.istore 5, 2) := dq_54 dp_cX7_firstWrong rfl
theorem dX7_firstWrong_20 : decode cX7_firstWrong 20 = .ok (.iload 5, 2) := dq_21 dp_cX7_firstWrong rfl
theorem dX7_firstWrong_22 : decode cX7_firstWrong 22 = .ok (.iload_n 2, 1) := dq_28 dp_cX7_firstWrong rfl
theorem dX7_firstWrong_23 : decode cX7_firstWrong 23 = .ok (.if_icmp .ge 106, 3) := dq_162 (v := 106) dp_cX7_firstWrong rfl rfl
theorem dX7_firstWrong_26 : decode cX7_firstWrong 26 = .ok (.aload_n 0, 1) := dq_42 dp_cX7_firstWrong rfl
theorem dX7_firstWrong_27 : decode cX7_firstWrong 27 = .ok (.getfield 18, 3) := dq_180 dp_cX7_firstWrong rfl
theorem dX7_firstWrong_30 : decode cX7_firstWrong 30 = .ok (.aload_n 1, 1) := dq_43 dp_cX7_firstWrong rfl
theorem dX7_firstWrong_31 : decode cX7_firstWrong 31 = .ok (.iload 5, 2) := dq_21 dp_cX7_firstWrong rfl
theorem dX7_firstWrong_33 : decode cX7_firstWrong 33 = .ok (.invokevirtual 227, 3) := dq_182 dp_cX7_firstWrong rfl
theorem dX7_firstWrong_36 : decode cX7_firstWrong 36 = .ok (.invokevirtual 100, 3) := dq_182 dp_cX7_firstWrong rfl
theorem dX7_firstWrong_39 : decode cX7_firstWrong 39 = .ok (.astore 6, 2) := dq_58 dp_cX7_firstWrong rfl
theorem dX7_firstWrong_41 : decode cX7_firstWrong 41 = .ok (.aload 6, 2) := dq_25 dp_cX7_firstWrong rfl
theorem dX7_firstWrong_43 : decode cX7_firstWrong 43 = .ok (.ifnull 14, 3) := dq_198 (v := 14) dp_cX7_firstWrong rfl rfl
theorem dX7_firstWrong_46 : decode cX7_firstWrong 46 = .ok (.aload 6, 2) := dq_25 dp_cX7_firstWrong rfl
theorem dX7_firstWrong_48 : decode cX7_firstWrong 48 = .ok (.iload_n 3, 1) := dq_29 dp_cX7_firstWrong rfl
theorem dX7_firstWrong_49 : decode cX7_firstWrong 49 = .ok (.iload 4, 2) := dq_21 dp_cX7_firstWrong rfl
theorem dX7_firstWrong_51 : decode cX7_firstWrong 51 = .ok (.invokevirtual 310, 3) := dq_182 dp_cX7_firstWrong rfl
theorem dX7_firstWrong_54 : decode cX7_firstWrong 54 = .ok (.ifCond .ne 6, 3) := dq_154 (v := 6) dp_cX7_firstWrong rfl rfl
theorem dX7_firstWrong_57 : decode cX7_firstWrong 57 = .ok (.iload 5, 2) := dq_21 dp_cX7_firstWrong rfl
theorem dX7_firstWrong_59 : decode cX7_firstWrong 59 = .ok (.ireturn, 1) := dq_172 dp_cX7_firstWrong rfl
theorem dX7_firstWrong_60 : decode cX7_firstWrong 60 = .ok (.aload 6, 2) := dq_25 dp_cX7_firstWrong rfl
theorem dX7_firstWrong_62 : decode cX7_firstWrong 62 = .ok (.iload_n 3, 1) := dq_29 dp_cX7_firstWrong rfl
theorem dX7_firstWrong_63 : decode cX7_firstWrong 63 = .ok (.aload_n 0, 1) := dq_42 dp_cX7_firstWrong rfl
theorem dX7_firstWrong_64 : decode cX7_firstWrong 64 = .ok (.getfield 18, 3) := dq_180 dp_cX7_firstWrong rfl
theorem dX7_firstWrong_67 : decode cX7_firstWrong 67 = .ok (.getfield 116, 3) := dq_180 dp_cX7_firstWrong rfl
theorem dX7_firstWrong_70 : decode cX7_firstWrong 70 = .ok (.invokevirtual 119, 3) := dq_182 dp_cX7_firstWrong rfl
theorem dX7_firstWrong_73 : decode cX7_firstWrong 73 = .ok (.bipush 6, 2) := dq_16 (v := 6) dp_cX7_firstWrong rfl rfl
theorem dX7_firstWrong_75 : decode cX7_firstWrong 75 = .ok (.if_icmp .lt 7, 3) := dq_161 (v := 7) dp_cX7_firstWrong rfl rfl
theorem dX7_firstWrong_78 : decode cX7_firstWrong 78 = .ok (.iconst 1, 1) := dq_4 dp_cX7_firstWrong rfl
theorem dX7_firstWrong_79 : decode cX7_firstWrong 79 = .ok (.goto 4, 3) := dq_167 (v := 4) dp_cX7_firstWrong rfl rfl
theorem dX7_firstWrong_82 : decode cX7_firstWrong 82 = .ok (.iconst 0, 1) := dq_3 dp_cX7_firstWrong rfl
theorem dX7_firstWrong_83 : decode cX7_firstWrong 83 = .ok (.istore 7, 2) := dq_54 dp_cX7_firstWrong rfl
theorem dX7_firstWrong_85 : decode cX7_firstWrong 85 = .ok (.iload 7, 2) := dq_21 dp_cX7_firstWrong rfl
theorem dX7_firstWrong_87 : decode cX7_firstWrong 87 = .ok (.ifCond .eq 12, 3) := dq_153 (v := 12) dp_cX7_firstWrong rfl rfl
theorem dX7_firstWrong_90 : decode cX7_firstWrong 90 = .ok (.aload 6, 2) := dq_25 dp_cX7_firstWrong rfl
theorem dX7_firstWrong_92 : decode cX7_firstWrong 92 = .ok (.iload_n 3, 1) := dq_29 dp_cX7_firstWrong rfl
theorem dX7_firstWrong_93 : decode cX7_firstWrong 93 = .ok (.invokevirtual 186, 3) := dq_182 dp_cX7_firstWrong rfl
theorem dX7_firstWrong_96 : decode cX7_firstWrong 96 = .ok (.goto 16, 3) := dq_167 (v := 16) dp_cX7_firstWrong rfl rfl
theorem dX7_firstWrong_99 : decode cX7_firstWrong 99 = .ok (.aload 6, 2) := dq_25 dp_cX7_firstWrong rfl
theorem dX7_firstWrong_101 : decode cX7_firstWrong 101 = .ok (.iload_n 3, 1) := dq_29 dp_cX7_firstWrong rfl
theorem dX7_firstWrong_102 : decode cX7_firstWrong 102 = .ok (.aload_n 0, 1) := dq_42 dp_cX7_firstWrong rfl
theorem dX7_firstWrong_103 : decode cX7_firstWrong 103 = .ok (.getfield 18, 3) := dq_180 dp_cX7_firstWrong rfl
theorem dX7_firstWrong_106 : decode cX7_firstWrong 106 = .ok (.getfield 116, 3) := dq_180 dp_cX7_firstWrong rfl
theorem dX7_firstWrong_109 : decode cX7_firstWrong 109 = .ok (.invokevirtual 189, 3) := dq_182 dp_cX7_firstWrong rfl
theorem dX7_firstWrong_112 : decode cX7_firstWrong 112 = .ok (.istore_n 3, 1) := dq_62 dp_cX7_firstWrong rfl
theorem dX7_firstWrong_113 : decode cX7_firstWrong 113 = .ok (.iload 4, 2) := dq_21 dp_cX7_firstWrong rfl
theorem dX7_firstWrong_115 : decode cX7_firstWrong 115 = .ok (.aload 6, 2) := dq_25 dp_cX7_firstWrong rfl
theorem dX7_firstWrong_117 : decode cX7_firstWrong 117 = .ok (.getfield 110, 3) := dq_180 dp_cX7_firstWrong rfl
theorem dX7_firstWrong_120 : decode cX7_firstWrong 120 = .ok (.isub, 1) := dq_100 dp_cX7_firstWrong rfl
theorem dX7_firstWrong_121 : decode cX7_firstWrong 121 = .ok (.istore 4, 2) := dq_54 dp_cX7_firstWrong rfl
theorem dX7_firstWrong_123 : decode cX7_firstWrong 123 = .ok (.iinc 5 1, 3) := dq_132 (v := 1) dp_cX7_firstWrong rfl (by decide) rfl
theorem dX7_firstWrong_126 : decode cX7_firstWrong 126 = .ok (.goto (-106), 3) := dq_167 (v := 65430) dp_cX7_firstWrong rfl rfl
theorem dX7_firstWrong_129 : decode cX7_firstWrong 129 = .ok (.iconst (-1), 1) := dq_2 dp_cX7_firstWrong rfl
theorem dX7_firstWrong_130 : decode cX7_firstWrong 130 = .ok (.ireturn, 1) := dq_172 dp_cX7_firstWrong rfl
set_option maxRecDepth 20000 in
theorem gl_X7_rowsMeant_X40 : GoodIn wsX7_rowsMeant wsX40 := (dg_t (dg_l (dg_r gw_wsX40)))
theorem ggX7_rowsMeant_X4_tells : GoodIn wsX7_rowsMeant wsX4_tells := (dg_c 12 rfl rfl (dg_c 13 rfl rfl (dg_c 14 rfl rfl (dg_c 15 rfl rfl (dg_c 16 rfl rfl (dg_c 11 rfl rfl (dg_c 17 rfl rfl (dg_c 18 rfl rfl gl_X7_rowsMeant_X40))))))))
set_option maxRecDepth 20000 in
theorem gX7_rowsMeant_X4_tells : GoodIn wsX7_rowsMeant (wsV RX7 227 RX4 yX4_tells wsX4_tells) := goodIn_app (dg_c 8 rfl rfl (dg_c 9 rfl rfl (dg_c 10 rfl rfl (dg_c 11 rfl rfl dg_0)))) ggX7_rowsMeant_X4_tells
set_option maxRecDepth 20000 in
theorem gl_X7_rowsMeant_X00 : GoodIn wsX7_rowsMeant wsX00 := (dg_t (dg_l (dg_l (dg_r gw_wsX00))))
theorem gl_X7_rowsMeant_X20 : GoodIn wsX7_rowsMeant wsX20 := (dg_t (dg_r gw_wsX20))
theorem ggX7_rowsMeant_X0_pullsMaking : GoodIn wsX7_rowsMeant wsX0_pullsMaking := (dg_c 23 rfl rfl (goodIn_app (goodIn_app (goodIn_app (dg_c 24 rfl rfl (dg_c 25 rfl rfl (dg_c 26 rfl rfl (dg_c 27 rfl rfl (dg_c 28 rfl rfl (dg_c 22 rfl rfl (dg_c 29 rfl rfl (dg_c 30 rfl rfl (dg_c 31 rfl rfl (dg_c 32 rfl rfl (dg_c 33 rfl rfl (dg_c 34 rfl rfl (dg_c 35 rfl rfl (dg_c 36 rfl rfl (dg_c 37 rfl rfl (dg_c 38 rfl rfl (dg_c 39 rfl rfl (dg_c 40 rfl rfl (dg_c 41 rfl rfl (dg_c 42 rfl rfl (dg_c 43 rfl rfl (dg_c 44 rfl rfl (dg_c 5 rfl rfl (dg_c 6 rfl rfl dg_0)))))))))))))))))))))))) (dg_c 7 rfl rfl (dg_c 45 rfl rfl (dg_c 46 rfl rfl (dg_c 47 rfl rfl (dg_c 48 rfl rfl (dg_c 49 rfl rfl (dg_c 50 rfl rfl (dg_c 51 rfl rfl (dg_c 52 rfl rfl (dg_c 53 rfl rfl (dg_c 54 rfl rfl (dg_c 55 rfl rfl (dg_c 56 rfl rfl (dg_c 57 rfl rfl (dg_c 58 rfl rfl (dg_c 59 rfl rfl (dg_c 60 rfl rfl (dg_c 61 rfl rfl (dg_c 62 rfl rfl (dg_c 63 rfl rfl (dg_c 64 rfl rfl dg_0)))))))))))))))))))))) gl_X7_rowsMeant_X00) gl_X7_rowsMeant_X20))
set_option maxRecDepth 20000 in
theorem gX7_rowsMeant_X0_pullsMaking : GoodIn wsX7_rowsMeant (wsV RX7 313 RX0 yX0_pullsMaking wsX0_pullsMaking) := goodIn_app (dg_c 19 rfl rfl (dg_c 20 rfl rfl (dg_c 21 rfl rfl (dg_c 22 rfl rfl dg_0)))) ggX7_rowsMeant_X0_pullsMaking
theorem dX7_rowsMeant_0 : decode cX7_rowsMeant 0 = .ok (.iconst 1, 1) := dq_4 dp_cX7_rowsMeant rfl
theorem dX7_rowsMeant_1 : decode cX7_rowsMeant 1 = .ok (.istore_n 3, 1) := dq_62 dp_cX7_rowsMeant rfl
theorem dX7_rowsMeant_2 : decode cX7_rowsMeant 2 = .ok (.aload_n 0, 1) := dq_42 dp_cX7_rowsMeant rfl
theorem dX7_rowsMeant_3 : decode cX7_rowsMeant 3 = .ok (.getfield 18, 3) := dq_180 dp_cX7_rowsMeant rfl
theorem dX7_rowsMeant_6 : decode cX7_rowsMeant 6 = .ok (.getfield 199, 3) := dq_180 dp_cX7_rowsMeant rfl
theorem dX7_rowsMeant_9 : decode cX7_rowsMeant 9 = .ok (.istore 4, 2) := dq_54 dp_cX7_rowsMeant rfl
theorem dX7_rowsMeant_11 : decode cX7_rowsMeant 11 = .ok (.iconst 0, 1) := dq_3 dp_cX7_rowsMeant rfl
theorem dX7_rowsMeant_12 : decode cX7_rowsMeant 12 = .ok (.istore 5, 2) := dq_54 dp_cX7_rowsMeant rfl
theorem dX7_rowsMeant_14 : decode cX7_rowsMeant 14 = .ok (.iload 5, 2) := dq_21 dp_cX7_rowsMeant rfl
theorem dX7_rowsMeant_16 : decode cX7_rowsMeant 16 = .ok (.iload_n 2, 1) := dq_28 dp_cX7_rowsMeant rfl
theorem dX7_rowsMeant_17 : decode cX7_rowsMeant 17 = .ok (.if_icmp .ge 41, 3) := dq_162 (v := 41) dp_cX7_rowsMeant rfl rfl
theorem dX7_rowsMeant_20 : decode cX7_rowsMeant 20 = .ok (.aload_n 1, 1) := dq_43 dp_cX7_rowsMeant rfl
theorem dX7_rowsMeant_21 : decode cX7_rowsMeant 21 = .ok (.iload 5, 2) := dq_21 dp_cX7_rowsMeant rfl
theorem dX7_rowsMeant_23 : decode cX7_rowsMeant 23 = .ok (.invokevirtual 227, 3) := dq_182 dp_cX7_rowsMeant rfl
theorem dX7_rowsMeant_26 : decode cX7_rowsMeant 26 = .ok (.istore 6, 2) := dq_54 dp_cX7_rowsMeant rfl
theorem dX7_rowsMeant_28 : decode cX7_rowsMeant 28 = .ok (.ldc_w 312, 3) := dq_19 dp_cX7_rowsMeant rfl
theorem dX7_rowsMeant_31 : decode cX7_rowsMeant 31 = .ok (.iload_n 3, 1) := dq_29 dp_cX7_rowsMeant rfl
theorem dX7_rowsMeant_32 : decode cX7_rowsMeant 32 = .ok (.aload_n 0, 1) := dq_42 dp_cX7_rowsMeant rfl
theorem dX7_rowsMeant_33 : decode cX7_rowsMeant 33 = .ok (.getfield 18, 3) := dq_180 dp_cX7_rowsMeant rfl
theorem dX7_rowsMeant_36 : decode cX7_rowsMeant 36 = .ok (.iload 4, 2) := dq_21 dp_cX7_rowsMeant rfl
theorem dX7_rowsMeant_38 : decode cX7_rowsMeant 38 = .ok (.iload 6, 2) := dq_21 dp_cX7_rowsMeant rfl
theorem dX7_rowsMeant_40 : decode cX7_rowsMeant 40 = .ok (.invokevirtual 313, 3) := dq_182 dp_cX7_rowsMeant rfl
theorem dX7_rowsMeant_43 : decode cX7_rowsMeant 43 = .ok (.imul, 1) := dq_104 dp_cX7_rowsMeant rfl
theorem dX7_rowsMeant_44 : decode cX7_rowsMeant 44 = .ok (.invokestatic 316, 3) := dq_184 dp_cX7_rowsMeant rfl
theorem dX7_rowsMeant_47 : decode cX7_rowsMeant 47 = .ok (.istore_n 3, 1) := dq_62 dp_cX7_rowsMeant rfl
theorem dX7_rowsMeant_48 : decode cX7_rowsMeant 48 = .ok (.iload 6, 2) := dq_21 dp_cX7_rowsMeant rfl
theorem dX7_rowsMeant_50 : decode cX7_rowsMeant 50 = .ok (.istore 4, 2) := dq_54 dp_cX7_rowsMeant rfl
theorem dX7_rowsMeant_52 : decode cX7_rowsMeant 52 = .ok (.iinc 5 1, 3) := dq_132 (v := 1) dp_cX7_rowsMeant rfl (by decide) rfl
theorem dX7_rowsMeant_55 : decode cX7_rowsMeant 55 = .ok (.goto (-41), 3) := dq_167 (v := 65495) dp_cX7_rowsMeant rfl rfl
theorem dX7_rowsMeant_58 : decode cX7_rowsMeant 58 = .ok (.iload_n 3, 1) := dq_29 dp_cX7_rowsMeant rfl
theorem dX7_rowsMeant_59 : decode cX7_rowsMeant 59 = .ok (.ireturn, 1) := dq_172 dp_cX7_rowsMeant rfl
end
