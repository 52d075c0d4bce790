def wsL_law_r1 : List Cond := [Cond.classLink RL 7 RX11, Cond.instantiable RX11 6, Cond.initialized RX11, Cond.classLink RL 10 RX12, Cond.instantiable RX12 65, Cond.initialized RX12, Cond.methodLink RL 9 yX11_init, Cond.instanceMethod yX11_init, Cond.code yX11_init cX11_init 2 none, Cond.methodLink RX11 3 objectInit, Cond.instanceMethod objectInit, Cond.code objectInit ⟨#[0xb1]⟩ 1 none, Cond.classLink RX11 9 RX6, Cond.fieldLink RX11 11 "PutBack" "slots" "[LPutBack$Text;", Cond.classLink RX11 15 RX9, Cond.instantiable RX9 6, Cond.initialized RX9, Cond.fieldLink RX11 18 "PutBack" "walker" "LPutBack$Walker;", Cond.classLink RX11 22 RX4, Cond.instantiable RX4 14, Cond.initialized RX4, Cond.fieldLink RX11 27 "PutBack" "reader" "LPutBack$Reader;", Cond.classLink RX11 31 RX2, Cond.instantiable RX2 16]
def wsL_law_r2 : List Cond := [Cond.initialized RX2, Cond.fieldLink RX11 34 "PutBack" "machine" "LPutBack$Machine;", Cond.classLink RX11 38 RX8, Cond.instantiable RX8 7, Cond.initialized RX8, Cond.fieldLink RX11 41 "PutBack" "trial" "LPutBack$Trial;", Cond.classLink RX11 45 RX0, Cond.instantiable RX0 15, Cond.initialized RX0, Cond.fieldLink RX11 48 "PutBack" "desk" "LPutBack$Desk;", Cond.instantiable RX6 2, Cond.initialized RX6, Cond.instanceMethod yX9_init, Cond.code yX9_init cX9_init 1 none, Cond.methodLink RX9 3 objectInit, Cond.arrayClass .long, Cond.fieldLink RX9 11 "PutBack$Walker" "seen" "[J", Cond.arrayClass .int, Cond.fieldLink RX9 15 "PutBack$Walker" "waiting" "[I", Cond.fieldLink RX9 19 "PutBack$Walker" "ways" "[J", Cond.methodLink RX11 24 yX4_init, Cond.instanceMethod yX4_init, Cond.code yX4_init cX4_init 2 none, Cond.methodLink RX4 3 objectInit]
def wsL_law_r3 : List Cond := [Cond.classLink RX4 9 RX1, Cond.fieldLink RX4 11 "PutBack$Reader" "lenses" "[LPutBack$Lens;", Cond.fieldLink RX4 17 "PutBack$Reader" "faultPlace" "I", Cond.fieldLink RX4 21 "PutBack$Reader" "shownBy" "I", Cond.fieldLink RX4 24 "PutBack$Reader" "tape" "[I", Cond.fieldLink RX4 28 "PutBack$Reader" "names" "[J", Cond.arrayClass .byte, Cond.fieldLink RX4 32 "PutBack$Reader" "quoted" "[B", Cond.fieldLink RX4 36 "PutBack$Reader" "links" "[LPutBack$Lens;", Cond.fieldLink RX4 39 "PutBack$Reader" "walker" "LPutBack$Walker;", Cond.instanceMethod yX2_init, Cond.code yX2_init cX2_init 1 none, Cond.methodLink RX2 3 objectInit, Cond.fieldLink RX2 9 "PutBack$Machine" "store" "[B", Cond.classLink RX2 15 RX1, Cond.fieldLink RX2 17 "PutBack$Machine" "waiting" "[LPutBack$Lens;", Cond.fieldLink RX2 21 "PutBack$Machine" "ranges" "[I", Cond.fieldLink RX2 25 "PutBack$Machine" "marks" "[I", Cond.classLink RX2 28 RX10, Cond.instantiable RX10 18, Cond.initialized RX10, Cond.fieldLink RX2 31 "PutBack$Machine" "words" "LPutBack$Words;", Cond.classLink RX2 35 RX5, Cond.instantiable RX5 7]
def wsL_law_r4 : List Cond := [Cond.initialized RX5, Cond.fieldLink RX2 38 "PutBack$Machine" "recall" "LPutBack$Recall;", Cond.fieldLink RX2 42 "PutBack$Machine" "viewFrom" "[I", Cond.fieldLink RX2 45 "PutBack$Machine" "viewTo" "[I", Cond.fieldLink RX2 48 "PutBack$Machine" "sourceFrom" "[I", Cond.fieldLink RX2 51 "PutBack$Machine" "sourceTo" "[I", Cond.classLink RX2 54 RX3, Cond.instantiable RX3 6, Cond.initialized RX3, Cond.fieldLink RX2 57 "PutBack$Machine" "viewParts" "LPutBack$Parts;", Cond.fieldLink RX2 61 "PutBack$Machine" "sourceParts" "LPutBack$Parts;", Cond.instanceMethod yX10_init, Cond.code yX10_init cX10_init 1 none, Cond.methodLink RX10 3 objectInit, Cond.fieldLink RX10 9 "PutBack$Words" "told" "[B", Cond.classLink RX10 15 RX1, Cond.fieldLink RX10 17 "PutBack$Words" "lenses" "[LPutBack$Lens;", Cond.fieldLink RX10 21 "PutBack$Words" "states" "[I", Cond.fieldLink RX10 25 "PutBack$Words" "first" "[I", Cond.fieldLink RX10 28 "PutBack$Words" "times" "[J", Cond.fieldLink RX10 32 "PutBack$Words" "rest" "[I", Cond.fieldLink RX10 35 "PutBack$Words" "places" "[I", Cond.fieldLink RX10 38 "PutBack$Words" "asked" "[I", Cond.fieldLink RX10 41 "PutBack$Words" "answers" "[I"]
def wsL_law_r5 : List Cond := [Cond.fieldLink RX10 44 "PutBack$Words" "stack" "[I", Cond.fieldLink RX10 47 "PutBack$Words" "stackTimes" "[J", Cond.instanceMethod yX5_init, Cond.code yX5_init cX5_init 1 none, Cond.methodLink RX5 5 objectInit, Cond.fieldLink RX5 11 "PutBack$Recall" "told" "[B", Cond.fieldLink RX5 15 "PutBack$Recall" "asked" "[J", Cond.fieldLink RX5 19 "PutBack$Recall" "rows" "[J", Cond.instanceMethod yX3_init, Cond.code yX3_init cX3_init 1 none, Cond.methodLink RX3 3 objectInit, Cond.fieldLink RX3 9 "PutBack$Parts" "from" "[I", Cond.fieldLink RX3 15 "PutBack$Parts" "to" "[I", Cond.fieldLink RX3 18 "PutBack$Parts" "keyFrom" "[I", Cond.fieldLink RX3 21 "PutBack$Parts" "keyTo" "[I", Cond.fieldLink RX3 24 "PutBack$Parts" "partner" "[I", Cond.methodLink RX11 40 yX8_init, Cond.instanceMethod yX8_init, Cond.code yX8_init cX8_init 2 none, Cond.methodLink RX8 3 objectInit, Cond.classLink RX8 9 RX6, Cond.fieldLink RX8 11 "PutBack$Trial" "sources" "[LPutBack$Text;", Cond.fieldLink RX8 17 "PutBack$Trial" "views" "[LPutBack$Text;", Cond.fieldLink RX8 20 "PutBack$Trial" "backs" "[LPutBack$Text;"]
def wsL_law_r6 : List Cond := [Cond.arrayClass .boolean, Cond.fieldLink RX8 23 "PutBack$Trial" "made" "[Z", Cond.fieldLink RX8 28 "PutBack$Trial" "outcome" "LPutBack$Text;", Cond.instanceMethod yX6_init, Cond.code yX6_init cX6_init 1 none, Cond.methodLink RX6 3 objectInit, Cond.fieldLink RX6 9 "PutBack$Text" "ranks" "[B", Cond.methodLink RX11 47 yX0_init, Cond.instanceMethod yX0_init, Cond.code yX0_init cX0_init 2 none, Cond.methodLink RX0 3 objectInit, Cond.fieldLink RX0 9 "PutBack$Desk" "number" "I", Cond.classLink RX0 15 RX6, Cond.fieldLink RX0 18 "PutBack$Desk" "source" "LPutBack$Text;", Cond.fieldLink RX0 22 "PutBack$Desk" "view" "LPutBack$Text;", Cond.fieldLink RX0 25 "PutBack$Desk" "spare" "LPutBack$Text;", Cond.fieldLink RX0 28 "PutBack$Desk" "outcome" "LPutBack$Text;", Cond.fieldLink RX0 31 "PutBack$Desk" "oldSources" "[LPutBack$Text;", Cond.fieldLink RX0 35 "PutBack$Desk" "oldViews" "[LPutBack$Text;", Cond.methodLink RL 12 yX12_init, Cond.instanceMethod yX12_init, Cond.code yX12_init cX12_init 1 none, Cond.methodLink RX12 1 objectInit, Cond.fieldLink RX12 7 "PutBackModel" "setAt" "[I"]
def wsL_law_r7 : List Cond := [Cond.fieldLink RX12 13 "PutBackModel" "setMany" "[I", Cond.fieldLink RX12 16 "PutBackModel" "setFirst" "[J", Cond.fieldLink RX12 20 "PutBackModel" "setLast" "[J", Cond.fieldLink RX12 23 "PutBackModel" "setEmpty" "[Z", Cond.constant RX12 27 (400000), Cond.fieldLink RX12 28 "PutBackModel" "symbols" "[J", Cond.fieldLink RX12 31 "PutBackModel" "behind" "[J", Cond.fieldLink RX12 34 "PutBackModel" "isPair" "[Z", Cond.fieldLink RX12 37 "PutBackModel" "pairs" "[I", Cond.fieldLink RX12 40 "PutBackModel" "ways" "[J", Cond.constant RX12 43 (200000), Cond.fieldLink RX12 44 "PutBackModel" "heap" "[I", Cond.fieldLink RX12 47 "PutBackModel" "nodeKind" "[I", Cond.fieldLink RX12 50 "PutBackModel" "nodeA" "[I", Cond.fieldLink RX12 53 "PutBackModel" "nodeB" "[I", Cond.fieldLink RX12 56 "PutBackModel" "nodeS" "[I", Cond.fieldLink RX12 59 "PutBackModel" "nodeV" "[I", Cond.fieldLink RX12 62 "PutBackModel" "nodeWord" "[I", Cond.fieldLink RX12 65 "PutBackModel" "nodeLong" "[I", Cond.fieldLink RX12 68 "PutBackModel" "nodeSame" "[Z", Cond.fieldLink RX12 71 "PutBackModel" "words" "[I", Cond.fieldLink RX12 74 "PutBackModel" "root" "[I", Cond.fieldLink RX12 77 "PutBackModel" "name" "[J", Cond.fieldLink RX12 80 "PutBackModel" "partFrom" "[I"]
def wsL_law_r8 : List Cond := [Cond.fieldLink RX12 83 "PutBackModel" "partLong" "[I", Cond.fieldLink RX12 86 "PutBackModel" "partKey" "[I", Cond.fieldLink RX12 89 "PutBackModel" "partKeyLong" "[I", Cond.fieldLink RX12 92 "PutBackModel" "isTaken" "[Z", Cond.fieldLink RX12 95 "PutBackModel" "outsAt" "[I", Cond.fieldLink RX12 98 "PutBackModel" "outsLong" "[I", Cond.fieldLink RX12 101 "PutBackModel" "tape" "[B", Cond.fieldLink RX12 105 "PutBackModel" "faultPlace" "I", Cond.fieldLink RX12 109 "PutBackModel" "shownBy" "I", Cond.fieldLink RX12 112 "PutBackModel" "slots" "[I", Cond.fieldLink RX12 115 "PutBackModel" "slotLong" "[I", Cond.fieldLink RX12 118 "PutBackModel" "leastAt" "[I", Cond.fieldLink RX12 121 "PutBackModel" "leastLong" "[I", Cond.fieldLink RX12 124 "PutBackModel" "openLens" "I", Cond.fieldLink RX12 127 "PutBackModel" "sides" "[I", Cond.fieldLink RX12 130 "PutBackModel" "sideLong" "[I", Cond.fieldLink RX12 133 "PutBackModel" "were" "[I", Cond.fieldLink RX12 136 "PutBackModel" "wereLong" "[I", Cond.fieldLink RX12 139 "PutBackModel" "movedBy" "[I", Cond.methodLink RL 13 yX11_feed, Cond.instanceMethod yX11_feed, Cond.selects RX11 yX11_feed yX11_feed, Cond.code yX11_feed cX11_feed 6 (some .int), Cond.fieldLink RX11 53 "PutBack$Reader" "length" "I"]
def wsL_law_r9 : List Cond := [Cond.methodLink RX11 57 yX4_take, Cond.instanceMethod yX4_take, Cond.selects RX4 yX4_take yX4_take, Cond.code yX4_take cX4_take 3 none, Cond.fieldLink RX4 43 "PutBack$Reader" "length" "I", Cond.methodLink RL 17 yX12_feed, Cond.instanceMethod yX12_feed, Cond.selects RX12 yX12_feed yX12_feed, Cond.code yX12_feed cX12_feed 8 (some .int), Cond.fieldLink RX12 142 "PutBackModel" "told" "I", Cond.fieldLink RX12 318 "PutBackModel" "taped" "I", Cond.methodLink RL 18 yX11_end, Cond.instanceMethod yX11_end, Cond.selects RX11 yX11_end yX11_end, Cond.code yX11_end cX11_end 2 (some .boolean), Cond.methodLink RL 22 yX12_end, Cond.instanceMethod yX12_end, Cond.selects RX12 yX12_end yX12_end, Cond.code yX12_end cX12_end 2 (some .boolean), Cond.methodLink RX12 153 yX12_isIn, Cond.instanceMethod yX12_isIn, Cond.selects RX12 yX12_isIn yX12_isIn, Cond.code yX12_isIn cX12_isIn 7 (some .boolean), Cond.methodLink RL 23 yX11_lens]
def wsL_law_r10 : List Cond := [Cond.instanceMethod yX11_lens, Cond.selects RX11 yX11_lens yX11_lens, Cond.code yX11_lens cX11_lens 2 (some .int), Cond.methodLink RX11 61 yX4_readDefinition, Cond.instanceMethod yX4_readDefinition, Cond.selects RX4 yX4_readDefinition yX4_readDefinition, Cond.code yX4_readDefinition cX4_readDefinition 6 (some .int), Cond.fieldLink RX4 62 "PutBack$Reader" "place" "I", Cond.fieldLink RX4 65 "PutBack$Reader" "opened" "I", Cond.fieldLink RX4 68 "PutBack$Reader" "fault" "I", Cond.fieldLink RX4 101 "PutBack$Reader" "told" "I", Cond.fieldLink RX4 111 "PutBack$Lens" "simpler" "LPutBack$Lens;", Cond.fieldLink RX4 115 "PutBack$Lens" "weight" "I", Cond.methodLink RX4 71 yX4_ownName, Cond.instanceMethod yX4_ownName, Cond.selects RX4 yX4_ownName yX4_ownName, Cond.code yX4_ownName cX4_ownName 4 (some .long), Cond.methodLink RX4 93 yX4_sign, Cond.instanceMethod yX4_sign, Cond.selects RX4 yX4_sign yX4_sign, Cond.code yX4_sign cX4_sign 1 (some .int), Cond.methodLink RX4 156 yX4_takeName, Cond.instanceMethod yX4_takeName, Cond.selects RX4 yX4_takeName yX4_takeName]
def wsL_law_r11 : List Cond := [Cond.code yX4_takeName cX4_takeName 5 (some .long), Cond.constantLong RX4 152 (27), Cond.constantLong RX4 154 (97), Cond.methodLink RX4 125 yX4_letters, Cond.instanceMethod yX4_letters, Cond.selects RX4 yX4_letters yX4_letters, Cond.code yX4_letters cX4_letters 2 (some .int), Cond.methodLink RX4 148 yX4_isOwnWord, Cond.instanceMethod yX4_isOwnWord, Cond.selects RX4 yX4_isOwnWord yX4_isOwnWord, Cond.code yX4_isOwnWord cX4_isOwnWord 1 (some .boolean), Cond.methodLink RX4 85 yX4_isWord, Cond.instanceMethod yX4_isWord, Cond.selects RX4 yX4_isWord yX4_isWord, Cond.code yX4_isWord cX4_isWord 4 (some .boolean), Cond.methodLink RX4 128 yJ0_length_8abf5, Cond.instanceMethod yJ0_length_8abf5, Cond.selects RJ0 yJ0_length_8abf5 yJ0_length_8abf5, Cond.initialized RJ0, Cond.code yJ0_length_8abf5 cJ0_length_8abf5 1 (some .int), Cond.fieldLink RJ0 9 "java/lang/String" "value" "[B", Cond.methodLink RJ0 335 yJ0_coder_7d493, Cond.instanceMethod yJ0_coder_7d493, Cond.selects RJ0 yJ0_coder_7d493 yJ0_coder_7d493]
def wsL_law_r12 : List Cond := [Cond.code yJ0_coder_7d493 cJ0_coder_7d493 1 (some .byte), Cond.fieldLink RJ0 38 "java/lang/String" "COMPACT_STRINGS" "Z", Cond.fieldLink RJ0 15 "java/lang/String" "coder" "B", Cond.methodLink RX4 132 yJ0_charAt_5068e, Cond.instanceMethod yJ0_charAt_5068e, Cond.selects RJ0 yJ0_charAt_5068e yJ0_charAt_5068e, Cond.code yJ0_charAt_5068e cJ0_charAt_5068e 2 (some .char), Cond.methodLink RJ0 492 yJ0_isLatin1_aae02, Cond.instanceMethod yJ0_isLatin1_aae02, Cond.selects RJ0 yJ0_isLatin1_aae02 yJ0_isLatin1_aae02, Cond.code yJ0_isLatin1_aae02 cJ0_isLatin1_aae02 1 (some .boolean), Cond.methodLink RJ0 495 yJ1_charAt_3b067, Cond.static yJ1_charAt_3b067, Cond.initialized RJ1, Cond.code yJ1_charAt_3b067 cJ1_charAt_3b067 2 (some .char), Cond.methodLink RJ1 9 yJ0_checkIndex_df160, Cond.static yJ0_checkIndex_df160, Cond.code yJ0_checkIndex_df160 cJ0_checkIndex_df160 2 none, Cond.fieldLink RJ0 1053 "jdk/internal/util/Preconditions" "SIOOBE_FORMATTER" "Ljava/util/function/BiFunction;", Cond.methodLink RJ0 1059 yJ3_checkIndex_8e157, Cond.static yJ3_checkIndex_8e157, Cond.initialized RJ3, Cond.code yJ3_checkIndex_8e157 cJ3_checkIndex_8e157 3 (some .int), Cond.methodLink RJ0 498 yJ2_charAt_3b067]
def wsL_law_r13 : List Cond := [Cond.static yJ2_charAt_3b067, Cond.initialized RJ2, Cond.code yJ2_charAt_3b067 cJ2_charAt_3b067 2 (some .char), Cond.methodLink RJ2 67 yJ2_checkIndex_2214a, Cond.static yJ2_checkIndex_2214a, Cond.code yJ2_checkIndex_2214a cJ2_checkIndex_2214a 2 none, Cond.methodLink RJ2 48 yJ2_length_9d52b, Cond.static yJ2_length_9d52b, Cond.code yJ2_length_9d52b cJ2_length_9d52b 1 (some .int), Cond.methodLink RJ2 414 yJ0_checkIndex_df160, Cond.methodLink RJ2 71 yJ2_getChar_3b067, Cond.static yJ2_getChar_3b067, Cond.code yJ2_getChar_3b067 cJ2_getChar_3b067 2 (some .char), Cond.fieldLink RJ2 44 "java/lang/StringUTF16" "$assertionsDisabled" "Z", Cond.fieldLink RJ2 59 "java/lang/StringUTF16" "HI_BYTE_SHIFT" "I", Cond.fieldLink RJ2 63 "java/lang/StringUTF16" "LO_BYTE_SHIFT" "I", Cond.methodLink RX4 97 yX4_refuse, Cond.instanceMethod yX4_refuse, Cond.selects RX4 yX4_refuse yX4_refuse, Cond.code yX4_refuse cX4_refuse 3 none, Cond.methodLink RX4 159 yX4_named, Cond.instanceMethod yX4_named, Cond.selects RX4 yX4_named yX4_named, Cond.code yX4_named cX4_named 4 (some (.object "PutBack$Lens"))]
def wsL_law_r14 : List Cond := [Cond.methodLink RX4 75 yX4_takeSign, Cond.instanceMethod yX4_takeSign, Cond.selects RX4 yX4_takeSign yX4_takeSign, Cond.code yX4_takeSign cX4_takeSign 2 (some .boolean), Cond.methodLink RX4 79 yX4_branches, Cond.instanceMethod yX4_branches, Cond.selects RX4 yX4_branches yX4_branches, Cond.code yX4_branches cX4_branches 4 (some (.object "PutBack$Lens")), Cond.methodLink RX4 163 yX4_row, Cond.instanceMethod yX4_row, Cond.selects RX4 yX4_row yX4_row, Cond.methodLink RX4 166 yX4_branched, Cond.instanceMethod yX4_branched, Cond.selects RX4 yX4_branched yX4_branched, Cond.code yX4_branched cX4_branched 10 (some (.object "PutBack$Lens")), Cond.fieldLink RX4 246 "PutBack$Lens" "view" "LPutBack$TextSet;", Cond.fieldLink RX4 263 "PutBack$TextSet" "hasEmpty" "Z", Cond.fieldLink RX4 239 "PutBack$Lens" "source" "LPutBack$TextSet;", Cond.fieldLink RX4 243 "PutBack$TextSet" "count" "I", Cond.methodLink RX4 260 yX7_meets, Cond.instanceMethod yX7_meets, Cond.selects RX7 yX7_meets yX7_meets, Cond.initialized RX7, Cond.code yX7_meets cX7_meets 2 (some .long)]
def wsL_law_r15 : List Cond := [Cond.fieldLink RX7 40 "PutBack$TextSet" "first" "J", Cond.methodLink RX7 62 yX7_signsOf, Cond.instanceMethod yX7_signsOf, Cond.selects RX7 yX7_signsOf yX7_signsOf, Cond.code yX7_signsOf cX7_signsOf 6 (some .long), Cond.fieldLink RX7 18 "PutBack$TextSet" "count" "I", Cond.fieldLink RX7 24 "PutBack$TextSet" "allowed" "[J", Cond.methodLink RX4 267 yX9_relation, Cond.instanceMethod yX9_relation, Cond.selects RX9 yX9_relation yX9_relation, Cond.code yX9_relation cX9_relation 12 (some .int), Cond.fieldLink RX9 28 "PutBack$Walker" "waits" "I", Cond.constantLong RX9 46 (-1), Cond.methodLink RX9 22 yJ7_fill_d0a16, Cond.static yJ7_fill_d0a16, Cond.initialized RJ7, Cond.code yJ7_fill_d0a16 cJ7_fill_d0a16 5 none, Cond.methodLink RX9 34 yX9_note, Cond.instanceMethod yX9_note, Cond.selects RX9 yX9_note yX9_note, Cond.code yX9_note cX9_note 3 none, Cond.methodLink RX9 38 yX7_positionsBehind, Cond.instanceMethod yX7_positionsBehind, Cond.selects RX7 yX7_positionsBehind yX7_positionsBehind]
def wsL_law_r16 : List Cond := [Cond.code yX7_positionsBehind cX7_positionsBehind 2 (some .long), Cond.fieldLink RX7 28 "PutBack$TextSet" "behind" "[J", Cond.methodLink RX9 42 yX7_signsOf, Cond.methodLink RX9 48 yX7_endsIn, Cond.instanceMethod yX7_endsIn, Cond.selects RX7 yX7_endsIn yX7_endsIn, Cond.code yX7_endsIn cX7_endsIn 2 (some .boolean), Cond.fieldLink RX7 36 "PutBack$TextSet" "hasEmpty" "Z", Cond.fieldLink RX7 44 "PutBack$TextSet" "last" "J", Cond.static yX11_isIn, Cond.code yX11_isIn cX11_isIn 3 (some .boolean), Cond.methodLink RX9 52 yX9_noteBehind, Cond.instanceMethod yX9_noteBehind, Cond.selects RX9 yX9_noteBehind yX9_noteBehind, Cond.code yX9_noteBehind cX9_noteBehind 11 none, Cond.fieldLink RX9 60 "PutBack$TextSet" "count" "I", Cond.fieldLink RX9 63 "PutBack$TextSet" "allowed" "[J", Cond.static yX11_lowest, Cond.code yX11_lowest cX11_lowest 2 (some .int), Cond.methodLink RX11 138 yJ13_bitCount_95d88, Cond.static yJ13_bitCount_95d88, Cond.initialized RJ13, Cond.code yJ13_bitCount_95d88 cJ13_bitCount_95d88 2 (some .int), Cond.constantLong RJ13 314 (6148914691236517205)]
def wsL_law_r17 : List Cond := [Cond.constantLong RJ13 316 (3689348814741910323), Cond.constantLong RJ13 318 (1085102592571150095), Cond.methodLink RX4 253 yX4_refuseShown, Cond.instanceMethod yX4_refuseShown, Cond.selects RX4 yX4_refuseShown yX4_refuseShown, Cond.code yX4_refuseShown cX4_refuseShown 5 none, Cond.static yX11_byteOf, Cond.code yX11_byteOf cX11_byteOf 1 (some .int), Cond.fieldLink RX11 281 "PutBack" "BYTES" "[I", Cond.methodLink RX4 273 yX1_branches, Cond.static yX1_branches, Cond.initialized RX1, Cond.code yX1_branches cX1_branches 8 (some (.object "PutBack$Lens")), Cond.fieldLink RX1 34 "PutBack$Lens" "source" "LPutBack$TextSet;", Cond.fieldLink RX1 38 "PutBack$Lens" "view" "LPutBack$TextSet;", Cond.fieldLink RX1 44 "PutBack$Lens" "hasKey" "Z", Cond.classLink RX1 10 RX1, Cond.instantiable RX1 20, Cond.fieldLink RX1 41 "PutBack$Lens" "kids" "[LPutBack$Lens;", Cond.fieldLink RX1 19 "PutBack$Lens" "same" "[Z", Cond.methodLink RX1 70 Lib.Math.min.name, Cond.static Lib.Math.min.name, Cond.initialized "java/lang/Math", Cond.code Lib.Math.min.name Lib.Math.min.code 2 (some .int)]
def wsL_law_r18 : List Cond := [Cond.methodLink RX1 86 arraycopyName, Cond.native arraycopyName, Cond.static arraycopyName, Cond.initialized "java/lang/System", Cond.fieldLink RX1 27 "PutBack$Lens" "weight" "I", Cond.methodLink RX1 79 yX7_either, Cond.static yX7_either, Cond.code yX7_either cX7_either 3 (some (.object "PutBack$TextSet")), Cond.classLink RX7 19 RX7, Cond.instantiable RX7 7, Cond.methodLink RX7 31 yX7_init, Cond.instanceMethod yX7_init, Cond.code yX7_init cX7_init 2 none, Cond.methodLink RX7 3 objectInit, Cond.methodLink RX7 9 Lib.Math.min.name, Cond.methodLink RX7 15 Lib.Math.max.name, Cond.static Lib.Math.max.name, Cond.code Lib.Math.max.name Lib.Math.max.code 2 (some .int), Cond.methodLink RX7 47 yX7_place, Cond.instanceMethod yX7_place, Cond.selects RX7 yX7_place yX7_place, Cond.code yX7_place cX7_place 4 none, Cond.fieldLink RX7 55 "PutBack$TextSet" "isEndless" "Z", Cond.methodLink RX1 82 yX1_kidsBehind]
def wsL_law_r19 : List Cond := [Cond.static yX1_kidsBehind, Cond.code yX1_kidsBehind cX1_kidsBehind 6 (some (.array (.object "PutBack$Lens"))), Cond.fieldLink RX1 31 "PutBack$Lens" "kind" "I", Cond.methodLink RX1 48 yX1_init, Cond.instanceMethod yX1_init, Cond.code yX1_init cX1_init 6 none, Cond.methodLink RX1 3 objectInit, Cond.fieldLink RX1 9 "PutBack$Lens" "order" "[I", Cond.fieldLink RX1 15 "PutBack$Lens" "halves" "[LPutBack$Lens;", Cond.fieldLink RX1 23 "PutBack$Lens" "quoted" "[B", Cond.methodLink RX1 65 yX1_weightOf, Cond.static yX1_weightOf, Cond.code yX1_weightOf cX1_weightOf 2 (some .int), Cond.constant RX1 69 (1000000), Cond.code yX4_basic cX4_basic 4 (some (.object "PutBack$Lens")), Cond.methodLink RX4 183 yX4_plain, Cond.instanceMethod yX4_plain, Cond.selects RX4 yX4_plain yX4_plain, Cond.methodLink RX4 179 yX4_repeated, Cond.instanceMethod yX4_repeated, Cond.selects RX4 yX4_repeated yX4_repeated, Cond.code yX4_repeated cX4_repeated 6 (some (.object "PutBack$Lens")), Cond.fieldLink RX4 275 "PutBack$Lens" "hasKey" "Z", Cond.methodLink RX4 249 yX7_runsInto]
def wsL_law_r20 : List Cond := [Cond.instanceMethod yX7_runsInto, Cond.selects RX7 yX7_runsInto yX7_runsInto, Cond.code yX7_runsInto cX7_runsInto 5 (some .long), Cond.methodLink RX4 278 yX1_repeated, Cond.static yX1_repeated, Cond.code yX1_repeated cX1_repeated 5 (some (.object "PutBack$Lens")), Cond.methodLink RX1 92 yX7_repeated, Cond.instanceMethod yX7_repeated, Cond.selects RX7 yX7_repeated yX7_repeated, Cond.code yX7_repeated cX7_repeated 3 (some (.object "PutBack$TextSet")), Cond.methodLink RX7 51 yX7_linkBehind, Cond.instanceMethod yX7_linkBehind, Cond.selects RX7 yX7_linkBehind yX7_linkBehind, Cond.code yX7_linkBehind cX7_linkBehind 6 none, Cond.code yX4_part cX4_part 2 (some (.object "PutBack$Lens")), Cond.methodLink RX4 176 yX4_basic, Cond.instanceMethod yX4_basic, Cond.selects RX4 yX4_basic yX4_basic, Cond.code yX4_plain cX4_plain 5 (some (.object "PutBack$Lens")), Cond.methodLink RX4 186 yX4_takeOpening, Cond.instanceMethod yX4_takeOpening, Cond.selects RX4 yX4_takeOpening yX4_takeOpening, Cond.code yX4_takeOpening cX4_takeOpening 1 (some .boolean), Cond.methodLink RX4 189 yX4_takeClosing]
def wsL_law_r21 : List Cond := [Cond.instanceMethod yX4_takeClosing, Cond.selects RX4 yX4_takeClosing yX4_takeClosing, Cond.code yX4_takeClosing cX4_takeClosing 1 (some .boolean), Cond.methodLink RX4 192 yX4_takeWord, Cond.instanceMethod yX4_takeWord, Cond.selects RX4 yX4_takeWord yX4_takeWord, Cond.code yX4_takeWord cX4_takeWord 2 (some .boolean), Cond.methodLink RX4 195 yX4_whole, Cond.instanceMethod yX4_whole, Cond.selects RX4 yX4_whole yX4_whole, Cond.code yX4_whole cX4_whole 3 (some (.object "PutBack$Lens")), Cond.methodLink RX4 208 yX4_unit, Cond.instanceMethod yX4_unit, Cond.selects RX4 yX4_unit yX4_unit, Cond.code yX4_unit cX4_unit 5 (some (.object "PutBack$TextSet")), Cond.methodLink RX4 281 yX4_atom, Cond.instanceMethod yX4_atom, Cond.selects RX4 yX4_atom yX4_atom, Cond.methodLink RX4 284 yX7_orEmpty, Cond.instanceMethod yX7_orEmpty, Cond.selects RX7 yX7_orEmpty yX7_orEmpty, Cond.code yX7_orEmpty cX7_orEmpty 2 (some (.object "PutBack$TextSet")), Cond.methodLink RX4 287 yX7_repeated, Cond.code yX4_atom cX4_atom 1 (some (.object "PutBack$TextSet"))]
def wsL_law_r22 : List Cond := [Cond.fieldLink RX4 219 "PutBack$Reader" "quotedLength" "I", Cond.methodLink RX4 216 yX4_takeQuoted, Cond.instanceMethod yX4_takeQuoted, Cond.selects RX4 yX4_takeQuoted yX4_takeQuoted, Cond.code yX4_takeQuoted cX4_takeQuoted 2 (some .boolean), Cond.static yX11_rankOf, Cond.code yX11_rankOf cX11_rankOf 1 (some .int), Cond.methodLink RX4 228 yX7_ofQuoted, Cond.static yX7_ofQuoted, Cond.code yX7_ofQuoted cX7_ofQuoted 4 (some (.object "PutBack$TextSet")), Cond.constantLong RX7 34 (2), Cond.methodLink RX4 290 yX4_ranges, Cond.instanceMethod yX4_ranges, Cond.selects RX4 yX4_ranges yX4_ranges, Cond.code yX4_ranges cX4_ranges 6 (some (.object "PutBack$TextSet")), Cond.constantLong RX4 321 (2), Cond.methodLink RX4 318 yX4_takeBound, Cond.instanceMethod yX4_takeBound, Cond.selects RX4 yX4_takeBound yX4_takeBound, Cond.code yX4_takeBound cX4_takeBound 3 (some .int), Cond.methodLink RX4 323 yX7_ofSigns, Cond.static yX7_ofSigns, Cond.code yX7_ofSigns cX7_ofSigns 3 (some (.object "PutBack$TextSet")), Cond.methodLink RX4 293 yX4_enclosed]
def wsL_law_r23 : List Cond := [Cond.instanceMethod yX4_enclosed, Cond.selects RX4 yX4_enclosed yX4_enclosed, Cond.code yX4_chain cX4_chain 4 (some (.object "PutBack$TextSet")), Cond.methodLink RX4 306 yX4_beginsUnit, Cond.static yX4_beginsUnit, Cond.code yX4_beginsUnit cX4_beginsUnit 1 (some .boolean), Cond.methodLink RX4 309 yX4_chained, Cond.instanceMethod yX4_chained, Cond.selects RX4 yX4_chained yX4_chained, Cond.code yX4_chained cX4_chained 6 (some (.object "PutBack$TextSet")), Cond.methodLink RX4 316 yX7_chain, Cond.static yX7_chain, Cond.code yX7_chain cX7_chain 5 (some (.object "PutBack$TextSet")), Cond.code yX4_choice cX4_choice 4 (some (.object "PutBack$TextSet")), Cond.methodLink RX4 299 yX4_chain, Cond.instanceMethod yX4_chain, Cond.selects RX4 yX4_chain yX4_chain, Cond.methodLink RX4 302 yX4_chosen, Cond.instanceMethod yX4_chosen, Cond.selects RX4 yX4_chosen yX4_chosen, Cond.code yX4_chosen cX4_chosen 6 (some (.object "PutBack$TextSet")), Cond.methodLink RX4 312 yX7_either, Cond.code yX4_enclosed cX4_enclosed 2 (some (.object "PutBack$TextSet")), Cond.methodLink RX4 296 yX4_choice]
def wsL_law_r24 : List Cond := [Cond.instanceMethod yX4_choice, Cond.selects RX4 yX4_choice yX4_choice, Cond.methodLink RX4 212 yX1_leaf, Cond.static yX1_leaf, Cond.code yX1_leaf cX1_leaf 3 (some (.object "PutBack$Lens")), Cond.methodLink RX4 199 yX4_deletion, Cond.instanceMethod yX4_deletion, Cond.selects RX4 yX4_deletion yX4_deletion, Cond.code yX4_deletion cX4_deletion 4 (some (.object "PutBack$Lens")), Cond.fieldLink RX4 238 "PutBack$Lens" "quoted" "[B", Cond.methodLink RX4 222 yX7_runEnd, Cond.instanceMethod yX7_runEnd, Cond.selects RX7 yX7_runEnd yX7_runEnd, Cond.code yX7_runEnd cX7_runEnd 12 (some .int), Cond.methodLink RX7 74 yJ13_bitCount_95d88, Cond.methodLink RX4 232 yJ7_copyOf_9075b, Cond.static yJ7_copyOf_9075b, Cond.code yJ7_copyOf_9075b cJ7_copyOf_9075b 3 (some (.array .byte)), Cond.methodLink RJ7 310 ⟨"[B", "clone", "()Ljava/lang/Object;"⟩, Cond.sameMethod "[B" "java/lang/Object" "clone" "()Ljava/lang/Object;", Cond.native ⟨"java/lang/Object", "clone", "()Ljava/lang/Object;"⟩, Cond.instanceMethod ⟨"java/lang/Object", "clone", "()Ljava/lang/Object;"⟩, Cond.selects "[B" ⟨"[B", "clone", "()Ljava/lang/Object;"⟩ ⟨"java/lang/Object", "clone", "()Ljava/lang/Object;"⟩, Cond.classLink RJ7 311 "[B"]
def wsL_law_r25 : List Cond := [Cond.methodLink RJ7 304 Lib.Math.min.name, Cond.methodLink RJ7 150 arraycopyName, Cond.methodLink RX4 202 yX4_insertion, Cond.instanceMethod yX4_insertion, Cond.selects RX4 yX4_insertion yX4_insertion, Cond.code yX4_insertion cX4_insertion 2 (some (.object "PutBack$Lens")), Cond.methodLink RX4 205 yX4_swapped, Cond.instanceMethod yX4_swapped, Cond.selects RX4 yX4_swapped yX4_swapped, Cond.code yX4_row cX4_row 4 (some (.object "PutBack$Lens")), Cond.methodLink RX4 169 yX4_part, Cond.instanceMethod yX4_part, Cond.selects RX4 yX4_part yX4_part, Cond.methodLink RX4 172 yX4_rowed, Cond.instanceMethod yX4_rowed, Cond.selects RX4 yX4_rowed yX4_rowed, Cond.code yX4_rowed cX4_rowed 7 (some (.object "PutBack$Lens")), Cond.methodLink RX4 257 yX1_row, Cond.static yX1_row, Cond.code yX1_row cX1_row 8 (some (.object "PutBack$Lens")), Cond.methodLink RX1 51 yX1_kidsInRow, Cond.instanceMethod yX1_kidsInRow, Cond.selects RX1 yX1_kidsInRow yX1_kidsInRow, Cond.code yX1_kidsInRow cX1_kidsInRow 1 (some .int)]
def wsL_law_r26 : List Cond := [Cond.fieldLink RX1 76 "PutBack$TextSet" "count" "I", Cond.methodLink RX1 55 yX7_chain, Cond.methodLink RX1 61 yX1_placeInRow, Cond.instanceMethod yX1_placeInRow, Cond.selects RX1 yX1_placeInRow yX1_placeInRow, Cond.code yX1_placeInRow cX1_placeInRow 7 none, Cond.code yX4_swapped cX4_swapped 4 (some (.object "PutBack$Lens")), Cond.methodLink RX4 89 yX4_behind, Cond.instanceMethod yX4_behind, Cond.selects RX4 yX4_behind yX4_behind, Cond.code yX4_behind cX4_behind 4 (some (.object "PutBack$Lens")), Cond.methodLink RX4 104 yX1_then, Cond.static yX1_then, Cond.code yX1_then cX1_then 4 (some (.object "PutBack$Lens")), Cond.fieldLink RX1 96 "PutBack$Lens" "lastLink" "LPutBack$Lens;", Cond.fieldLink RX1 107 "PutBack$Lens" "growth" "I", Cond.fieldLink RX1 114 "PutBack$Lens" "oneToOne" "Z", Cond.fieldLink RX1 121 "PutBack$Lens" "stepwise" "Z", Cond.methodLink RX1 100 yX1_weightOfAll, Cond.static yX1_weightOfAll, Cond.code yX1_weightOfAll cX1_weightOfAll 3 (some .int), Cond.methodLink RX1 104 yX1_growthOfLinks, Cond.instanceMethod yX1_growthOfLinks, Cond.selects RX1 yX1_growthOfLinks yX1_growthOfLinks]
def wsL_law_r27 : List Cond := [Cond.code yX1_growthOfLinks cX1_growthOfLinks 5 (some .int), Cond.constant RX1 134 (-1000000), Cond.fieldLink RX1 142 "PutBack$TextSet" "isEndless" "Z", Cond.methodLink RX1 139 yX1_grows, Cond.instanceMethod yX1_grows, Cond.selects RX1 yX1_grows yX1_grows, Cond.code yX1_grows cX1_grows 6 (some .int), Cond.methodLink RX1 131 yX7_onlyLength, Cond.instanceMethod yX7_onlyLength, Cond.selects RX7 yX7_onlyLength yX7_onlyLength, Cond.code yX7_onlyLength cX7_onlyLength 9 (some .int), Cond.constantLong RX7 92 (-1), Cond.methodLink RX1 135 yX1_growthInRow, Cond.instanceMethod yX1_growthInRow, Cond.selects RX1 yX1_growthInRow yX1_growthInRow, Cond.code yX1_growthInRow cX1_growthInRow 5 (some .int), Cond.methodLink RX1 110 yX1_hasKidsOneToOne, Cond.instanceMethod yX1_hasKidsOneToOne, Cond.selects RX1 yX1_hasKidsOneToOne yX1_hasKidsOneToOne, Cond.code yX1_hasKidsOneToOne cX1_hasKidsOneToOne 6 (some .boolean), Cond.methodLink RX1 151 yX1_isOneToOne, Cond.instanceMethod yX1_isOneToOne, Cond.selects RX1 yX1_isOneToOne yX1_isOneToOne, Cond.code yX1_isOneToOne cX1_isOneToOne 2 (some .boolean)]
def wsL_law_r28 : List Cond := [Cond.methodLink RX1 145 yX7_isOneText, Cond.instanceMethod yX7_isOneText, Cond.selects RX7 yX7_isOneText yX7_isOneText, Cond.code yX7_isOneText cX7_isOneText 3 (some .boolean), Cond.methodLink RX7 94 yX7_onlyLength, Cond.methodLink RX1 148 yX1_hasSameViews, Cond.instanceMethod yX1_hasSameViews, Cond.selects RX1 yX1_hasSameViews yX1_hasSameViews, Cond.code yX1_hasSameViews cX1_hasSameViews 3 (some .boolean), Cond.methodLink RX1 117 yX1_hasKidsStepwise, Cond.instanceMethod yX1_hasKidsStepwise, Cond.selects RX1 yX1_hasKidsStepwise yX1_hasKidsStepwise, Cond.code yX1_hasKidsStepwise cX1_hasKidsStepwise 4 (some .boolean), Cond.methodLink RX1 154 yX1_isStepwise, Cond.instanceMethod yX1_isStepwise, Cond.selects RX1 yX1_isStepwise yX1_isStepwise, Cond.code yX1_isStepwise cX1_isStepwise 9 (some .boolean), Cond.fieldLink RX1 157 "PutBack$Lens" "kept" "J", Cond.methodLink RX4 107 yX1_joined, Cond.static yX1_joined, Cond.code yX1_joined cX1_joined 11 (some (.object "PutBack$Lens")), Cond.fieldLink RX1 124 "PutBack$Lens" "simpler" "LPutBack$Lens;", Cond.methodLink RX1 127 yX1_isPlain, Cond.instanceMethod yX1_isPlain]
def wsL_law_r29 : List Cond := [Cond.selects RX1 yX1_isPlain yX1_isPlain, Cond.code yX1_isPlain cX1_isPlain 5 (some .boolean), Cond.methodLink RX1 161 yX1_isEven, Cond.instanceMethod yX1_isEven, Cond.selects RX1 yX1_isEven yX1_isEven, Cond.code yX1_isEven cX1_isEven 1 (some .boolean), Cond.methodLink RX1 164 yX1_oneForOne, Cond.static yX1_oneForOne, Cond.code yX1_oneForOne cX1_oneForOne 6 (some (.object "PutBack$Lens")), Cond.methodLink RX1 183 yX7_ofQuoted, Cond.methodLink RX1 187 yX1_leaf, Cond.methodLink RX1 191 yX7_leastSigns, Cond.instanceMethod yX7_leastSigns, Cond.selects RX7 yX7_leastSigns yX7_leastSigns, Cond.code yX7_leastSigns cX7_leastSigns 3 (some (.array .byte)), Cond.methodLink RX1 195 yX1_row, Cond.methodLink RX1 168 yX1_joinedParts, Cond.static yX1_joinedParts, Cond.methodLink RX1 172 yX1_joinedHalves, Cond.static yX1_joinedHalves, Cond.methodLink RX1 175 yX1_then, Cond.code yX1_joinedHalves cX1_joinedHalves 7 (some (.object "PutBack$Lens")), Cond.methodLink RX1 179 yX1_asPair, Cond.instanceMethod yX1_asPair]
def wsL_law_r30 : List Cond := [Cond.selects RX1 yX1_asPair yX1_asPair, Cond.code yX1_asPair cX1_asPair 3 (some (.object "PutBack$Lens")), Cond.code yX1_joinedParts cX1_joinedParts 13 (some (.object "PutBack$Lens")), Cond.methodLink RX1 199 yX1_canJoin, Cond.static yX1_canJoin, Cond.code yX1_canJoin cX1_canJoin 4 (some .boolean), Cond.methodLink RX1 203 yX1_follow, Cond.static yX1_follow, Cond.code yX1_follow cX1_follow 9 (some .boolean), Cond.methodLink RX1 214 yX1_pair, Cond.static yX1_pair, Cond.code yX1_pair cX1_pair 8 (some .boolean), Cond.methodLink RX1 218 yX9_relation, Cond.methodLink RX1 207 yX1_joined, Cond.methodLink RX1 210 yX1_through, Cond.instanceMethod yX1_through, Cond.selects RX1 yX1_through yX1_through, Cond.code yX1_through cX1_through 9 (some (.object "PutBack$Lens")), Cond.methodLink RX1 224 yX1_repeated, Cond.methodLink RX1 227 yX1_setOf, Cond.instanceMethod yX1_setOf, Cond.selects RX1 yX1_setOf yX1_setOf, Cond.code yX1_setOf cX1_setOf 8 (some (.object "PutBack$TextSet")), Cond.methodLink RL 27 yX12_lens]
def wsL_law_r31 : List Cond := [Cond.instanceMethod yX12_lens, Cond.selects RX12 yX12_lens yX12_lens, Cond.code yX12_lens cX12_lens 8 (some .int), Cond.fieldLink RX12 161 "PutBackModel" "sets" "I", Cond.fieldLink RX12 164 "PutBackModel" "pool" "I", Cond.fieldLink RX12 225 "PutBackModel" "nodes" "I", Cond.fieldLink RX12 228 "PutBackModel" "wordsLong" "I", Cond.fieldLink RX12 321 "PutBackModel" "isFaulty" "Z", Cond.fieldLink RX12 325 "PutBackModel" "fault" "I", Cond.fieldLink RX12 334 "PutBackModel" "at" "I", Cond.fieldLink RX12 400 "PutBackModel" "open" "I", Cond.fieldLink RX12 222 "PutBackModel" "top" "I", Cond.fieldLink RX12 343 "PutBackModel" "word" "J", Cond.fieldLink RX12 506 "PutBackModel" "lenses" "I", Cond.fieldLink RX12 347 "PutBackModel" "kind" "I", Cond.methodLink RX12 355 yX12_step, Cond.instanceMethod yX12_step, Cond.selects RX12 yX12_step yX12_step, Cond.code yX12_step cX12_step 2 none, Cond.fieldLink RX12 328 "PutBackModel" "place" "I", Cond.fieldLink RX12 340 "PutBackModel" "sign" "I", Cond.constantLong RX12 157 (97), Cond.constantLong RX12 159 (122), Cond.constantLong RX12 350 (27)]
def wsL_law_r32 : List Cond := [Cond.methodLink RX12 337 yX12_see, Cond.instanceMethod yX12_see, Cond.selects RX12 yX12_see yX12_see, Cond.code yX12_see cX12_see 2 (some .int), Cond.methodLink RX12 503 yX12_isName, Cond.instanceMethod yX12_isName, Cond.selects RX12 yX12_isName yX12_isName, Cond.code yX12_isName cX12_isName 1 (some .boolean), Cond.methodLink RX12 396 yX12_isOwn, Cond.instanceMethod yX12_isOwn, Cond.selects RX12 yX12_isOwn yX12_isOwn, Cond.code yX12_isOwn cX12_isOwn 1 (some .boolean), Cond.methodLink RX12 380 yX12_isWord, Cond.instanceMethod yX12_isWord, Cond.selects RX12 yX12_isWord yX12_isWord, Cond.code yX12_isWord cX12_isWord 2 (some .boolean), Cond.methodLink RX12 374 yX12_wordOf, Cond.instanceMethod yX12_wordOf, Cond.selects RX12 yX12_wordOf yX12_wordOf, Cond.code yX12_wordOf cX12_wordOf 5 (some .long), Cond.methodLink RX12 364 yJ0_length_8abf5, Cond.methodLink RX12 370 yJ0_charAt_5068e, Cond.methodLink RX12 361 yX12_faulty, Cond.instanceMethod yX12_faulty]
def wsL_law_r33 : List Cond := [Cond.selects RX12 yX12_faulty yX12_faulty, Cond.code yX12_faulty cX12_faulty 2 none, Cond.methodLink RX12 331 yX12_faultyAt, Cond.instanceMethod yX12_faultyAt, Cond.selects RX12 yX12_faultyAt yX12_faultyAt, Cond.code yX12_faultyAt cX12_faultyAt 4 none, Cond.methodLink RX12 403 yX12_asks, Cond.instanceMethod yX12_asks, Cond.selects RX12 yX12_asks yX12_asks, Cond.code yX12_asks cX12_asks 2 none, Cond.methodLink RX12 358 yX12_passes, Cond.instanceMethod yX12_passes, Cond.selects RX12 yX12_passes yX12_passes, Cond.code yX12_passes cX12_passes 2 (some .boolean), Cond.methodLink RX12 352 yX12_isSign, Cond.instanceMethod yX12_isSign, Cond.selects RX12 yX12_isSign yX12_isSign, Cond.code yX12_isSign cX12_isSign 2 (some .boolean), Cond.methodLink RX12 509 yX12_lensTop, Cond.instanceMethod yX12_lensTop, Cond.selects RX12 yX12_lensTop yX12_lensTop, Cond.code yX12_lensTop cX12_lensTop 4 (some .int), Cond.methodLink RX12 463 yX12_lensHere, Cond.instanceMethod yX12_lensHere]
def wsL_law_r34 : List Cond := [Cond.selects RX12 yX12_lensHere yX12_lensHere, Cond.code yX12_lensHere cX12_lensHere 4 (some .int), Cond.methodLink RX12 473 yX12_row, Cond.instanceMethod yX12_row, Cond.selects RX12 yX12_row yX12_row, Cond.methodLink RX12 476 yX12_either, Cond.instanceMethod yX12_either, Cond.selects RX12 yX12_either yX12_either, Cond.code yX12_either cX12_either 8 (some .int), Cond.methodLink RX12 466 yX12_compared, Cond.instanceMethod yX12_compared, Cond.selects RX12 yX12_compared yX12_compared, Cond.code yX12_compared cX12_compared 11 (some .int), Cond.methodLink RX12 201 yX12_isEnd, Cond.instanceMethod yX12_isEnd, Cond.selects RX12 yX12_isEnd yX12_isEnd, Cond.code yX12_isEnd cX12_isEnd 3 (some .boolean), Cond.methodLink RX12 145 yX12_has, Cond.instanceMethod yX12_has, Cond.selects RX12 yX12_has yX12_has, Cond.code yX12_has cX12_has 4 (some .boolean), Cond.methodLink RX12 194 yX12_next, Cond.instanceMethod yX12_next, Cond.selects RX12 yX12_next yX12_next]
def wsL_law_r35 : List Cond := [Cond.code yX12_next cX12_next 7 (some .int), Cond.methodLink RX12 190 yX12_goingOn, Cond.instanceMethod yX12_goingOn, Cond.selects RX12 yX12_goingOn yX12_goingOn, Cond.code yX12_goingOn cX12_goingOn 3 (some .long), Cond.methodLink RX12 448 yX12_isRoom, Cond.instanceMethod yX12_isRoom, Cond.selects RX12 yX12_isRoom yX12_isRoom, Cond.code yX12_isRoom cX12_isRoom 4 (some .boolean), Cond.methodLink RX12 457 yX12_meets, Cond.instanceMethod yX12_meets, Cond.selects RX12 yX12_meets yX12_meets, Cond.code yX12_meets cX12_meets 5 (some .int), Cond.methodLink RX12 179 yX12_firstSymbols, Cond.instanceMethod yX12_firstSymbols, Cond.selects RX12 yX12_firstSymbols yX12_firstSymbols, Cond.code yX12_firstSymbols cX12_firstSymbols 2 (some .long), Cond.methodLink RX12 175 yX12_symbolsOf, Cond.instanceMethod yX12_symbolsOf, Cond.selects RX12 yX12_symbolsOf yX12_symbolsOf, Cond.code yX12_symbolsOf cX12_symbolsOf 7 (some .long), Cond.methodLink RX12 183 yX12_least, Cond.instanceMethod yX12_least, Cond.selects RX12 yX12_least yX12_least]
def wsL_law_r36 : List Cond := [Cond.code yX12_least cX12_least 4 (some .int), Cond.methodLink RX12 187 yX12_byteOf, Cond.instanceMethod yX12_byteOf, Cond.selects RX12 yX12_byteOf yX12_byteOf, Cond.code yX12_byteOf cX12_byteOf 2 (some .int), Cond.methodLink RX12 460 yX12_bothSet, Cond.instanceMethod yX12_bothSet, Cond.selects RX12 yX12_bothSet yX12_bothSet, Cond.code yX12_bothSet cX12_bothSet 5 (some .int), Cond.methodLink RX12 167 yX12_newSet, Cond.instanceMethod yX12_newSet, Cond.selects RX12 yX12_newSet yX12_newSet, Cond.code yX12_newSet cX12_newSet 3 (some .int), Cond.methodLink RX12 171 yX12_copies, Cond.instanceMethod yX12_copies, Cond.selects RX12 yX12_copies yX12_copies, Cond.code yX12_copies cX12_copies 5 none, Cond.methodLink RX12 469 yX12_newNode, Cond.instanceMethod yX12_newNode, Cond.selects RX12 yX12_newNode yX12_newNode, Cond.code yX12_newNode cX12_newNode 6 (some .int), Cond.code yX12_basic cX12_basic 6 (some .int), Cond.methodLink RX12 442 yX12_unit, Cond.instanceMethod yX12_unit]
def wsL_law_r37 : List Cond := [Cond.selects RX12 yX12_unit yX12_unit, Cond.code yX12_unit cX12_unit 5 (some .int), Cond.methodLink RX12 432 yX12_atom, Cond.instanceMethod yX12_atom, Cond.selects RX12 yX12_atom yX12_atom, Cond.methodLink RX12 435 yX12_runsInto, Cond.instanceMethod yX12_runsInto, Cond.selects RX12 yX12_runsInto yX12_runsInto, Cond.code yX12_runsInto cX12_runsInto 6 (some .int), Cond.methodLink RX12 438 yX12_againSet, Cond.instanceMethod yX12_againSet, Cond.selects RX12 yX12_againSet yX12_againSet, Cond.code yX12_againSet cX12_againSet 6 (some .int), Cond.code yX12_atom cX12_atom 3 (some .int), Cond.methodLink RX12 409 yX12_quoted, Cond.instanceMethod yX12_quoted, Cond.selects RX12 yX12_quoted yX12_quoted, Cond.code yX12_quoted cX12_quoted 3 (some .int), Cond.methodLink RX12 406 yX12_symbolOf, Cond.instanceMethod yX12_symbolOf, Cond.selects RX12 yX12_symbolOf yX12_symbolOf, Cond.code yX12_symbolOf cX12_symbolOf 2 (some .int), Cond.constantLong RX12 149 (48), Cond.constantLong RX12 151 (59)]
def wsL_law_r38 : List Cond := [Cond.methodLink RX12 218 yX12_puts, Cond.instanceMethod yX12_puts, Cond.selects RX12 yX12_puts yX12_puts, Cond.code yX12_puts cX12_puts 2 none, Cond.methodLink RX12 412 yX12_wordSet, Cond.instanceMethod yX12_wordSet, Cond.selects RX12 yX12_wordSet yX12_wordSet, Cond.code yX12_wordSet cX12_wordSet 5 (some .int), Cond.methodLink RX12 416 yX12_some, Cond.instanceMethod yX12_some, Cond.selects RX12 yX12_some yX12_some, Cond.code yX12_some cX12_some 7 (some .long), Cond.methodLink RX12 420 yX12_oneSet, Cond.instanceMethod yX12_oneSet, Cond.selects RX12 yX12_oneSet yX12_oneSet, Cond.code yX12_oneSet cX12_oneSet 4 (some .int), Cond.methodLink RX12 423 yX12_opens, Cond.instanceMethod yX12_opens, Cond.selects RX12 yX12_opens yX12_opens, Cond.code yX12_opens cX12_opens 1 (some .boolean), Cond.methodLink RX12 426 yX12_branches, Cond.instanceMethod yX12_branches, Cond.selects RX12 yX12_branches yX12_branches, Cond.methodLink RX12 429 yX12_closes]
def wsL_law_r39 : List Cond := [Cond.instanceMethod yX12_closes, Cond.selects RX12 yX12_closes yX12_closes, Cond.code yX12_closes cX12_closes 1 none, Cond.code yX12_branches cX12_branches 5 (some .int), Cond.methodLink RX12 454 yX12_chain, Cond.instanceMethod yX12_chain, Cond.selects RX12 yX12_chain yX12_chain, Cond.code yX12_chain cX12_chain 5 (some .int), Cond.methodLink RX12 445 yX12_isAtom, Cond.instanceMethod yX12_isAtom, Cond.selects RX12 yX12_isAtom yX12_isAtom, Cond.code yX12_isAtom cX12_isAtom 1 (some .boolean), Cond.methodLink RX12 451 yX12_rowSet, Cond.instanceMethod yX12_rowSet, Cond.selects RX12 yX12_rowSet yX12_rowSet, Cond.code yX12_rowSet cX12_rowSet 6 (some .int), Cond.methodLink RX12 491 yX12_deleting, Cond.instanceMethod yX12_deleting, Cond.selects RX12 yX12_deleting yX12_deleting, Cond.code yX12_deleting cX12_deleting 7 (some .int), Cond.methodLink RX12 231 yX12_isOf, Cond.instanceMethod yX12_isOf, Cond.selects RX12 yX12_isOf yX12_isOf, Cond.code yX12_isOf cX12_isOf 4 (some .boolean)]
def wsL_law_r40 : List Cond := [Cond.methodLink RX12 198 yX12_walks, Cond.instanceMethod yX12_walks, Cond.selects RX12 yX12_walks yX12_walks, Cond.code yX12_walks cX12_walks 6 (some .int), Cond.methodLink RX12 494 yX12_keepsWord, Cond.instanceMethod yX12_keepsWord, Cond.selects RX12 yX12_keepsWord yX12_keepsWord, Cond.code yX12_keepsWord cX12_keepsWord 5 none, Cond.methodLink RX12 497 yX12_swapping, Cond.instanceMethod yX12_swapping, Cond.selects RX12 yX12_swapping yX12_swapping, Cond.methodLink RX12 485 yX12_basic, Cond.instanceMethod yX12_basic, Cond.selects RX12 yX12_basic yX12_basic, Cond.methodLink RX12 488 yX12_again, Cond.instanceMethod yX12_again, Cond.selects RX12 yX12_again yX12_again, Cond.code yX12_again cX12_again 6 (some .int), Cond.methodLink RX12 265 yX12_hasKey, Cond.instanceMethod yX12_hasKey, Cond.selects RX12 yX12_hasKey yX12_hasKey, Cond.code yX12_hasKey cX12_hasKey 4 (some .boolean), Cond.methodLink RX12 500 yX12_named, Cond.instanceMethod yX12_named]
def wsL_law_r41 : List Cond := [Cond.selects RX12 yX12_named yX12_named, Cond.code yX12_named cX12_named 2 (some .int), Cond.code yX12_partHere cX12_partHere 2 (some .int), Cond.code yX12_row cX12_row 4 (some .int), Cond.methodLink RX12 479 yX12_partHere, Cond.instanceMethod yX12_partHere, Cond.selects RX12 yX12_partHere yX12_partHere, Cond.methodLink RX12 482 yX12_inRow, Cond.instanceMethod yX12_inRow, Cond.selects RX12 yX12_inRow yX12_inRow, Cond.code yX12_inRow cX12_inRow 9 (some .int), Cond.code yX12_swapping cX12_swapping 4 (some .int), Cond.methodLink RL 28 yX11_fault, Cond.instanceMethod yX11_fault, Cond.selects RX11 yX11_fault yX11_fault, Cond.code yX11_fault cX11_fault 2 (some .int), Cond.fieldLink RX11 65 "PutBack$Reader" "fault" "I", Cond.fieldLink RX11 68 "PutBack$Reader" "faultPlace" "I", Cond.fieldLink RX11 71 "PutBack$Reader" "shownBy" "I", Cond.methodLink RL 32 yX12_fault, Cond.instanceMethod yX12_fault, Cond.selects RX12 yX12_fault yX12_fault, Cond.code yX12_fault cX12_fault 2 (some .int), Cond.methodLink RL 33 yX11_text]
def wsL_law_r42 : List Cond := [Cond.instanceMethod yX11_text, Cond.selects RX11 yX11_text yX11_text, Cond.code yX11_text cX11_text 4 (some .int), Cond.fieldLink RX11 86 "PutBack$Text" "length" "I", Cond.methodLink RX11 74 yX11_slotAt, Cond.instanceMethod yX11_slotAt, Cond.selects RX11 yX11_slotAt yX11_slotAt, Cond.code yX11_slotAt cX11_slotAt 2 (some (.object "PutBack$Text")), Cond.methodLink RX11 78 yX4_isText, Cond.instanceMethod yX4_isText, Cond.selects RX4 yX4_isText yX4_isText, Cond.code yX4_isText cX4_isText 3 (some .boolean), Cond.methodLink RX11 82 yX4_spellInto, Cond.instanceMethod yX4_spellInto, Cond.selects RX4 yX4_spellInto yX4_spellInto, Cond.code yX4_spellInto cX4_spellInto 3 none, Cond.methodLink RX4 50 Lib.Math.min.name, Cond.fieldLink RX4 56 "PutBack$Text" "length" "I", Cond.fieldLink RX4 59 "PutBack$Text" "ranks" "[B", Cond.methodLink RL 36 yX12_text, Cond.instanceMethod yX12_text, Cond.selects RX12 yX12_text yX12_text, Cond.code yX12_text cX12_text 5 (some .int), Cond.methodLink RX12 514 yX12_isSlot]
def wsL_law_r43 : List Cond := [Cond.instanceMethod yX12_isSlot, Cond.selects RX12 yX12_isSlot yX12_isSlot, Cond.code yX12_isSlot cX12_isSlot 2 (some .boolean), Cond.constantLong RX12 512 (7), Cond.methodLink RL 37 yX11_symbol, Cond.instanceMethod yX11_symbol, Cond.selects RX11 yX11_symbol yX11_symbol, Cond.code yX11_symbol cX11_symbol 4 (some .int), Cond.fieldLink RX11 87 "PutBack$Text" "ranks" "[B", Cond.methodLink RX11 91 yX11_byteOf, Cond.methodLink RL 41 yX12_symbol, Cond.instanceMethod yX12_symbol, Cond.selects RX12 yX12_symbol yX12_symbol, Cond.code yX12_symbol cX12_symbol 3 (some .int), Cond.methodLink RL 42 yX11_fits, Cond.instanceMethod yX11_fits, Cond.selects RX11 yX11_fits yX11_fits, Cond.code yX11_fits cX11_fits 6 (some .int), Cond.methodLink RX11 95 yX11_setAt, Cond.instanceMethod yX11_setAt, Cond.selects RX11 yX11_setAt yX11_setAt, Cond.code yX11_setAt cX11_setAt 4 (some (.object "PutBack$TextSet")), Cond.fieldLink RX11 272 "PutBack$Lens" "source" "LPutBack$TextSet;", Cond.fieldLink RX11 276 "PutBack$Lens" "view" "LPutBack$TextSet;"]
def wsL_law_r44 : List Cond := [Cond.methodLink RX11 105 yX11_lensAt, Cond.instanceMethod yX11_lensAt, Cond.selects RX11 yX11_lensAt yX11_lensAt, Cond.code yX11_lensAt cX11_lensAt 2 (some (.object "PutBack$Lens")), Cond.fieldLink RX11 259 "PutBack$Reader" "told" "I", Cond.fieldLink RX11 268 "PutBack$Reader" "lenses" "[LPutBack$Lens;", Cond.methodLink RX11 99 yX7_has, Cond.instanceMethod yX7_has, Cond.selects RX7 yX7_has yX7_has, Cond.code yX7_has cX7_has 2 (some .boolean), Cond.fieldLink RX7 79 "PutBack$Text" "ranks" "[B", Cond.fieldLink RX7 85 "PutBack$Text" "length" "I", Cond.methodLink RX7 88 yX7_runEnd, Cond.methodLink RL 46 yX12_fits, Cond.instanceMethod yX12_fits, Cond.selects RX12 yX12_fits yX12_fits, Cond.code yX12_fits cX12_fits 5 (some .int), Cond.methodLink RX12 520 yX12_isLens, Cond.instanceMethod yX12_isLens, Cond.selects RX12 yX12_isLens yX12_isLens, Cond.code yX12_isLens cX12_isLens 2 (some .boolean), Cond.methodLink RX12 523 yX12_isSide, Cond.instanceMethod yX12_isSide, Cond.selects RX12 yX12_isSide yX12_isSide]
def wsL_law_r45 : List Cond := [Cond.code yX12_isSide cX12_isSide 2 (some .boolean), Cond.methodLink RX12 526 yX12_clearsHeap, Cond.instanceMethod yX12_clearsHeap, Cond.selects RX12 yX12_clearsHeap yX12_clearsHeap, Cond.code yX12_clearsHeap cX12_clearsHeap 1 none, Cond.fieldLink RX12 291 "PutBackModel" "partsTop" "I", Cond.fieldLink RX12 306 "PutBackModel" "outsTop" "I", Cond.methodLink RX12 529 yX12_lays, Cond.instanceMethod yX12_lays, Cond.selects RX12 yX12_lays yX12_lays, Cond.code yX12_lays cX12_lays 4 (some .int), Cond.methodLink RX12 532 yX12_isFit, Cond.instanceMethod yX12_isFit, Cond.selects RX12 yX12_isFit yX12_isFit, Cond.code yX12_isFit cX12_isFit 5 (some .boolean), Cond.methodLink RX12 517 yX12_setOf, Cond.instanceMethod yX12_setOf, Cond.selects RX12 yX12_setOf yX12_setOf, Cond.code yX12_setOf cX12_setOf 3 (some .int), Cond.methodLink RL 47 yX11_get, Cond.instanceMethod yX11_get, Cond.selects RX11 yX11_get yX11_get, Cond.code yX11_get cX11_get 7 (some .int), Cond.methodLink RX11 109 yX2_shows]
def wsL_law_r46 : List Cond := [Cond.instanceMethod yX2_shows, Cond.selects RX2 yX2_shows yX2_shows, Cond.code yX2_shows cX2_shows 5 (some .boolean), Cond.fieldLink RX2 64 "PutBack$Lens" "source" "LPutBack$TextSet;", Cond.fieldLink RX2 77 "PutBack$Text" "ranks" "[B", Cond.fieldLink RX2 82 "PutBack$Text" "length" "I", Cond.fieldLink RX2 90 "PutBack$Machine" "top" "I", Cond.methodLink RX2 68 yX7_has, Cond.methodLink RX2 74 yX2_clear, Cond.instanceMethod yX2_clear, Cond.selects RX2 yX2_clear yX2_clear, Cond.code yX2_clear cX2_clear 1 none, Cond.fieldLink RX2 144 "PutBack$Machine" "waits" "I", Cond.fieldLink RX2 147 "PutBack$Machine" "marked" "I", Cond.fieldLink RX2 150 "PutBack$Machine" "steps" "J", Cond.methodLink RX2 86 yX2_append, Cond.instanceMethod yX2_append, Cond.selects RX2 yX2_append yX2_append, Cond.code yX2_append cX2_append 5 none, Cond.methodLink RX2 160 arraycopyName, Cond.methodLink RX2 154 yJ7_copyOf_9075b, Cond.methodLink RX2 93 yX2_show, Cond.instanceMethod yX2_show, Cond.selects RX2 yX2_show yX2_show]
def wsL_law_r47 : List Cond := [Cond.code yX2_show cX2_show 11 (some .boolean), Cond.constantLong RX2 173 (4611686018427387904), Cond.fieldLink RX2 122 "PutBack$Lens" "kind" "I", Cond.fieldLink RX2 175 "PutBack$Lens" "quoted" "[B", Cond.methodLink RX2 169 yX2_await, Cond.instanceMethod yX2_await, Cond.selects RX2 yX2_await yX2_await, Cond.code yX2_await cX2_await 7 none, Cond.methodLink RX2 166 yJ7_copyOf_59c91, Cond.static yJ7_copyOf_59c91, Cond.code yJ7_copyOf_59c91 cJ7_copyOf_59c91 3 (some (.array .int)), Cond.methodLink RJ7 316 ⟨"[I", "clone", "()Ljava/lang/Object;"⟩, Cond.sameMethod "[I" "java/lang/Object" "clone" "()Ljava/lang/Object;", Cond.selects "[I" ⟨"[I", "clone", "()Ljava/lang/Object;"⟩ ⟨"java/lang/Object", "clone", "()Ljava/lang/Object;"⟩, Cond.classLink RJ7 317 "[I", Cond.methodLink RX2 178 yX2_splitRow, Cond.instanceMethod yX2_splitRow, Cond.selects RX2 yX2_splitRow yX2_splitRow, Cond.code yX2_splitRow cX2_splitRow 11 (some .boolean), Cond.fieldLink RX2 194 "PutBack$Lens" "kids" "[LPutBack$Lens;", Cond.fieldLink RX2 197 "PutBack$Lens" "order" "[I", Cond.fieldLink RX2 100 "PutBack$Lens" "view" "LPutBack$TextSet;", Cond.methodLink RX2 200 yX7_runEnd, Cond.methodLink RX2 181 yX2_awaitAsSeen]
def wsL_law_r48 : List Cond := [Cond.instanceMethod yX2_awaitAsSeen, Cond.selects RX2 yX2_awaitAsSeen yX2_awaitAsSeen, Cond.code yX2_awaitAsSeen cX2_awaitAsSeen 4 (some .boolean), Cond.methodLink RX2 185 yX2_showBranch, Cond.instanceMethod yX2_showBranch, Cond.selects RX2 yX2_showBranch yX2_showBranch, Cond.code yX2_showBranch cX2_showBranch 6 (some .boolean), Cond.methodLink RX2 188 yX2_showPart, Cond.instanceMethod yX2_showPart, Cond.selects RX2 yX2_showPart yX2_showPart, Cond.code yX2_showPart cX2_showPart 6 (some .boolean), Cond.methodLink RX2 107 yX1_firstKid, Cond.instanceMethod yX1_firstKid, Cond.selects RX1 yX1_firstKid yX1_firstKid, Cond.code yX1_firstKid cX1_firstKid 1 (some (.object "PutBack$Lens")), Cond.methodLink RX2 191 yX2_answerThen, Cond.instanceMethod yX2_answerThen, Cond.selects RX2 yX2_answerThen yX2_answerThen, Cond.code yX2_answerThen cX2_answerThen 11 (some .boolean), Cond.fieldLink RX2 204 "PutBack$Lens" "oneToOne" "Z", Cond.fieldLink RX2 208 "PutBack$Lens" "simpler" "LPutBack$Lens;", Cond.fieldLink RX2 212 "PutBack$Lens" "weight" "I", Cond.fieldLink RX2 221 "PutBack$Lens" "stepwise" "Z", Cond.fieldLink RX2 228 "PutBack$Words" "told" "[B"]
def wsL_law_r49 : List Cond := [Cond.fieldLink RX2 239 "PutBack$Recall" "told" "[B", Cond.fieldLink RX2 240 "PutBack$Recall" "length" "I", Cond.methodLink RX2 215 yX2_showLinks, Cond.instanceMethod yX2_showLinks, Cond.selects RX2 yX2_showLinks yX2_showLinks, Cond.methodLink RX2 218 yX2_backLinks, Cond.instanceMethod yX2_backLinks, Cond.selects RX2 yX2_backLinks yX2_backLinks, Cond.methodLink RX2 224 yX10_run, Cond.instanceMethod yX10_run, Cond.selects RX10 yX10_run yX10_run, Cond.code yX10_run cX10_run 10 (some .boolean), Cond.fieldLink RX10 61 "PutBack$Words" "failed" "Z", Cond.fieldLink RX10 65 "PutBack$Words" "stacked" "I", Cond.fieldLink RX10 69 "PutBack$Words" "symbol" "I", Cond.methodLink RX10 80 Lib.Math.max.name, Cond.methodLink RX10 86 arraycopyName, Cond.methodLink RX10 50 yX10_begin, Cond.instanceMethod yX10_begin, Cond.selects RX10 yX10_begin yX10_begin, Cond.code yX10_begin cX10_begin 1 none, Cond.fieldLink RX10 92 "PutBack$Words" "time" "I", Cond.fieldLink RX10 95 "PutBack$Words" "nodes" "I", Cond.fieldLink RX10 98 "PutBack$Words" "atoms" "I"]
def wsL_law_r50 : List Cond := [Cond.fieldLink RX10 101 "PutBack$Words" "answered" "I", Cond.methodLink RX10 104 yJ7_fill_53178, Cond.static yJ7_fill_53178, Cond.code yJ7_fill_53178 cJ7_fill_53178 4 none, Cond.methodLink RX10 53 yX10_rootOf, Cond.instanceMethod yX10_rootOf, Cond.selects RX10 yX10_rootOf yX10_rootOf, Cond.code yX10_rootOf cX10_rootOf 9 (some .int), Cond.fieldLink RX10 110 "PutBack$Lens" "shownBy" "I", Cond.fieldLink RX10 113 "PutBack$Lens" "madeBy" "I", Cond.fieldLink RX10 116 "PutBack$Lens" "time" "I", Cond.fieldLink RX10 117 "PutBack$Lens" "kids" "[LPutBack$Lens;", Cond.fieldLink RX10 120 "PutBack$Lens" "kind" "I", Cond.methodLink RX10 125 yX10_atomOf, Cond.instanceMethod yX10_atomOf, Cond.selects RX10 yX10_atomOf yX10_atomOf, Cond.code yX10_atomOf cX10_atomOf 12 (some .int), Cond.fieldLink RX10 128 "PutBack$Lens" "source" "LPutBack$TextSet;", Cond.fieldLink RX10 132 "PutBack$Lens" "view" "LPutBack$TextSet;", Cond.fieldLink RX10 139 "PutBack$TextSet" "count" "I", Cond.fieldLink RX10 142 "PutBack$TextSet" "behind" "[J", Cond.fieldLink RX10 145 "PutBack$TextSet" "first" "J", Cond.constantLong RX10 154 (-1), Cond.fieldLink RX10 156 "PutBack$Lens" "kept" "J"]
def wsL_law_r51 : List Cond := [Cond.methodLink RX10 135 yX10_stateLike, Cond.static yX10_stateLike, Cond.code yX10_stateLike cX10_stateLike 5 (some .int), Cond.methodLink RX10 148 yJ13_bitCount_95d88, Cond.methodLink RX10 57 yX10_push, Cond.instanceMethod yX10_push, Cond.selects RX10 yX10_push yX10_push, Cond.code yX10_push cX10_push 12 none, Cond.methodLink RX10 72 yX10_gather, Cond.instanceMethod yX10_gather, Cond.selects RX10 yX10_gather yX10_gather, Cond.code yX10_gather cX10_gather 12 (some .int), Cond.constantLong RX10 159 (-7046029254386353131), Cond.constantLong RX10 161 (-4417276706812531889), Cond.methodLink RX10 76 yX10_through, Cond.instanceMethod yX10_through, Cond.selects RX10 yX10_through yX10_through, Cond.code yX10_through cX10_through 8 (some .int), Cond.methodLink RX10 163 yX10_answerPlace, Cond.instanceMethod yX10_answerPlace, Cond.selects RX10 yX10_answerPlace yX10_answerPlace, Cond.code yX10_answerPlace cX10_answerPlace 4 (some .int), Cond.methodLink RX10 166 yX10_stepOf, Cond.instanceMethod yX10_stepOf]
def wsL_law_r52 : List Cond := [Cond.selects RX10 yX10_stepOf yX10_stepOf, Cond.code yX10_stepOf cX10_stepOf 11 (some .int), Cond.fieldLink RX10 173 "PutBack$TextSet" "allowed" "[J", Cond.methodLink RX10 169 yX10_power, Cond.instanceMethod yX10_power, Cond.selects RX10 yX10_power yX10_power, Cond.code yX10_power cX10_power 14 none, Cond.methodLink RX10 176 yX10_throughWord, Cond.instanceMethod yX10_throughWord, Cond.selects RX10 yX10_throughWord yX10_throughWord, Cond.code yX10_throughWord cX10_throughWord 9 (some .int), Cond.methodLink RX2 231 yX5_ask, Cond.instanceMethod yX5_ask, Cond.selects RX5 yX5_ask yX5_ask, Cond.code yX5_ask cX5_ask 10 none, Cond.fieldLink RX5 22 "PutBack$Lens" "number" "I", Cond.fieldLink RX5 28 "PutBack$Recall" "numbers" "I", Cond.constantLong RX5 31 (4), Cond.constantLong RX5 37 (-7046029254386353131), Cond.methodLink RX5 33 yX5_pack, Cond.static yX5_pack, Cond.code yX5_pack cX5_pack 7 none, Cond.methodLink RX5 39 Lib.Math.min.name, Cond.methodLink RX2 235 yX5_isKnown]
def wsL_law_r53 : List Cond := [Cond.instanceMethod yX5_isKnown, Cond.selects RX5 yX5_isKnown yX5_isKnown, Cond.code yX5_isKnown cX5_isKnown 5 (some .boolean), Cond.fieldLink RX5 49 "PutBack$Recall" "length" "I", Cond.constantLong RX5 52 (63), Cond.methodLink RX5 45 yX5_rowOf, Cond.instanceMethod yX5_rowOf, Cond.selects RX5 yX5_rowOf yX5_rowOf, Cond.code yX5_rowOf cX5_rowOf 7 (some .int), Cond.fieldLink RX5 54 "PutBack$Recall" "buckets" "I", Cond.methodLink RX5 66 Lib.Math.max.name, Cond.methodLink RX2 241 yX5_makeRoom, Cond.instanceMethod yX5_makeRoom, Cond.selects RX5 yX5_makeRoom yX5_makeRoom, Cond.code yX5_makeRoom cX5_makeRoom 4 none, Cond.methodLink RX5 57 arraycopyName, Cond.methodLink RX2 244 yX5_keep, Cond.instanceMethod yX5_keep, Cond.selects RX5 yX5_keep yX5_keep, Cond.code yX5_keep cX5_keep 5 none, Cond.fieldLink RX5 63 "PutBack$Recall" "turn" "I", Cond.constantLong RX5 69 (-1), Cond.code yX2_askKeys cX2_askKeys 9 (some .boolean), Cond.fieldLink RX2 115 "PutBack$Parts" "count" "I"]
def wsL_law_r54 : List Cond := [Cond.fieldLink RX2 135 "PutBack$Parts" "from" "[I", Cond.fieldLink RX2 138 "PutBack$Parts" "to" "[I", Cond.fieldLink RX2 276 "PutBack$Parts" "keyFrom" "[I", Cond.fieldLink RX2 279 "PutBack$Parts" "keyTo" "[I", Cond.methodLink RX2 111 yX3_split, Cond.instanceMethod yX3_split, Cond.selects RX3 yX3_split yX3_split, Cond.code yX3_split cX3_split 7 (some .boolean), Cond.fieldLink RX3 27 "PutBack$Parts" "count" "I", Cond.methodLink RX3 31 yX7_runEnd, Cond.methodLink RX2 273 yX2_markTop, Cond.instanceMethod yX2_markTop, Cond.selects RX2 yX2_markTop yX2_markTop, Cond.code yX2_markTop cX2_markTop 1 none, Cond.methodLink RX2 141 yX2_gatherKey, Cond.instanceMethod yX2_gatherKey, Cond.selects RX2 yX2_gatherKey yX2_gatherKey, Cond.code yX2_gatherKey cX2_gatherKey 9 (some .boolean), Cond.fieldLink RX2 286 "PutBack$Lens" "hasKey" "Z", Cond.methodLink RX2 288 yX2_keyBranch, Cond.instanceMethod yX2_keyBranch, Cond.selects RX2 yX2_keyBranch yX2_keyBranch, Cond.code yX2_keyBranch cX2_keyBranch 7 (some .boolean), Cond.fieldLink RX2 269 "PutBack$Lens" "same" "[Z"]
def wsL_law_r55 : List Cond := [Cond.methodLink RX2 263 yX2_backPart, Cond.instanceMethod yX2_backPart, Cond.selects RX2 yX2_backPart yX2_backPart, Cond.code yX2_backPart cX2_backPart 10 (some .boolean), Cond.methodLink RX2 291 yX2_keyThen, Cond.instanceMethod yX2_keyThen, Cond.selects RX2 yX2_keyThen yX2_keyThen, Cond.code yX2_keyThen cX2_keyThen 4 (some .boolean), Cond.fieldLink RX2 294 "PutBack$Lens" "lastLink" "LPutBack$Lens;", Cond.methodLink RX2 247 yX2_settle, Cond.instanceMethod yX2_settle, Cond.selects RX2 yX2_settle yX2_settle, Cond.code yX2_settle cX2_settle 4 none, Cond.code yX2_back cX2_back 15 (some .boolean), Cond.methodLink RX2 251 yX2_backDeleted, Cond.instanceMethod yX2_backDeleted, Cond.selects RX2 yX2_backDeleted yX2_backDeleted, Cond.code yX2_backDeleted cX2_backDeleted 4 none, Cond.methodLink RX2 255 yX2_backRow, Cond.instanceMethod yX2_backRow, Cond.selects RX2 yX2_backRow yX2_backRow, Cond.code yX2_backRow cX2_backRow 6 (some .boolean), Cond.methodLink RX2 259 yX2_backBranch, Cond.instanceMethod yX2_backBranch]
def wsL_law_r56 : List Cond := [Cond.selects RX2 yX2_backBranch yX2_backBranch, Cond.code yX2_backBranch cX2_backBranch 11 (some .boolean), Cond.methodLink RX2 125 yX2_askKeys, Cond.instanceMethod yX2_askKeys, Cond.selects RX2 yX2_askKeys yX2_askKeys, Cond.methodLink RX2 128 yX2_alignParts, Cond.instanceMethod yX2_alignParts, Cond.selects RX2 yX2_alignParts yX2_alignParts, Cond.code yX2_alignParts cX2_alignParts 8 (some .boolean), Cond.fieldLink RX2 132 "PutBack$Parts" "partner" "[I", Cond.methodLink RX2 282 yX3_hasKey, Cond.instanceMethod yX3_hasKey, Cond.selects RX3 yX3_hasKey yX3_hasKey, Cond.code yX3_hasKey cX3_hasKey 7 (some .boolean), Cond.methodLink RX2 266 yX2_backAligned, Cond.instanceMethod yX2_backAligned, Cond.selects RX2 yX2_backAligned yX2_backAligned, Cond.code yX2_backAligned cX2_backAligned 8 (some .boolean), Cond.code yX2_backLinks cX2_backLinks 18 (some .boolean), Cond.methodLink RX2 103 yX2_back, Cond.instanceMethod yX2_back, Cond.selects RX2 yX2_back yX2_back, Cond.code yX2_showLinks cX2_showLinks 10 (some .boolean), Cond.methodLink RX2 97 yX6_fill]
def wsL_law_r57 : List Cond := [Cond.instanceMethod yX6_fill, Cond.selects RX6 yX6_fill yX6_fill, Cond.code yX6_fill cX6_fill 4 none, Cond.methodLink RX6 15 arraycopyName, Cond.fieldLink RX6 21 "PutBack$Text" "length" "I", Cond.methodLink RL 50 yX12_get, Cond.instanceMethod yX12_get, Cond.selects RX12 yX12_get yX12_get, Cond.code yX12_get cX12_get 6 (some .int), Cond.methodLink RX12 245 yX12_shows, Cond.instanceMethod yX12_shows, Cond.selects RX12 yX12_shows yX12_shows, Cond.code yX12_shows cX12_shows 8 (some .boolean), Cond.methodLink RX12 235 yX12_putsAll, Cond.instanceMethod yX12_putsAll, Cond.selects RX12 yX12_putsAll yX12_putsAll, Cond.code yX12_putsAll cX12_putsAll 4 none, Cond.methodLink RX12 238 yX12_putsWord, Cond.instanceMethod yX12_putsWord, Cond.selects RX12 yX12_putsWord yX12_putsWord, Cond.code yX12_putsWord cX12_putsWord 3 none, Cond.methodLink RX12 241 yX12_partedAt, Cond.instanceMethod yX12_partedAt, Cond.selects RX12 yX12_partedAt yX12_partedAt]
def wsL_law_r58 : List Cond := [Cond.code yX12_partedAt cX12_partedAt 6 (some .int), Cond.methodLink RX12 248 yX12_isShort, Cond.instanceMethod yX12_isShort, Cond.selects RX12 yX12_isShort yX12_isShort, Cond.code yX12_isShort cX12_isShort 2 (some .boolean), Cond.methodLink RX12 252 yX12_showsThen, Cond.instanceMethod yX12_showsThen, Cond.selects RX12 yX12_showsThen yX12_showsThen, Cond.methodLink RX12 256 yX12_showsParts, Cond.instanceMethod yX12_showsParts, Cond.selects RX12 yX12_showsParts yX12_showsParts, Cond.code yX12_showsParts cX12_showsParts 8 (some .boolean), Cond.methodLink RX12 259 yX12_firstPart, Cond.instanceMethod yX12_firstPart, Cond.selects RX12 yX12_firstPart yX12_firstPart, Cond.code yX12_firstPart cX12_firstPart 6 (some .int), Cond.code yX12_showsThen cX12_showsThen 7 (some .boolean), Cond.methodLink RX12 262 yX12_moves, Cond.instanceMethod yX12_moves, Cond.selects RX12 yX12_moves yX12_moves, Cond.code yX12_moves cX12_moves 5 none, Cond.methodLink RX12 535 yX12_takes, Cond.instanceMethod yX12_takes, Cond.selects RX12 yX12_takes yX12_takes]
def wsL_law_r59 : List Cond := [Cond.code yX12_takes cX12_takes 5 (some .int), Cond.methodLink RL 51 yX11_put, Cond.instanceMethod yX11_put, Cond.selects RX11 yX11_put yX11_put, Cond.code yX11_put cX11_put 9 (some .int), Cond.methodLink RX11 113 yX2_putsBack, Cond.instanceMethod yX2_putsBack, Cond.selects RX2 yX2_putsBack yX2_putsBack, Cond.code yX2_putsBack cX2_putsBack 7 (some .boolean), Cond.methodLink RL 55 yX12_put, Cond.instanceMethod yX12_put, Cond.selects RX12 yX12_put yX12_put, Cond.code yX12_put cX12_put 8 (some .int), Cond.methodLink RX12 275 yX12_putsBack, Cond.instanceMethod yX12_putsBack, Cond.selects RX12 yX12_putsBack yX12_putsBack, Cond.code yX12_putsBack cX12_putsBack 9 (some .boolean), Cond.methodLink RX12 271 yX12_putsRow, Cond.instanceMethod yX12_putsRow, Cond.selects RX12 yX12_putsRow yX12_putsRow, Cond.methodLink RX12 278 yX12_makes, Cond.instanceMethod yX12_makes, Cond.selects RX12 yX12_makes yX12_makes, Cond.code yX12_makes cX12_makes 8 (some .boolean)]
def wsL_law_r60 : List Cond := [Cond.methodLink RX12 312 yX12_makesThen, Cond.instanceMethod yX12_makesThen, Cond.selects RX12 yX12_makesThen yX12_makesThen, Cond.methodLink RX12 315 yX12_makesParts, Cond.instanceMethod yX12_makesParts, Cond.selects RX12 yX12_makesParts yX12_makesParts, Cond.code yX12_makesParts cX12_makesParts 7 (some .boolean), Cond.code yX12_makesThen cX12_makesThen 7 (some .boolean), Cond.methodLink RX12 281 yX12_putsThen, Cond.instanceMethod yX12_putsThen, Cond.selects RX12 yX12_putsThen yX12_putsThen, Cond.methodLink RX12 285 yX12_putsParts, Cond.instanceMethod yX12_putsParts, Cond.selects RX12 yX12_putsParts yX12_putsParts, Cond.methodLink RX12 288 yX12_putsKeyed, Cond.instanceMethod yX12_putsKeyed, Cond.selects RX12 yX12_putsKeyed yX12_putsKeyed, Cond.code yX12_putsByKeys cX12_putsByKeys 16 (some .boolean), Cond.methodLink RX12 268 yX12_putsKey, Cond.instanceMethod yX12_putsKey, Cond.selects RX12 yX12_putsKey yX12_putsKey, Cond.code yX12_putsKey cX12_putsKey 8 none, Cond.methodLink RX12 309 yX12_keyed, Cond.instanceMethod yX12_keyed]
def wsL_law_r61 : List Cond := [Cond.selects RX12 yX12_keyed yX12_keyed, Cond.code yX12_keyed cX12_keyed 6 (some .int), Cond.methodLink RX12 297 yX12_areLike, Cond.instanceMethod yX12_areLike, Cond.selects RX12 yX12_areLike yX12_areLike, Cond.code yX12_areLike cX12_areLike 7 (some .boolean), Cond.code yX12_putsKeyed cX12_putsKeyed 9 (some .boolean), Cond.methodLink RX12 300 yX12_laysSources, Cond.instanceMethod yX12_laysSources, Cond.selects RX12 yX12_laysSources yX12_laysSources, Cond.code yX12_laysSources cX12_laysSources 6 (some .boolean), Cond.methodLink RX12 294 yX12_asksKey, Cond.instanceMethod yX12_asksKey, Cond.selects RX12 yX12_asksKey yX12_asksKey, Cond.code yX12_asksKey cX12_asksKey 5 (some .boolean), Cond.methodLink RX12 303 yX12_putsByKeys, Cond.instanceMethod yX12_putsByKeys, Cond.selects RX12 yX12_putsByKeys yX12_putsByKeys, Cond.code yX12_putsParts cX12_putsParts 13 (some .boolean), Cond.code yX12_putsRow cX12_putsRow 15 (some .boolean), Cond.code yX12_putsThen cX12_putsThen 10 (some .boolean), Cond.methodLink RL 56 yX11_create, Cond.instanceMethod yX11_create, Cond.selects RX11 yX11_create yX11_create]
def wsL_law_r62 : List Cond := [Cond.code yX11_create cX11_create 7 (some .int), Cond.methodLink RL 59 yX12_create, Cond.instanceMethod yX12_create, Cond.selects RX12 yX12_create yX12_create, Cond.code yX12_create cX12_create 6 (some .int), Cond.methodLink RL 60 yX11_many, Cond.instanceMethod yX11_many, Cond.selects RX11 yX11_many yX11_many, Cond.code yX11_many cX11_many 5 (some .long), Cond.constantLong RX11 117 (-1), Cond.methodLink RX11 119 yX9_textsOf, Cond.instanceMethod yX9_textsOf, Cond.selects RX9 yX9_textsOf yX9_textsOf, Cond.code yX9_textsOf cX9_textsOf 3 (some .long), Cond.fieldLink RX9 66 "PutBack$TextSet" "hasEmpty" "Z", Cond.fieldLink RX9 74 "PutBack$TextSet" "first" "J", Cond.methodLink RX9 70 yX9_countUpTo, Cond.instanceMethod yX9_countUpTo, Cond.selects RX9 yX9_countUpTo yX9_countUpTo, Cond.code yX9_countUpTo cX9_countUpTo 4 none, Cond.fieldLink RX9 90 "PutBack$Walker" "counted" "LPutBack$TextSet;", Cond.fieldLink RX9 94 "PutBack$Walker" "rows" "I", Cond.fieldLink RX9 97 "PutBack$TextSet" "last" "J", Cond.fieldLink RX9 104 "PutBack$TextSet" "behind" "[J"]
def wsL_law_r63 : List Cond := [Cond.methodLink RX9 78 yX9_sumOver, Cond.instanceMethod yX9_sumOver, Cond.selects RX9 yX9_sumOver yX9_sumOver, Cond.code yX9_sumOver cX9_sumOver 10 (some .long), Cond.constantLong RX9 107 (1000000000000000000), Cond.methodLink RX9 113 Lib.MathLoose.min_long.x, Cond.static Lib.MathLoose.min_long.x, Cond.code Lib.MathLoose.min_long.x Lib.MathLoose.min_long.code 4 (some .long), Cond.methodLink RX9 109 yX9_times, Cond.static yX9_times, Cond.code yX9_times cX9_times 5 (some .long), Cond.methodLink RX9 123 Lib.Math.max.name, Cond.methodLink RX9 118 yJ13_bitCount_95d88, Cond.methodLink RL 64 yX12_many, Cond.instanceMethod yX12_many, Cond.selects RX12 yX12_many yX12_many, Cond.code yX12_many cX12_many 4 (some .long), Cond.constantLong RX12 538 (20), Cond.constantLong RX12 540 (-1), Cond.methodLink RX12 214 yX12_laysWays, Cond.instanceMethod yX12_laysWays, Cond.selects RX12 yX12_laysWays yX12_laysWays, Cond.code yX12_laysWays cX12_laysWays 11 none, Cond.methodLink RX12 207 yX12_count]
def wsL_law_r64 : List Cond := [Cond.instanceMethod yX12_count, Cond.selects RX12 yX12_count yX12_count, Cond.code yX12_count cX12_count 5 (some .int), Cond.methodLink RX12 210 yX12_more, Cond.instanceMethod yX12_more, Cond.selects RX12 yX12_more yX12_more, Cond.code yX12_more cX12_more 6 (some .long), Cond.constantLong RX12 205 (1000000000000000000), Cond.methodLink RL 65 yX11_nth, Cond.instanceMethod yX11_nth, Cond.selects RX11 yX11_nth yX11_nth, Cond.code yX11_nth cX11_nth 7 (some .int), Cond.methodLink RX11 123 yX9_find, Cond.instanceMethod yX9_find, Cond.selects RX9 yX9_find yX9_find, Cond.code yX9_find cX9_find 9 (some .boolean), Cond.methodLink RX9 82 yX9_textsOf, Cond.methodLink RX9 86 yX9_spell, Cond.instanceMethod yX9_spell, Cond.selects RX9 yX9_spell yX9_spell, Cond.code yX9_spell cX9_spell 15 none, Cond.fieldLink RX9 133 "PutBack$Text" "ranks" "[B", Cond.fieldLink RX9 139 "PutBack$Text" "length" "I", Cond.methodLink RX9 130 yX7_step]
def wsL_law_r65 : List Cond := [Cond.instanceMethod yX7_step, Cond.selects RX7 yX7_step yX7_step, Cond.code yX7_step cX7_step 6 (some .int), Cond.methodLink RX7 66 yX7_positionsBehind, Cond.methodLink RL 68 yX12_nth, Cond.instanceMethod yX12_nth, Cond.selects RX12 yX12_nth yX12_nth, Cond.code yX12_nth cX12_nth 5 (some .int), Cond.constantLong RX12 542 (999), Cond.methodLink RX12 544 yX12_nthText, Cond.instanceMethod yX12_nthText, Cond.selects RX12 yX12_nthText yX12_nthText, Cond.code yX12_nthText cX12_nthText 15 (some .int), Cond.methodLink RL 69 yX11_compare, Cond.instanceMethod yX11_compare, Cond.selects RX11 yX11_compare yX11_compare, Cond.code yX11_compare cX11_compare 7 (some .int), Cond.methodLink RX11 127 yX9_relation, Cond.methodLink RL 72 yX12_compare, Cond.instanceMethod yX12_compare, Cond.selects RX12 yX12_compare yX12_compare, Cond.code yX12_compare cX12_compare 5 (some .int), Cond.methodLink RL 73 yX11_set, Cond.instanceMethod yX11_set]
def wsL_law_r66 : List Cond := [Cond.selects RX11 yX11_set yX11_set, Cond.code yX11_set cX11_set 5 (some .int), Cond.fieldLink RX11 131 "PutBack$TextSet" "count" "I", Cond.fieldLink RX11 134 "PutBack$TextSet" "first" "J", Cond.fieldLink RX11 144 "PutBack$TextSet" "last" "J", Cond.fieldLink RX11 147 "PutBack$TextSet" "hasEmpty" "Z", Cond.methodLink RL 76 yX12_set, Cond.instanceMethod yX12_set, Cond.selects RX12 yX12_set yX12_set, Cond.code yX12_set cX12_set 5 (some .int), Cond.methodLink RL 77 yX11_goesOn, Cond.instanceMethod yX11_goesOn, Cond.selects RX11 yX11_goesOn yX11_goesOn, Cond.code yX11_goesOn cX11_goesOn 11 (some .int), Cond.methodLink RX11 151 yX7_stateBehind, Cond.instanceMethod yX7_stateBehind, Cond.selects RX7 yX7_stateBehind yX7_stateBehind, Cond.code yX7_stateBehind cX7_stateBehind 4 (some .int), Cond.methodLink RX7 98 yX7_step, Cond.methodLink RX11 155 yX7_positionsBehind, Cond.methodLink RX11 159 yX7_signsOf, Cond.methodLink RX11 163 yX11_lowest, Cond.methodLink RL 80 yX12_goesOn, Cond.instanceMethod yX12_goesOn]
def wsL_law_r67 : List Cond := [Cond.selects RX12 yX12_goesOn yX12_goesOn, Cond.code yX12_goesOn cX12_goesOn 12 (some .int), Cond.methodLink RL 81 yX11_parts, Cond.instanceMethod yX11_parts, Cond.selects RX11 yX11_parts yX11_parts, Cond.code yX11_parts cX11_parts 5 (some .int), Cond.methodLink RX11 166 yX11_repeatedOf, Cond.static yX11_repeatedOf, Cond.code yX11_repeatedOf cX11_repeatedOf 3 (some (.object "PutBack$Lens")), Cond.fieldLink RX11 174 "PutBack$Lens" "kind" "I", Cond.fieldLink RX11 278 "PutBack$Lens" "lastLink" "LPutBack$Lens;", Cond.methodLink RX11 170 yX2_countParts, Cond.instanceMethod yX2_countParts, Cond.selects RX2 yX2_countParts yX2_countParts, Cond.code yX2_countParts cX2_countParts 4 (some .int), Cond.methodLink RL 84 yX12_parts, Cond.instanceMethod yX12_parts, Cond.selects RX12 yX12_parts yX12_parts, Cond.code yX12_parts cX12_parts 4 (some .int), Cond.methodLink RX12 556 yX12_isRepeated, Cond.instanceMethod yX12_isRepeated, Cond.selects RX12 yX12_isRepeated yX12_isRepeated, Cond.code yX12_isRepeated cX12_isRepeated 4 (some .boolean), Cond.methodLink RX12 553 yX12_outermost]
def wsL_law_r68 : List Cond := [Cond.instanceMethod yX12_outermost, Cond.selects RX12 yX12_outermost yX12_outermost, Cond.code yX12_outermost cX12_outermost 3 (some .int), Cond.methodLink RX12 559 yX12_partsOf, Cond.instanceMethod yX12_partsOf, Cond.selects RX12 yX12_partsOf yX12_partsOf, Cond.code yX12_partsOf cX12_partsOf 8 (some .int), Cond.fieldLink RX12 547 "PutBackModel" "partHow" "I", Cond.fieldLink RX12 550 "PutBackModel" "partAt" "I", Cond.methodLink RL 85 yX11_aligned, Cond.instanceMethod yX11_aligned, Cond.selects RX11 yX11_aligned yX11_aligned, Cond.code yX11_aligned cX11_aligned 8 (some .int), Cond.methodLink RX11 179 yX2_partInto, Cond.instanceMethod yX2_partInto, Cond.selects RX2 yX2_partInto yX2_partInto, Cond.code yX2_partInto cX2_partInto 8 (some .int), Cond.methodLink RX2 118 yX2_countParts, Cond.methodLink RL 88 yX12_aligned, Cond.instanceMethod yX12_aligned, Cond.selects RX12 yX12_aligned yX12_aligned, Cond.code yX12_aligned cX12_aligned 8 (some .int), Cond.methodLink RX12 562 yX12_keyedInto, Cond.instanceMethod yX12_keyedInto]
def wsL_law_r69 : List Cond := [Cond.selects RX12 yX12_keyedInto yX12_keyedInto, Cond.code yX12_keyedInto cX12_keyedInto 11 (some .int), Cond.methodLink RL 89 yX11_key, Cond.instanceMethod yX11_key, Cond.selects RX11 yX11_key yX11_key, Cond.code yX11_key cX11_key 8 (some .int), Cond.methodLink RX11 183 yX2_partKey, Cond.instanceMethod yX2_partKey, Cond.selects RX2 yX2_partKey yX2_partKey, Cond.code yX2_partKey cX2_partKey 8 (some .boolean), Cond.methodLink RL 92 yX12_key, Cond.instanceMethod yX12_key, Cond.selects RX12 yX12_key yX12_key, Cond.code yX12_key cX12_key 7 (some .int), Cond.methodLink RL 93 yX11_laws, Cond.instanceMethod yX11_laws, Cond.selects RX11 yX11_laws yX11_laws, Cond.code yX11_laws cX11_laws 5 (some .int), Cond.methodLink RX11 187 yX8_gather, Cond.instanceMethod yX8_gather, Cond.selects RX8 yX8_gather yX8_gather, Cond.code yX8_gather cX8_gather 4 none, Cond.fieldLink RX8 32 "PutBack$Trial" "sourceCount" "I", Cond.fieldLink RX8 36 "PutBack$Trial" "viewCount" "I"]
def wsL_law_r70 : List Cond := [Cond.fieldLink RX8 39 "PutBack$Lens" "source" "LPutBack$TextSet;", Cond.fieldLink RX8 51 "PutBack$Lens" "view" "LPutBack$TextSet;", Cond.methodLink RX8 45 yX9_find, Cond.methodLink RX11 191 yX8_brokenShown, Cond.instanceMethod yX8_brokenShown, Cond.selects RX8 yX8_brokenShown yX8_brokenShown, Cond.code yX8_brokenShown cX8_brokenShown 6 (some .int), Cond.methodLink RX8 54 yX2_shows, Cond.methodLink RX8 60 yX2_putsBack, Cond.methodLink RX8 64 yX6_isLike, Cond.instanceMethod yX6_isLike, Cond.selects RX6 yX6_isLike yX6_isLike, Cond.code yX6_isLike cX6_isLike 4 (some .boolean), Cond.methodLink RX11 195 yX8_brokenPut, Cond.instanceMethod yX8_brokenPut, Cond.selects RX8 yX8_brokenPut yX8_brokenPut, Cond.code yX8_brokenPut cX8_brokenPut 7 (some .int), Cond.methodLink RX11 198 yX8_brokenTwice, Cond.instanceMethod yX8_brokenTwice, Cond.selects RX8 yX8_brokenTwice yX8_brokenTwice, Cond.code yX8_brokenTwice cX8_brokenTwice 8 (some .int), Cond.methodLink RX11 201 yX8_brokenAnew, Cond.instanceMethod yX8_brokenAnew, Cond.selects RX8 yX8_brokenAnew yX8_brokenAnew]
def wsL_law_r71 : List Cond := [Cond.code yX8_brokenAnew cX8_brokenAnew 6 (some .int), Cond.methodLink RL 96 yX12_laws, Cond.instanceMethod yX12_laws, Cond.selects RX12 yX12_laws yX12_laws, Cond.code yX12_laws cX12_laws 10 (some .int), Cond.constantLong RX12 575 (3), Cond.constantLong RX12 577 (5), Cond.methodLink RX12 579 yX12_laysLeast, Cond.instanceMethod yX12_laysLeast, Cond.selects RX12 yX12_laysLeast yX12_laysLeast, Cond.code yX12_laysLeast cX12_laysLeast 8 (some .int), Cond.methodLink RX12 582 yX12_brokenBy, Cond.instanceMethod yX12_brokenBy, Cond.selects RX12 yX12_brokenBy yX12_brokenBy, Cond.code yX12_brokenBy cX12_brokenBy 12 (some .int), Cond.methodLink RX12 565 yX12_holdsPut, Cond.instanceMethod yX12_holdsPut, Cond.selects RX12 yX12_holdsPut yX12_holdsPut, Cond.code yX12_holdsPut cX12_holdsPut 8 (some .boolean), Cond.methodLink RX12 568 yX12_settles, Cond.instanceMethod yX12_settles, Cond.selects RX12 yX12_settles yX12_settles, Cond.code yX12_settles cX12_settles 2 none, Cond.methodLink RX12 571 yX12_holdsTwice]
def wsL_law_r72 : List Cond := [Cond.instanceMethod yX12_holdsTwice, Cond.selects RX12 yX12_holdsTwice yX12_holdsTwice, Cond.code yX12_holdsTwice cX12_holdsTwice 11 (some .boolean), Cond.methodLink RX12 585 yX12_holdsShown, Cond.instanceMethod yX12_holdsShown, Cond.selects RX12 yX12_holdsShown yX12_holdsShown, Cond.code yX12_holdsShown cX12_holdsShown 6 (some .boolean), Cond.methodLink RX12 588 yX12_holdsAnew, Cond.instanceMethod yX12_holdsAnew, Cond.selects RX12 yX12_holdsAnew yX12_holdsAnew, Cond.code yX12_holdsAnew cX12_holdsAnew 6 (some .boolean), Cond.methodLink RL 97 yX11_open, Cond.instanceMethod yX11_open, Cond.selects RX11 yX11_open yX11_open, Cond.code yX11_open cX11_open 5 (some .int), Cond.fieldLink RX11 208 "PutBack$Desk" "view" "LPutBack$Text;", Cond.methodLink RX11 204 yX0_begin, Cond.instanceMethod yX0_begin, Cond.selects RX0 yX0_begin yX0_begin, Cond.code yX0_begin cX0_begin 5 (some .boolean), Cond.fieldLink RX0 44 "PutBack$Desk" "lens" "LPutBack$Lens;", Cond.fieldLink RX0 48 "PutBack$Desk" "kept" "I", Cond.fieldLink RX0 51 "PutBack$Desk" "refused" "I", Cond.fieldLink RX0 54 "PutBack$Desk" "hasMoved" "Z"]
def wsL_law_r73 : List Cond := [Cond.methodLink RX0 38 yX2_shows, Cond.methodLink RX0 58 yX6_become, Cond.instanceMethod yX6_become, Cond.selects RX6 yX6_become yX6_become, Cond.code yX6_become cX6_become 2 none, Cond.methodLink RX6 25 yX6_fill, Cond.methodLink RL 100 yX12_open, Cond.instanceMethod yX12_open, Cond.selects RX12 yX12_open yX12_open, Cond.code yX12_open cX12_open 5 (some .int), Cond.fieldLink RX12 594 "PutBackModel" "undos" "I", Cond.fieldLink RX12 597 "PutBackModel" "nones" "I", Cond.fieldLink RX12 600 "PutBackModel" "isMoved" "Z", Cond.methodLink RX12 591 yX12_takesSide, Cond.instanceMethod yX12_takesSide, Cond.selects RX12 yX12_takesSide yX12_takesSide, Cond.code yX12_takesSide cX12_takesSide 5 none, Cond.methodLink RL 101 yX11_edit, Cond.instanceMethod yX11_edit, Cond.selects RX11 yX11_edit yX11_edit, Cond.code yX11_edit cX11_edit 7 (some .int), Cond.fieldLink RX11 212 "PutBack$Desk" "lens" "LPutBack$Lens;", Cond.fieldLink RX11 220 "PutBack$Desk" "refused" "I", Cond.methodLink RX11 216 yX0_change]
def wsL_law_r74 : List Cond := [Cond.instanceMethod yX0_change, Cond.selects RX0 yX0_change yX0_change, Cond.code yX0_change cX0_change 9 (some .boolean), Cond.methodLink RX0 62 yX0_textOf, Cond.instanceMethod yX0_textOf, Cond.selects RX0 yX0_textOf yX0_textOf, Cond.code yX0_textOf cX0_textOf 2 (some (.object "PutBack$Text")), Cond.methodLink RX0 66 yX6_splice, Cond.instanceMethod yX6_splice, Cond.selects RX6 yX6_splice yX6_splice, Cond.code yX6_splice cX6_splice 6 (some .boolean), Cond.methodLink RX6 29 yX6_reaches, Cond.instanceMethod yX6_reaches, Cond.selects RX6 yX6_reaches yX6_reaches, Cond.code yX6_reaches cX6_reaches 3 (some .boolean), Cond.methodLink RX0 70 yX2_putsBack, Cond.methodLink RX0 74 yX0_keep, Cond.instanceMethod yX0_keep, Cond.selects RX0 yX0_keep yX0_keep, Cond.code yX0_keep cX0_keep 1 none, Cond.fieldLink RX0 81 "PutBack$Desk" "newest" "I", Cond.methodLink RX0 84 Lib.Math.min.name, Cond.methodLink RX0 77 yX0_noteMoved, Cond.instanceMethod yX0_noteMoved]
def wsL_law_r75 : List Cond := [Cond.selects RX0 yX0_noteMoved yX0_noteMoved, Cond.code yX0_noteMoved cX0_noteMoved 6 none, Cond.fieldLink RX0 90 "PutBack$Text" "length" "I", Cond.fieldLink RX0 93 "PutBack$Text" "ranks" "[B", Cond.fieldLink RX0 97 "PutBack$Desk" "stayed" "I", Cond.fieldLink RX0 100 "PutBack$Desk" "went" "I", Cond.fieldLink RX0 103 "PutBack$Desk" "came" "I", Cond.methodLink RX11 223 yX0_textOf, Cond.methodLink RL 104 yX12_edit, Cond.instanceMethod yX12_edit, Cond.selects RX12 yX12_edit yX12_edit, Cond.code yX12_edit cX12_edit 7 (some .int), Cond.methodLink RX12 612 yX12_edited, Cond.instanceMethod yX12_edited, Cond.selects RX12 yX12_edited yX12_edited, Cond.code yX12_edited cX12_edited 12 (some .int), Cond.methodLink RX12 603 yX12_laysSide, Cond.instanceMethod yX12_laysSide, Cond.selects RX12 yX12_laysSide yX12_laysSide, Cond.code yX12_laysSide cX12_laysSide 4 (some .int), Cond.methodLink RX12 606 yX12_keepsSides, Cond.instanceMethod yX12_keepsSides, Cond.selects RX12 yX12_keepsSides yX12_keepsSides, Cond.code yX12_keepsSides cX12_keepsSides 2 none]
def wsL_law_r76 : List Cond := [Cond.methodLink RX12 609 yX12_laysMoved, Cond.instanceMethod yX12_laysMoved, Cond.selects RX12 yX12_laysMoved yX12_laysMoved, Cond.code yX12_laysMoved cX12_laysMoved 7 none, Cond.methodLink RL 105 yX11_undo, Cond.instanceMethod yX11_undo, Cond.selects RX11 yX11_undo yX11_undo, Cond.code yX11_undo cX11_undo 1 (some .boolean), Cond.methodLink RX11 226 yX0_takeBack, Cond.instanceMethod yX0_takeBack, Cond.selects RX0 yX0_takeBack yX0_takeBack, Cond.code yX0_takeBack cX0_takeBack 1 (some .boolean), Cond.methodLink RL 109 yX12_undo, Cond.instanceMethod yX12_undo, Cond.selects RX12 yX12_undo yX12_undo, Cond.code yX12_undo cX12_undo 2 (some .boolean), Cond.methodLink RL 110 yX11_copy, Cond.instanceMethod yX11_copy, Cond.selects RX11 yX11_copy yX11_copy, Cond.code yX11_copy cX11_copy 4 (some .int), Cond.methodLink RX11 229 yX6_become, Cond.methodLink RL 113 yX12_copy, Cond.instanceMethod yX12_copy, Cond.selects RX12 yX12_copy yX12_copy]
def wsL_law_r77 : List Cond := [Cond.code yX12_copy cX12_copy 3 (some .int), Cond.methodLink RL 114 yX11_moved, Cond.instanceMethod yX11_moved, Cond.selects RX11 yX11_moved yX11_moved, Cond.code yX11_moved cX11_moved 2 (some .int), Cond.fieldLink RX11 232 "PutBack$Desk" "hasMoved" "Z", Cond.fieldLink RX11 235 "PutBack$Desk" "stayed" "I", Cond.fieldLink RX11 238 "PutBack$Desk" "went" "I", Cond.fieldLink RX11 241 "PutBack$Desk" "came" "I", Cond.methodLink RL 117 yX12_moved, Cond.instanceMethod yX12_moved, Cond.selects RX12 yX12_moved yX12_moved, Cond.code yX12_moved cX12_moved 2 (some .int), Cond.constantLong RX12 615 (2), Cond.methodLink RL 118 yX11_join, Cond.instanceMethod yX11_join, Cond.selects RX11 yX11_join yX11_join, Cond.code yX11_join cX11_join 7 (some .int), Cond.fieldLink RX11 244 "PutBack$Desk" "spare" "LPutBack$Text;", Cond.methodLink RX11 247 yX6_splice, Cond.methodLink RL 121 yX12_join, Cond.instanceMethod yX12_join, Cond.selects RX12 yX12_join yX12_join, Cond.code yX12_join cX12_join 5 (some .int)]
def wsL_law_r78 : List Cond := [Cond.methodLink RL 122 yX11_cut, Cond.instanceMethod yX11_cut, Cond.selects RX11 yX11_cut yX11_cut, Cond.code yX11_cut cX11_cut 7 (some .int), Cond.methodLink RX11 251 yX6_reaches, Cond.methodLink RX11 255 yX6_fill, Cond.methodLink RL 125 yX12_cut, Cond.instanceMethod yX12_cut, Cond.selects RX12 yX12_cut yX12_cut, Cond.code yX12_cut cX12_cut 7 (some .int), Cond.methodLink RL 126 yX11_look, Cond.instanceMethod yX11_look, Cond.selects RX11 yX11_look yX11_look, Cond.code yX11_look cX11_look 2 (some .int), Cond.fieldLink RX11 262 "PutBack$Desk" "number" "I", Cond.fieldLink RX11 265 "PutBack$Desk" "kept" "I", Cond.methodLink RL 129 yX12_look, Cond.instanceMethod yX12_look, Cond.selects RX12 yX12_look yX12_look, Cond.code yX12_look cX12_look 2 (some .int)]
def wsL_law : List Cond := (wsL_law_r1 ++ (wsL_law_r2 ++ (wsL_law_r3 ++ (wsL_law_r4 ++ (wsL_law_r5 ++ (wsL_law_r6 ++ (wsL_law_r7 ++ (wsL_law_r8 ++ (wsL_law_r9 ++ (wsL_law_r10 ++ (wsL_law_r11 ++ (wsL_law_r12 ++ (wsL_law_r13 ++ (wsL_law_r14 ++ (wsL_law_r15 ++ (wsL_law_r16 ++ (wsL_law_r17 ++ (wsL_law_r18 ++ (wsL_law_r19 ++ (wsL_law_r20 ++ (wsL_law_r21 ++ (wsL_law_r22 ++ (wsL_law_r23 ++ (wsL_law_r24 ++ (wsL_law_r25 ++ (wsL_law_r26 ++ (wsL_law_r27 ++ (wsL_law_r28 ++ (wsL_law_r29 ++ (wsL_law_r30 ++ (wsL_law_r31 ++ (wsL_law_r32 ++ (wsL_law_r33 ++ (wsL_law_r34 ++ (wsL_law_r35 ++ (wsL_law_r36 ++ (wsL_law_r37 ++ (wsL_law_r38 ++ (wsL_law_r39 ++ (wsL_law_r40 ++ (wsL_law_r41 ++ (wsL_law_r42 ++ (wsL_law_r43 ++ (wsL_law_r44 ++ (wsL_law_r45 ++ (wsL_law_r46 ++ (wsL_law_r47 ++ (wsL_law_r48 ++ (wsL_law_r49 ++ (wsL_law_r50 ++ (wsL_law_r51 ++ (wsL_law_r52 ++ (wsL_law_r53 ++ (wsL_law_r54 ++ (wsL_law_r55 ++ (wsL_law_r56 ++ (wsL_law_r57 ++ (wsL_law_r58 ++ (wsL_law_r59 ++ (wsL_law_r60 ++ (wsL_law_r61 ++ (wsL_law_r62 ++ (wsL_law_r63 ++ (wsL_law_r64 ++ (wsL_law_r65 ++ (wsL_law_r66 ++ (wsL_law_r67 ++ (wsL_law_r68 ++ (wsL_law_r69 ++ (wsL_law_r70 ++ (wsL_law_r71 ++ (wsL_law_r72 ++ (wsL_law_r73 ++ (wsL_law_r74 ++ (wsL_law_r75 ++ (wsL_law_r76 ++ (wsL_law_r77 ++ wsL_law_r78))))))))))))))))))))))))))))))))))))))))))))))))))))))))))))))))))))))))))))) ++ wsX110 ++ wsX120 ++ wsX90 ++ wsX40 ++ wsX20 ++ wsX80 ++ wsX00 ++ wsX60 ++ wsX100 ++ wsX50 ++ wsX30 ++ wsX10 ++ wsX70 ++ ([] : List Cond)
set_option maxRecDepth 20000 in
theorem wsL_law_in : ∀ w ∈ wsL_law, w ∈ lw_tbl := fun w h => (goodIn_p wsL_law [229, 232, 239, 266, 324, 331, 394, 424, 504, 510, 558, 1735, 641, 645, 2192, 649, 2196, 1952, 653, 657, 661, 665, 669, 673, 677, 682, 686, 690, 696, 700, 703, 706, 711, 714, 717, 720, 724, 740, 746, 750, 754, 1111, 936, 899, 1115, 1118, 1122, 1126, 1132, 895, 1136, 906, 909, 903, 915, 1140, 809, 939, 812, 816, 924, 1144, 955, 1097, 766, 1103, 892, 1106, 947, 928, 762, 770, 774, 778, 782, 786, 790, 943, 794, 798, 801, 804, 861, 865, 869, 881, 884, 888, 920, 877, 932, 873, 950, 1051, 1055, 1059, 1074, 758, 1082, 1085, 1089, 1094, 1078, 1149, 1152, 1155, 1159, 1164, 1168, 1173, 1177, 1181, 1185, 1190, 1194, 1198, 1201, 1205, 1209, 1212, 1218, 1246, 1250, 1223, 1226, 1229, 1232, 1238, 1243, 1938, 1942, 1946, 1957, 1961, 1966, 1970, 1982, 1986, 1990, 1994, 1998, 2002, 2006, 2180, 2184, 2152, 2092, 2144, 2148, 2076, 2112, 2084, 2088, 2096, 2100, 2116, 2048, 2108, 2128, 2018, 2022, 2080, 2124, 2026, 2030, 2034, 2040, 2044, 2052, 2056, 2060, 2120, 2064, 2068, 2072, 2104, 2132, 2136, 2140, 2156, 2168, 2172, 2176, 2014, 2010, 2164, 2160, 1255, 2188, 1259, 1263, 1267, 1271, 2200, 2204, 1276, 2209, 1281, 1285, 1289, 1293, 2213, 2217, 2221, 2225, 2229, 2233, 2237, 1298, 1302, 1307, 1311, 1317, 1321, 1324, 1334, 1339, 1343, 1347, 1351, 1355, 1428, 1432, 1435, 1439, 1443, 1446, 1452, 1456, 1462, 1466, 1470, 1474, 1478, 1484, 1488, 1494, 1498, 1504, 1509, 1395, 1399, 1371, 1404, 1408, 1391, 1412, 1363, 1375, 1379, 1383, 1387, 1416, 1420, 1424, 1367, 1359, 1514, 2241, 2245, 2249, 2253, 2257, 2261, 2273, 2277, 2265, 2269, 2281, 1519, 1523, 2285, 2289, 2297, 2305, 2301, 2333, 2329, 2337, 2341, 2317, 2321, 2325, 2313, 2293, 2309, 1527, 2345, 1531, 1536, 1540, 1545, 1554, 1549, 2349, 2355, 2359, 2363, 1558, 1562, 1567, 1572, 2368, 2373, 1577, 2377, 1582, 2381, 1586, 1590, 2385, 1598, 1601, 1605, 2389, 2393, 2397, 2401, 1609, 1613, 2405, 2409, 1618, 1622, 2413, 1626, 1630, 1635, 1641, 1645, 1649, 1653, 2417, 2423, 2427, 2431, 2435, 2439, 2443, 2447, 1657, 1661, 1666, 2451, 2455, 1671, 1675, 1679, 1683, 1687, 1692, 1697, 2459, 2463, 2467, 2471, 2475, 1702, 1706, 2479, 1710, 2483, 1715, 2487, 1719, 2492, 1724, 2496, 1730, 2500] (by decide +kernel) (by decide +kernel) w h).1
theorem inlX0 : ∀ w ∈ wsX00, w ∈ wsL_law := fun _ h => List.mem_append_left _ (List.mem_append_left _ (List.mem_append_left _ (List.mem_append_left _ (List.mem_append_left _ (List.mem_append_left _ (List.mem_append_left _ (List.mem_append_right _ h)))))))
theorem inlX1 : ∀ w ∈ wsX10, w ∈ wsL_law := fun _ h => List.mem_append_left _ (List.mem_append_left _ (List.mem_append_right _ h))
theorem inlX2 : ∀ w ∈ wsX20, w ∈ wsL_law := fun _ h => List.mem_append_left _ (List.mem_append_left _ (List.mem_append_left _ (List.mem_append_left _ (List.mem_append_left _ (List.mem_append_left _ (List.mem_append_left _ (List.mem_append_left _ (List.mem_append_left _ (List.mem_append_right _ h)))))))))
theorem inlX3 : ∀ w ∈ wsX30, w ∈ wsL_law := fun _ h => List.mem_append_left _ (List.mem_append_left _ (List.mem_append_left _ (List.mem_append_right _ h)))
theorem inlX4 : ∀ w ∈ wsX40, w ∈ wsL_law := fun _ h => List.mem_append_left _ (List.mem_append_left _ (List.mem_append_left _ (List.mem_append_left _ (List.mem_append_left _ (List.mem_append_left _ (List.mem_append_left _ (List.mem_append_left _ (List.mem_append_left _ (List.mem_append_left _ (List.mem_append_right _ h))))))))))
theorem inlX5 : ∀ w ∈ wsX50, w ∈ wsL_law := fun _ h => List.mem_append_left _ (List.mem_append_left _ (List.mem_append_left _ (List.mem_append_left _ (List.mem_append_right _ h))))
theorem inlX6 : ∀ w ∈ wsX60, w ∈ wsL_law := fun _ h => List.mem_append_left _ (List.mem_append_left _ (List.mem_append_left _ (List.mem_append_left _ (List.mem_append_left _ (List.mem_append_left _ (List.mem_append_right _ h))))))
theorem inlX7 : ∀ w ∈ wsX70, w ∈ wsL_law := fun _ h => List.mem_append_left _ (List.mem_append_right _ h)
theorem inlX8 : ∀ w ∈ wsX80, w ∈ wsL_law := fun _ h => List.mem_append_left _ (List.mem_append_left _ (List.mem_append_left _ (List.mem_append_left _ (List.mem_append_left _ (List.mem_append_left _ (List.mem_append_left _ (List.mem_append_left _ (List.mem_append_right _ h))))))))
theorem inlX9 : ∀ w ∈ wsX90, w ∈ wsL_law := fun _ h => List.mem_append_left _ (List.mem_append_left _ (List.mem_append_left _ (List.mem_append_left _ (List.mem_append_left _ (List.mem_append_left _ (List.mem_append_left _ (List.mem_append_left _ (List.mem_append_left _ (List.mem_append_left _ (List.mem_append_left _ (List.mem_append_right _ h)))))))))))
theorem inlX10 : ∀ w ∈ wsX100, w ∈ wsL_law := fun _ h => List.mem_append_left _ (List.mem_append_left _ (List.mem_append_left _ (List.mem_append_left _ (List.mem_append_left _ (List.mem_append_right _ h)))))
theorem inlX11 : ∀ w ∈ wsX110, w ∈ wsL_law := fun _ h => List.mem_append_left _ (List.mem_append_left _ (List.mem_append_left _ (List.mem_append_left _ (List.mem_append_left _ (List.mem_append_left _ (List.mem_append_left _ (List.mem_append_left _ (List.mem_append_left _ (List.mem_append_left _ (List.mem_append_left _ (List.mem_append_left _ (List.mem_append_left _ (List.mem_append_right _ h)))))))))))))
theorem inlX12 : ∀ w ∈ wsX120, w ∈ wsL_law := fun _ h => List.mem_append_left _ (List.mem_append_left _ (List.mem_append_left _ (List.mem_append_left _ (List.mem_append_left _ (List.mem_append_left _ (List.mem_append_left _ (List.mem_append_left _ (List.mem_append_left _ (List.mem_append_left _ (List.mem_append_left _ (List.mem_append_left _ (List.mem_append_right _ h))))))))))))
theorem dL_law_18 : decode cL_law 18 = .ok (.iload_n 3, 1) := by decide +kernel
theorem dL_law_19 : decode cL_law 19 = .ok (.aload_n 0, 1) := by decide +kernel
theorem dL_law_20 : decode cL_law 20 = .ok (.arraylength, 1) := by decide +kernel
theorem dL_law_21 : decode cL_law 21 = .ok (.bipush 6, 2) := by decide +kernel
theorem dL_law_23 : decode cL_law 23 = .ok (.isub, 1) := by decide +kernel
theorem dL_law_24 : decode cL_law 24 = .ok (.if_icmp .gt 1200, 3) := by decide +kernel
theorem dL_law_156 : decode cL_law 156 = .ok (.aload_n 1, 1) := by decide +kernel
theorem dL_law_157 : decode cL_law 157 = .ok (.aload_n 0, 1) := by decide +kernel
theorem dL_law_158 : decode cL_law 158 = .ok (.iload_n 3, 1) := by decide +kernel
theorem dL_law_159 : decode cL_law 159 = .ok (.iconst 1, 1) := by decide +kernel
theorem dL_law_160 : decode cL_law 160 = .ok (.iadd, 1) := by decide +kernel
theorem dL_law_161 : decode cL_law 161 = .ok (.iaload, 1) := by decide +kernel
theorem dL_law_162 : decode cL_law 162 = .ok (.aload_n 0, 1) := by decide +kernel
theorem dL_law_163 : decode cL_law 163 = .ok (.iload_n 3, 1) := by decide +kernel
theorem dL_law_164 : decode cL_law 164 = .ok (.iconst 2, 1) := by decide +kernel
theorem dL_law_165 : decode cL_law 165 = .ok (.iadd, 1) := by decide +kernel
theorem dL_law_166 : decode cL_law 166 = .ok (.iaload, 1) := by decide +kernel
theorem dL_law_167 : decode cL_law 167 = .ok (.aload_n 0, 1) := by decide +kernel
theorem dL_law_168 : decode cL_law 168 = .ok (.iload_n 3, 1) := by decide +kernel
theorem dL_law_169 : decode cL_law 169 = .ok (.iconst 3, 1) := by decide +kernel
theorem dL_law_170 : decode cL_law 170 = .ok (.iadd, 1) := by decide +kernel
theorem dL_law_171 : decode cL_law 171 = .ok (.iaload, 1) := by decide +kernel
theorem dL_law_172 : decode cL_law 172 = .ok (.aload_n 0, 1) := by decide +kernel
theorem dL_law_173 : decode cL_law 173 = .ok (.iload_n 3, 1) := by decide +kernel
theorem dL_law_174 : decode cL_law 174 = .ok (.iconst 4, 1) := by decide +kernel
theorem dL_law_175 : decode cL_law 175 = .ok (.iadd, 1) := by decide +kernel
theorem dL_law_176 : decode cL_law 176 = .ok (.iaload, 1) := by decide +kernel
theorem dL_law_177 : decode cL_law 177 = .ok (.aload_n 0, 1) := by decide +kernel
theorem dL_law_178 : decode cL_law 178 = .ok (.iload_n 3, 1) := by decide +kernel
theorem dL_law_179 : decode cL_law 179 = .ok (.iconst 5, 1) := by decide +kernel
theorem dL_law_180 : decode cL_law 180 = .ok (.iadd, 1) := by decide +kernel
theorem dL_law_181 : decode cL_law 181 = .ok (.iaload, 1) := by decide +kernel
theorem dL_law_182 : decode cL_law 182 = .ok (.invokevirtual 13, 3) := by decide +kernel
theorem dL_law_185 : decode cL_law 185 = .ok (.aload_n 2, 1) := by decide +kernel
theorem dL_law_186 : decode cL_law 186 = .ok (.aload_n 0, 1) := by decide +kernel
theorem dL_law_187 : decode cL_law 187 = .ok (.iload_n 3, 1) := by decide +kernel
theorem dL_law_188 : decode cL_law 188 = .ok (.iconst 1, 1) := by decide +kernel
theorem dL_law_189 : decode cL_law 189 = .ok (.iadd, 1) := by decide +kernel
theorem dL_law_190 : decode cL_law 190 = .ok (.iaload, 1) := by decide +kernel
theorem dL_law_191 : decode cL_law 191 = .ok (.aload_n 0, 1) := by decide +kernel
theorem dL_law_192 : decode cL_law 192 = .ok (.iload_n 3, 1) := by decide +kernel
theorem dL_law_193 : decode cL_law 193 = .ok (.iconst 2, 1) := by decide +kernel
theorem dL_law_194 : decode cL_law 194 = .ok (.iadd, 1) := by decide +kernel
theorem dL_law_195 : decode cL_law 195 = .ok (.iaload, 1) := by decide +kernel
theorem dL_law_196 : decode cL_law 196 = .ok (.aload_n 0, 1) := by decide +kernel
theorem dL_law_197 : decode cL_law 197 = .ok (.iload_n 3, 1) := by decide +kernel
theorem dL_law_198 : decode cL_law 198 = .ok (.iconst 3, 1) := by decide +kernel
theorem dL_law_199 : decode cL_law 199 = .ok (.iadd, 1) := by decide +kernel
theorem dL_law_200 : decode cL_law 200 = .ok (.iaload, 1) := by decide +kernel
theorem dL_law_201 : decode cL_law 201 = .ok (.aload_n 0, 1) := by decide +kernel
theorem dL_law_202 : decode cL_law 202 = .ok (.iload_n 3, 1) := by decide +kernel
theorem dL_law_203 : decode cL_law 203 = .ok (.iconst 4, 1) := by decide +kernel
theorem dL_law_204 : decode cL_law 204 = .ok (.iadd, 1) := by decide +kernel
theorem dL_law_205 : decode cL_law 205 = .ok (.iaload, 1) := by decide +kernel
theorem dL_law_206 : decode cL_law 206 = .ok (.aload_n 0, 1) := by decide +kernel
theorem dL_law_207 : decode cL_law 207 = .ok (.iload_n 3, 1) := by decide +kernel
theorem dL_law_208 : decode cL_law 208 = .ok (.iconst 5, 1) := by decide +kernel
theorem dL_law_209 : decode cL_law 209 = .ok (.iadd, 1) := by decide +kernel
theorem dL_law_210 : decode cL_law 210 = .ok (.iaload, 1) := by decide +kernel
theorem dL_law_211 : decode cL_law 211 = .ok (.invokevirtual 17, 3) := by decide +kernel
theorem dL_law_214 : decode cL_law 214 = .ok (.if_icmp .eq 1004, 3) := by decide +kernel
theorem dL_law_219 : decode cL_law 219 = .ok (.aload_n 1, 1) := by decide +kernel
theorem dL_law_220 : decode cL_law 220 = .ok (.aload_n 0, 1) := by decide +kernel
theorem dL_law_221 : decode cL_law 221 = .ok (.iload_n 3, 1) := by decide +kernel
theorem dL_law_222 : decode cL_law 222 = .ok (.iconst 1, 1) := by decide +kernel
theorem dL_law_223 : decode cL_law 223 = .ok (.iadd, 1) := by decide +kernel
theorem dL_law_224 : decode cL_law 224 = .ok (.iaload, 1) := by decide +kernel
theorem dL_law_225 : decode cL_law 225 = .ok (.invokevirtual 18, 3) := by decide +kernel
theorem dL_law_228 : decode cL_law 228 = .ok (.aload_n 2, 1) := by decide +kernel
theorem dL_law_229 : decode cL_law 229 = .ok (.aload_n 0, 1) := by decide +kernel
theorem dL_law_230 : decode cL_law 230 = .ok (.iload_n 3, 1) := by decide +kernel
theorem dL_law_231 : decode cL_law 231 = .ok (.iconst 1, 1) := by decide +kernel
theorem dL_law_232 : decode cL_law 232 = .ok (.iadd, 1) := by decide +kernel
theorem dL_law_233 : decode cL_law 233 = .ok (.iaload, 1) := by decide +kernel
theorem dL_law_234 : decode cL_law 234 = .ok (.invokevirtual 22, 3) := by decide +kernel
theorem dL_law_237 : decode cL_law 237 = .ok (.if_icmp .eq 981, 3) := by decide +kernel
theorem dL_law_242 : decode cL_law 242 = .ok (.aload_n 1, 1) := by decide +kernel
theorem dL_law_243 : decode cL_law 243 = .ok (.invokevirtual 23, 3) := by decide +kernel
theorem dL_law_246 : decode cL_law 246 = .ok (.aload_n 2, 1) := by decide +kernel
theorem dL_law_247 : decode cL_law 247 = .ok (.invokevirtual 27, 3) := by decide +kernel
theorem dL_law_250 : decode cL_law 250 = .ok (.if_icmp .eq 968, 3) := by decide +kernel
theorem dL_law_255 : decode cL_law 255 = .ok (.aload_n 1, 1) := by decide +kernel
theorem dL_law_256 : decode cL_law 256 = .ok (.aload_n 0, 1) := by decide +kernel
theorem dL_law_257 : decode cL_law 257 = .ok (.iload_n 3, 1) := by decide +kernel
theorem dL_law_258 : decode cL_law 258 = .ok (.iconst 1, 1) := by decide +kernel
theorem dL_law_259 : decode cL_law 259 = .ok (.iadd, 1) := by decide +kernel
theorem dL_law_260 : decode cL_law 260 = .ok (.iaload, 1) := by decide +kernel
theorem dL_law_261 : decode cL_law 261 = .ok (.invokevirtual 28, 3) := by decide +kernel
theorem dL_law_264 : decode cL_law 264 = .ok (.aload_n 2, 1) := by decide +kernel
theorem dL_law_265 : decode cL_law 265 = .ok (.aload_n 0, 1) := by decide +kernel
theorem dL_law_266 : decode cL_law 266 = .ok (.iload_n 3, 1) := by decide +kernel
theorem dL_law_267 : decode cL_law 267 = .ok (.iconst 1, 1) := by decide +kernel
theorem dL_law_268 : decode cL_law 268 = .ok (.iadd, 1) := by decide +kernel
theorem dL_law_269 : decode cL_law 269 = .ok (.iaload, 1) := by decide +kernel
theorem dL_law_270 : decode cL_law 270 = .ok (.invokevirtual 32, 3) := by decide +kernel
theorem dL_law_273 : decode cL_law 273 = .ok (.if_icmp .eq 945, 3) := by decide +kernel
theorem dL_law_334 : decode cL_law 334 = .ok (.aload_n 1, 1) := by decide +kernel
theorem dL_law_335 : decode cL_law 335 = .ok (.aload_n 0, 1) := by decide +kernel
theorem dL_law_336 : decode cL_law 336 = .ok (.iload_n 3, 1) := by decide +kernel
theorem dL_law_337 : decode cL_law 337 = .ok (.iconst 1, 1) := by decide +kernel
theorem dL_law_338 : decode cL_law 338 = .ok (.iadd, 1) := by decide +kernel
theorem dL_law_339 : decode cL_law 339 = .ok (.iaload, 1) := by decide +kernel
theorem dL_law_340 : decode cL_law 340 = .ok (.aload_n 0, 1) := by decide +kernel
theorem dL_law_341 : decode cL_law 341 = .ok (.iload_n 3, 1) := by decide +kernel
theorem dL_law_342 : decode cL_law 342 = .ok (.iconst 2, 1) := by decide +kernel
theorem dL_law_343 : decode cL_law 343 = .ok (.iadd, 1) := by decide +kernel
theorem dL_law_344 : decode cL_law 344 = .ok (.iaload, 1) := by decide +kernel
theorem dL_law_345 : decode cL_law 345 = .ok (.aload_n 0, 1) := by decide +kernel
theorem dL_law_346 : decode cL_law 346 = .ok (.iload_n 3, 1) := by decide +kernel
theorem dL_law_347 : decode cL_law 347 = .ok (.iconst 3, 1) := by decide +kernel
theorem dL_law_348 : decode cL_law 348 = .ok (.iadd, 1) := by decide +kernel
theorem dL_law_349 : decode cL_law 349 = .ok (.iaload, 1) := by decide +kernel
theorem dL_law_350 : decode cL_law 350 = .ok (.invokevirtual 42, 3) := by decide +kernel
theorem dL_law_353 : decode cL_law 353 = .ok (.aload_n 2, 1) := by decide +kernel
theorem dL_law_354 : decode cL_law 354 = .ok (.aload_n 0, 1) := by decide +kernel
theorem dL_law_355 : decode cL_law 355 = .ok (.iload_n 3, 1) := by decide +kernel
theorem dL_law_356 : decode cL_law 356 = .ok (.iconst 1, 1) := by decide +kernel
theorem dL_law_357 : decode cL_law 357 = .ok (.iadd, 1) := by decide +kernel
theorem dL_law_358 : decode cL_law 358 = .ok (.iaload, 1) := by decide +kernel
theorem dL_law_359 : decode cL_law 359 = .ok (.aload_n 0, 1) := by decide +kernel
theorem dL_law_360 : decode cL_law 360 = .ok (.iload_n 3, 1) := by decide +kernel
theorem dL_law_361 : decode cL_law 361 = .ok (.iconst 2, 1) := by decide +kernel
theorem dL_law_362 : decode cL_law 362 = .ok (.iadd, 1) := by decide +kernel
theorem dL_law_363 : decode cL_law 363 = .ok (.iaload, 1) := by decide +kernel
theorem dL_law_364 : decode cL_law 364 = .ok (.aload_n 0, 1) := by decide +kernel
theorem dL_law_365 : decode cL_law 365 = .ok (.iload_n 3, 1) := by decide +kernel
theorem dL_law_366 : decode cL_law 366 = .ok (.iconst 3, 1) := by decide +kernel
theorem dL_law_367 : decode cL_law 367 = .ok (.iadd, 1) := by decide +kernel
theorem dL_law_368 : decode cL_law 368 = .ok (.iaload, 1) := by decide +kernel
theorem dL_law_369 : decode cL_law 369 = .ok (.invokevirtual 46, 3) := by decide +kernel
theorem dL_law_372 : decode cL_law 372 = .ok (.if_icmp .eq 846, 3) := by decide +kernel
theorem dL_law_377 : decode cL_law 377 = .ok (.aload_n 1, 1) := by decide +kernel
theorem dL_law_378 : decode cL_law 378 = .ok (.aload_n 0, 1) := by decide +kernel
theorem dL_law_379 : decode cL_law 379 = .ok (.iload_n 3, 1) := by decide +kernel
theorem dL_law_380 : decode cL_law 380 = .ok (.iconst 1, 1) := by decide +kernel
theorem dL_law_381 : decode cL_law 381 = .ok (.iadd, 1) := by decide +kernel
theorem dL_law_382 : decode cL_law 382 = .ok (.iaload, 1) := by decide +kernel
theorem dL_law_383 : decode cL_law 383 = .ok (.aload_n 0, 1) := by decide +kernel
theorem dL_law_384 : decode cL_law 384 = .ok (.iload_n 3, 1) := by decide +kernel
theorem dL_law_385 : decode cL_law 385 = .ok (.iconst 2, 1) := by decide +kernel
theorem dL_law_386 : decode cL_law 386 = .ok (.iadd, 1) := by decide +kernel
theorem dL_law_387 : decode cL_law 387 = .ok (.iaload, 1) := by decide +kernel
theorem dL_law_388 : decode cL_law 388 = .ok (.aload_n 0, 1) := by decide +kernel
theorem dL_law_389 : decode cL_law 389 = .ok (.iload_n 3, 1) := by decide +kernel
theorem dL_law_390 : decode cL_law 390 = .ok (.iconst 3, 1) := by decide +kernel
theorem dL_law_391 : decode cL_law 391 = .ok (.iadd, 1) := by decide +kernel
theorem dL_law_392 : decode cL_law 392 = .ok (.iaload, 1) := by decide +kernel
theorem dL_law_393 : decode cL_law 393 = .ok (.invokevirtual 47, 3) := by decide +kernel
theorem dL_law_396 : decode cL_law 396 = .ok (.aload_n 2, 1) := by decide +kernel
theorem dL_law_397 : decode cL_law 397 = .ok (.aload_n 0, 1) := by decide +kernel
theorem dL_law_398 : decode cL_law 398 = .ok (.iload_n 3, 1) := by decide +kernel
theorem dL_law_399 : decode cL_law 399 = .ok (.iconst 1, 1) := by decide +kernel
theorem dL_law_400 : decode cL_law 400 = .ok (.iadd, 1) := by decide +kernel
theorem dL_law_401 : decode cL_law 401 = .ok (.iaload, 1) := by decide +kernel
theorem dL_law_402 : decode cL_law 402 = .ok (.aload_n 0, 1) := by decide +kernel
theorem dL_law_403 : decode cL_law 403 = .ok (.iload_n 3, 1) := by decide +kernel
theorem dL_law_404 : decode cL_law 404 = .ok (.iconst 2, 1) := by decide +kernel
theorem dL_law_405 : decode cL_law 405 = .ok (.iadd, 1) := by decide +kernel
theorem dL_law_406 : decode cL_law 406 = .ok (.iaload, 1) := by decide +kernel
theorem dL_law_407 : decode cL_law 407 = .ok (.aload_n 0, 1) := by decide +kernel
theorem dL_law_408 : decode cL_law 408 = .ok (.iload_n 3, 1) := by decide +kernel
theorem dL_law_409 : decode cL_law 409 = .ok (.iconst 3, 1) := by decide +kernel
theorem dL_law_410 : decode cL_law 410 = .ok (.iadd, 1) := by decide +kernel
theorem dL_law_411 : decode cL_law 411 = .ok (.iaload, 1) := by decide +kernel
theorem dL_law_412 : decode cL_law 412 = .ok (.invokevirtual 50, 3) := by decide +kernel
theorem dL_law_415 : decode cL_law 415 = .ok (.if_icmp .eq 803, 3) := by decide +kernel
theorem dL_law_420 : decode cL_law 420 = .ok (.aload_n 1, 1) := by decide +kernel
theorem dL_law_421 : decode cL_law 421 = .ok (.aload_n 0, 1) := by decide +kernel
theorem dL_law_422 : decode cL_law 422 = .ok (.iload_n 3, 1) := by decide +kernel
theorem dL_law_423 : decode cL_law 423 = .ok (.iconst 1, 1) := by decide +kernel
theorem dL_law_424 : decode cL_law 424 = .ok (.iadd, 1) := by decide +kernel
theorem dL_law_425 : decode cL_law 425 = .ok (.iaload, 1) := by decide +kernel
theorem dL_law_426 : decode cL_law 426 = .ok (.aload_n 0, 1) := by decide +kernel
theorem dL_law_427 : decode cL_law 427 = .ok (.iload_n 3, 1) := by decide +kernel
theorem dL_law_428 : decode cL_law 428 = .ok (.iconst 2, 1) := by decide +kernel
theorem dL_law_429 : decode cL_law 429 = .ok (.iadd, 1) := by decide +kernel
theorem dL_law_430 : decode cL_law 430 = .ok (.iaload, 1) := by decide +kernel
theorem dL_law_431 : decode cL_law 431 = .ok (.aload_n 0, 1) := by decide +kernel
theorem dL_law_432 : decode cL_law 432 = .ok (.iload_n 3, 1) := by decide +kernel
theorem dL_law_433 : decode cL_law 433 = .ok (.iconst 3, 1) := by decide +kernel
theorem dL_law_434 : decode cL_law 434 = .ok (.iadd, 1) := by decide +kernel
theorem dL_law_435 : decode cL_law 435 = .ok (.iaload, 1) := by decide +kernel
theorem dL_law_436 : decode cL_law 436 = .ok (.aload_n 0, 1) := by decide +kernel
theorem dL_law_437 : decode cL_law 437 = .ok (.iload_n 3, 1) := by decide +kernel
theorem dL_law_438 : decode cL_law 438 = .ok (.iconst 4, 1) := by decide +kernel
theorem dL_law_439 : decode cL_law 439 = .ok (.iadd, 1) := by decide +kernel
theorem dL_law_440 : decode cL_law 440 = .ok (.iaload, 1) := by decide +kernel
theorem dL_law_441 : decode cL_law 441 = .ok (.invokevirtual 51, 3) := by decide +kernel
theorem dL_law_444 : decode cL_law 444 = .ok (.aload_n 2, 1) := by decide +kernel
theorem dL_law_445 : decode cL_law 445 = .ok (.aload_n 0, 1) := by decide +kernel
theorem dL_law_446 : decode cL_law 446 = .ok (.iload_n 3, 1) := by decide +kernel
theorem dL_law_447 : decode cL_law 447 = .ok (.iconst 1, 1) := by decide +kernel
theorem dL_law_448 : decode cL_law 448 = .ok (.iadd, 1) := by decide +kernel
theorem dL_law_449 : decode cL_law 449 = .ok (.iaload, 1) := by decide +kernel
theorem dL_law_450 : decode cL_law 450 = .ok (.aload_n 0, 1) := by decide +kernel
theorem dL_law_451 : decode cL_law 451 = .ok (.iload_n 3, 1) := by decide +kernel
theorem dL_law_452 : decode cL_law 452 = .ok (.iconst 2, 1) := by decide +kernel
theorem dL_law_453 : decode cL_law 453 = .ok (.iadd, 1) := by decide +kernel
theorem dL_law_454 : decode cL_law 454 = .ok (.iaload, 1) := by decide +kernel
theorem dL_law_455 : decode cL_law 455 = .ok (.aload_n 0, 1) := by decide +kernel
theorem dL_law_456 : decode cL_law 456 = .ok (.iload_n 3, 1) := by decide +kernel
theorem dL_law_457 : decode cL_law 457 = .ok (.iconst 3, 1) := by decide +kernel
theorem dL_law_458 : decode cL_law 458 = .ok (.iadd, 1) := by decide +kernel
theorem dL_law_459 : decode cL_law 459 = .ok (.iaload, 1) := by decide +kernel
theorem dL_law_460 : decode cL_law 460 = .ok (.aload_n 0, 1) := by decide +kernel
theorem dL_law_461 : decode cL_law 461 = .ok (.iload_n 3, 1) := by decide +kernel
theorem dL_law_462 : decode cL_law 462 = .ok (.iconst 4, 1) := by decide +kernel
theorem dL_law_463 : decode cL_law 463 = .ok (.iadd, 1) := by decide +kernel
theorem dL_law_464 : decode cL_law 464 = .ok (.iaload, 1) := by decide +kernel
theorem dL_law_465 : decode cL_law 465 = .ok (.invokevirtual 55, 3) := by decide +kernel
theorem dL_law_468 : decode cL_law 468 = .ok (.if_icmp .eq 750, 3) := by decide +kernel
theorem dL_law_473 : decode cL_law 473 = .ok (.aload_n 1, 1) := by decide +kernel
theorem dL_law_474 : decode cL_law 474 = .ok (.aload_n 0, 1) := by decide +kernel
theorem dL_law_475 : decode cL_law 475 = .ok (.iload_n 3, 1) := by decide +kernel
theorem dL_law_476 : decode cL_law 476 = .ok (.iconst 1, 1) := by decide +kernel
theorem dL_law_477 : decode cL_law 477 = .ok (.iadd, 1) := by decide +kernel
theorem dL_law_478 : decode cL_law 478 = .ok (.iaload, 1) := by decide +kernel
theorem dL_law_479 : decode cL_law 479 = .ok (.aload_n 0, 1) := by decide +kernel
theorem dL_law_480 : decode cL_law 480 = .ok (.iload_n 3, 1) := by decide +kernel
theorem dL_law_481 : decode cL_law 481 = .ok (.iconst 2, 1) := by decide +kernel
theorem dL_law_482 : decode cL_law 482 = .ok (.iadd, 1) := by decide +kernel
theorem dL_law_483 : decode cL_law 483 = .ok (.iaload, 1) := by decide +kernel
theorem dL_law_484 : decode cL_law 484 = .ok (.aload_n 0, 1) := by decide +kernel
theorem dL_law_485 : decode cL_law 485 = .ok (.iload_n 3, 1) := by decide +kernel
theorem dL_law_486 : decode cL_law 486 = .ok (.iconst 3, 1) := by decide +kernel
theorem dL_law_487 : decode cL_law 487 = .ok (.iadd, 1) := by decide +kernel
theorem dL_law_488 : decode cL_law 488 = .ok (.iaload, 1) := by decide +kernel
theorem dL_law_489 : decode cL_law 489 = .ok (.invokevirtual 56, 3) := by decide +kernel
theorem dL_law_492 : decode cL_law 492 = .ok (.aload_n 2, 1) := by decide +kernel
theorem dL_law_493 : decode cL_law 493 = .ok (.aload_n 0, 1) := by decide +kernel
theorem dL_law_494 : decode cL_law 494 = .ok (.iload_n 3, 1) := by decide +kernel
theorem dL_law_495 : decode cL_law 495 = .ok (.iconst 1, 1) := by decide +kernel
theorem dL_law_496 : decode cL_law 496 = .ok (.iadd, 1) := by decide +kernel
theorem dL_law_497 : decode cL_law 497 = .ok (.iaload, 1) := by decide +kernel
theorem dL_law_498 : decode cL_law 498 = .ok (.aload_n 0, 1) := by decide +kernel
theorem dL_law_499 : decode cL_law 499 = .ok (.iload_n 3, 1) := by decide +kernel
theorem dL_law_500 : decode cL_law 500 = .ok (.iconst 2, 1) := by decide +kernel
theorem dL_law_501 : decode cL_law 501 = .ok (.iadd, 1) := by decide +kernel
theorem dL_law_502 : decode cL_law 502 = .ok (.iaload, 1) := by decide +kernel
theorem dL_law_503 : decode cL_law 503 = .ok (.aload_n 0, 1) := by decide +kernel
theorem dL_law_504 : decode cL_law 504 = .ok (.iload_n 3, 1) := by decide +kernel
theorem dL_law_505 : decode cL_law 505 = .ok (.iconst 3, 1) := by decide +kernel
theorem dL_law_506 : decode cL_law 506 = .ok (.iadd, 1) := by decide +kernel
theorem dL_law_507 : decode cL_law 507 = .ok (.iaload, 1) := by decide +kernel
theorem dL_law_508 : decode cL_law 508 = .ok (.invokevirtual 59, 3) := by decide +kernel
theorem dL_law_511 : decode cL_law 511 = .ok (.if_icmp .eq 707, 3) := by decide +kernel
theorem dL_law_516 : decode cL_law 516 = .ok (.aload_n 1, 1) := by decide +kernel
theorem dL_law_517 : decode cL_law 517 = .ok (.aload_n 0, 1) := by decide +kernel
theorem dL_law_518 : decode cL_law 518 = .ok (.iload_n 3, 1) := by decide +kernel
theorem dL_law_519 : decode cL_law 519 = .ok (.iconst 1, 1) := by decide +kernel
theorem dL_law_520 : decode cL_law 520 = .ok (.iadd, 1) := by decide +kernel
theorem dL_law_521 : decode cL_law 521 = .ok (.iaload, 1) := by decide +kernel
theorem dL_law_522 : decode cL_law 522 = .ok (.aload_n 0, 1) := by decide +kernel
theorem dL_law_523 : decode cL_law 523 = .ok (.iload_n 3, 1) := by decide +kernel
theorem dL_law_524 : decode cL_law 524 = .ok (.iconst 2, 1) := by decide +kernel
theorem dL_law_525 : decode cL_law 525 = .ok (.iadd, 1) := by decide +kernel
theorem dL_law_526 : decode cL_law 526 = .ok (.iaload, 1) := by decide +kernel
theorem dL_law_527 : decode cL_law 527 = .ok (.aload_n 0, 1) := by decide +kernel
theorem dL_law_528 : decode cL_law 528 = .ok (.iload_n 3, 1) := by decide +kernel
theorem dL_law_529 : decode cL_law 529 = .ok (.iconst 3, 1) := by decide +kernel
theorem dL_law_530 : decode cL_law 530 = .ok (.iadd, 1) := by decide +kernel
theorem dL_law_531 : decode cL_law 531 = .ok (.iaload, 1) := by decide +kernel
theorem dL_law_532 : decode cL_law 532 = .ok (.invokevirtual 60, 3) := by decide +kernel
theorem dL_law_535 : decode cL_law 535 = .ok (.aload_n 2, 1) := by decide +kernel
theorem dL_law_536 : decode cL_law 536 = .ok (.aload_n 0, 1) := by decide +kernel
theorem dL_law_537 : decode cL_law 537 = .ok (.iload_n 3, 1) := by decide +kernel
theorem dL_law_538 : decode cL_law 538 = .ok (.iconst 1, 1) := by decide +kernel
theorem dL_law_539 : decode cL_law 539 = .ok (.iadd, 1) := by decide +kernel
theorem dL_law_540 : decode cL_law 540 = .ok (.iaload, 1) := by decide +kernel
theorem dL_law_541 : decode cL_law 541 = .ok (.aload_n 0, 1) := by decide +kernel
theorem dL_law_542 : decode cL_law 542 = .ok (.iload_n 3, 1) := by decide +kernel
theorem dL_law_543 : decode cL_law 543 = .ok (.iconst 2, 1) := by decide +kernel
theorem dL_law_544 : decode cL_law 544 = .ok (.iadd, 1) := by decide +kernel
theorem dL_law_545 : decode cL_law 545 = .ok (.iaload, 1) := by decide +kernel
theorem dL_law_546 : decode cL_law 546 = .ok (.aload_n 0, 1) := by decide +kernel
theorem dL_law_547 : decode cL_law 547 = .ok (.iload_n 3, 1) := by decide +kernel
theorem dL_law_548 : decode cL_law 548 = .ok (.iconst 3, 1) := by decide +kernel
theorem dL_law_549 : decode cL_law 549 = .ok (.iadd, 1) := by decide +kernel
theorem dL_law_550 : decode cL_law 550 = .ok (.iaload, 1) := by decide +kernel
theorem dL_law_551 : decode cL_law 551 = .ok (.invokevirtual 64, 3) := by decide +kernel
theorem dL_law_554 : decode cL_law 554 = .ok (.lcmp, 1) := by decide +kernel
theorem dL_law_555 : decode cL_law 555 = .ok (.ifCond .eq 663, 3) := by decide +kernel
theorem dL_law_560 : decode cL_law 560 = .ok (.aload_n 1, 1) := by decide +kernel
theorem dL_law_561 : decode cL_law 561 = .ok (.aload_n 0, 1) := by decide +kernel
theorem dL_law_562 : decode cL_law 562 = .ok (.iload_n 3, 1) := by decide +kernel
theorem dL_law_563 : decode cL_law 563 = .ok (.iconst 1, 1) := by decide +kernel
theorem dL_law_564 : decode cL_law 564 = .ok (.iadd, 1) := by decide +kernel
theorem dL_law_565 : decode cL_law 565 = .ok (.iaload, 1) := by decide +kernel
theorem dL_law_566 : decode cL_law 566 = .ok (.aload_n 0, 1) := by decide +kernel
theorem dL_law_567 : decode cL_law 567 = .ok (.iload_n 3, 1) := by decide +kernel
theorem dL_law_568 : decode cL_law 568 = .ok (.iconst 2, 1) := by decide +kernel
theorem dL_law_569 : decode cL_law 569 = .ok (.iadd, 1) := by decide +kernel
theorem dL_law_570 : decode cL_law 570 = .ok (.iaload, 1) := by decide +kernel
theorem dL_law_571 : decode cL_law 571 = .ok (.aload_n 0, 1) := by decide +kernel
theorem dL_law_572 : decode cL_law 572 = .ok (.iload_n 3, 1) := by decide +kernel
theorem dL_law_573 : decode cL_law 573 = .ok (.iconst 3, 1) := by decide +kernel
theorem dL_law_574 : decode cL_law 574 = .ok (.iadd, 1) := by decide +kernel
theorem dL_law_575 : decode cL_law 575 = .ok (.iaload, 1) := by decide +kernel
theorem dL_law_576 : decode cL_law 576 = .ok (.aload_n 0, 1) := by decide +kernel
theorem dL_law_577 : decode cL_law 577 = .ok (.iload_n 3, 1) := by decide +kernel
theorem dL_law_578 : decode cL_law 578 = .ok (.iconst 4, 1) := by decide +kernel
theorem dL_law_579 : decode cL_law 579 = .ok (.iadd, 1) := by decide +kernel
theorem dL_law_580 : decode cL_law 580 = .ok (.iaload, 1) := by decide +kernel
theorem dL_law_581 : decode cL_law 581 = .ok (.invokevirtual 65, 3) := by decide +kernel
theorem dL_law_584 : decode cL_law 584 = .ok (.aload_n 2, 1) := by decide +kernel
theorem dL_law_585 : decode cL_law 585 = .ok (.aload_n 0, 1) := by decide +kernel
theorem dL_law_586 : decode cL_law 586 = .ok (.iload_n 3, 1) := by decide +kernel
theorem dL_law_587 : decode cL_law 587 = .ok (.iconst 1, 1) := by decide +kernel
theorem dL_law_588 : decode cL_law 588 = .ok (.iadd, 1) := by decide +kernel
theorem dL_law_589 : decode cL_law 589 = .ok (.iaload, 1) := by decide +kernel
theorem dL_law_590 : decode cL_law 590 = .ok (.aload_n 0, 1) := by decide +kernel
theorem dL_law_591 : decode cL_law 591 = .ok (.iload_n 3, 1) := by decide +kernel
theorem dL_law_592 : decode cL_law 592 = .ok (.iconst 2, 1) := by decide +kernel
theorem dL_law_593 : decode cL_law 593 = .ok (.iadd, 1) := by decide +kernel
theorem dL_law_594 : decode cL_law 594 = .ok (.iaload, 1) := by decide +kernel
theorem dL_law_595 : decode cL_law 595 = .ok (.aload_n 0, 1) := by decide +kernel
theorem dL_law_596 : decode cL_law 596 = .ok (.iload_n 3, 1) := by decide +kernel
theorem dL_law_597 : decode cL_law 597 = .ok (.iconst 3, 1) := by decide +kernel
theorem dL_law_598 : decode cL_law 598 = .ok (.iadd, 1) := by decide +kernel
theorem dL_law_599 : decode cL_law 599 = .ok (.iaload, 1) := by decide +kernel
theorem dL_law_600 : decode cL_law 600 = .ok (.aload_n 0, 1) := by decide +kernel
theorem dL_law_601 : decode cL_law 601 = .ok (.iload_n 3, 1) := by decide +kernel
theorem dL_law_602 : decode cL_law 602 = .ok (.iconst 4, 1) := by decide +kernel
theorem dL_law_603 : decode cL_law 603 = .ok (.iadd, 1) := by decide +kernel
theorem dL_law_604 : decode cL_law 604 = .ok (.iaload, 1) := by decide +kernel
theorem dL_law_605 : decode cL_law 605 = .ok (.invokevirtual 68, 3) := by decide +kernel
theorem dL_law_608 : decode cL_law 608 = .ok (.if_icmp .eq 610, 3) := by decide +kernel
theorem dL_law_613 : decode cL_law 613 = .ok (.aload_n 1, 1) := by decide +kernel
theorem dL_law_614 : decode cL_law 614 = .ok (.aload_n 0, 1) := by decide +kernel
theorem dL_law_615 : decode cL_law 615 = .ok (.iload_n 3, 1) := by decide +kernel
theorem dL_law_616 : decode cL_law 616 = .ok (.iconst 1, 1) := by decide +kernel
theorem dL_law_617 : decode cL_law 617 = .ok (.iadd, 1) := by decide +kernel
theorem dL_law_618 : decode cL_law 618 = .ok (.iaload, 1) := by decide +kernel
theorem dL_law_619 : decode cL_law 619 = .ok (.aload_n 0, 1) := by decide +kernel
theorem dL_law_620 : decode cL_law 620 = .ok (.iload_n 3, 1) := by decide +kernel
theorem dL_law_621 : decode cL_law 621 = .ok (.iconst 2, 1) := by decide +kernel
theorem dL_law_622 : decode cL_law 622 = .ok (.iadd, 1) := by decide +kernel
theorem dL_law_623 : decode cL_law 623 = .ok (.iaload, 1) := by decide +kernel
theorem dL_law_624 : decode cL_law 624 = .ok (.aload_n 0, 1) := by decide +kernel
theorem dL_law_625 : decode cL_law 625 = .ok (.iload_n 3, 1) := by decide +kernel
theorem dL_law_626 : decode cL_law 626 = .ok (.iconst 3, 1) := by decide +kernel
theorem dL_law_627 : decode cL_law 627 = .ok (.iadd, 1) := by decide +kernel
theorem dL_law_628 : decode cL_law 628 = .ok (.iaload, 1) := by decide +kernel
theorem dL_law_629 : decode cL_law 629 = .ok (.aload_n 0, 1) := by decide +kernel
theorem dL_law_630 : decode cL_law 630 = .ok (.iload_n 3, 1) := by decide +kernel
theorem dL_law_631 : decode cL_law 631 = .ok (.iconst 4, 1) := by decide +kernel
theorem dL_law_632 : decode cL_law 632 = .ok (.iadd, 1) := by decide +kernel
theorem dL_law_633 : decode cL_law 633 = .ok (.iaload, 1) := by decide +kernel
theorem dL_law_634 : decode cL_law 634 = .ok (.invokevirtual 69, 3) := by decide +kernel
theorem dL_law_637 : decode cL_law 637 = .ok (.aload_n 2, 1) := by decide +kernel
theorem dL_law_638 : decode cL_law 638 = .ok (.aload_n 0, 1) := by decide +kernel
theorem dL_law_639 : decode cL_law 639 = .ok (.iload_n 3, 1) := by decide +kernel
theorem dL_law_640 : decode cL_law 640 = .ok (.iconst 1, 1) := by decide +kernel
theorem dL_law_641 : decode cL_law 641 = .ok (.iadd, 1) := by decide +kernel
theorem dL_law_642 : decode cL_law 642 = .ok (.iaload, 1) := by decide +kernel
theorem dL_law_643 : decode cL_law 643 = .ok (.aload_n 0, 1) := by decide +kernel
theorem dL_law_644 : decode cL_law 644 = .ok (.iload_n 3, 1) := by decide +kernel
theorem dL_law_645 : decode cL_law 645 = .ok (.iconst 2, 1) := by decide +kernel
theorem dL_law_646 : decode cL_law 646 = .ok (.iadd, 1) := by decide +kernel
theorem dL_law_647 : decode cL_law 647 = .ok (.iaload, 1) := by decide +kernel
theorem dL_law_648 : decode cL_law 648 = .ok (.aload_n 0, 1) := by decide +kernel
theorem dL_law_649 : decode cL_law 649 = .ok (.iload_n 3, 1) := by decide +kernel
theorem dL_law_650 : decode cL_law 650 = .ok (.iconst 3, 1) := by decide +kernel
theorem dL_law_651 : decode cL_law 651 = .ok (.iadd, 1) := by decide +kernel
theorem dL_law_652 : decode cL_law 652 = .ok (.iaload, 1) := by decide +kernel
theorem dL_law_653 : decode cL_law 653 = .ok (.aload_n 0, 1) := by decide +kernel
theorem dL_law_654 : decode cL_law 654 = .ok (.iload_n 3, 1) := by decide +kernel
theorem dL_law_655 : decode cL_law 655 = .ok (.iconst 4, 1) := by decide +kernel
theorem dL_law_656 : decode cL_law 656 = .ok (.iadd, 1) := by decide +kernel
theorem dL_law_657 : decode cL_law 657 = .ok (.iaload, 1) := by decide +kernel
theorem dL_law_658 : decode cL_law 658 = .ok (.invokevirtual 72, 3) := by decide +kernel
theorem dL_law_661 : decode cL_law 661 = .ok (.if_icmp .eq 557, 3) := by decide +kernel
theorem dL_law_666 : decode cL_law 666 = .ok (.aload_n 1, 1) := by decide +kernel
theorem dL_law_667 : decode cL_law 667 = .ok (.aload_n 0, 1) := by decide +kernel
theorem dL_law_668 : decode cL_law 668 = .ok (.iload_n 3, 1) := by decide +kernel
theorem dL_law_669 : decode cL_law 669 = .ok (.iconst 1, 1) := by decide +kernel
theorem dL_law_670 : decode cL_law 670 = .ok (.iadd, 1) := by decide +kernel
theorem dL_law_671 : decode cL_law 671 = .ok (.iaload, 1) := by decide +kernel
theorem dL_law_672 : decode cL_law 672 = .ok (.aload_n 0, 1) := by decide +kernel
theorem dL_law_673 : decode cL_law 673 = .ok (.iload_n 3, 1) := by decide +kernel
theorem dL_law_674 : decode cL_law 674 = .ok (.iconst 2, 1) := by decide +kernel
theorem dL_law_675 : decode cL_law 675 = .ok (.iadd, 1) := by decide +kernel
theorem dL_law_676 : decode cL_law 676 = .ok (.iaload, 1) := by decide +kernel
theorem dL_law_677 : decode cL_law 677 = .ok (.aload_n 0, 1) := by decide +kernel
theorem dL_law_678 : decode cL_law 678 = .ok (.iload_n 3, 1) := by decide +kernel
theorem dL_law_679 : decode cL_law 679 = .ok (.iconst 3, 1) := by decide +kernel
theorem dL_law_680 : decode cL_law 680 = .ok (.iadd, 1) := by decide +kernel
theorem dL_law_681 : decode cL_law 681 = .ok (.iaload, 1) := by decide +kernel
theorem dL_law_682 : decode cL_law 682 = .ok (.invokevirtual 73, 3) := by decide +kernel
theorem dL_law_685 : decode cL_law 685 = .ok (.aload_n 2, 1) := by decide +kernel
theorem dL_law_686 : decode cL_law 686 = .ok (.aload_n 0, 1) := by decide +kernel
theorem dL_law_687 : decode cL_law 687 = .ok (.iload_n 3, 1) := by decide +kernel
theorem dL_law_688 : decode cL_law 688 = .ok (.iconst 1, 1) := by decide +kernel
theorem dL_law_689 : decode cL_law 689 = .ok (.iadd, 1) := by decide +kernel
theorem dL_law_690 : decode cL_law 690 = .ok (.iaload, 1) := by decide +kernel
theorem dL_law_691 : decode cL_law 691 = .ok (.aload_n 0, 1) := by decide +kernel
theorem dL_law_692 : decode cL_law 692 = .ok (.iload_n 3, 1) := by decide +kernel
theorem dL_law_693 : decode cL_law 693 = .ok (.iconst 2, 1) := by decide +kernel
theorem dL_law_694 : decode cL_law 694 = .ok (.iadd, 1) := by decide +kernel
theorem dL_law_695 : decode cL_law 695 = .ok (.iaload, 1) := by decide +kernel
theorem dL_law_696 : decode cL_law 696 = .ok (.aload_n 0, 1) := by decide +kernel
theorem dL_law_697 : decode cL_law 697 = .ok (.iload_n 3, 1) := by decide +kernel
theorem dL_law_698 : decode cL_law 698 = .ok (.iconst 3, 1) := by decide +kernel
theorem dL_law_699 : decode cL_law 699 = .ok (.iadd, 1) := by decide +kernel
theorem dL_law_700 : decode cL_law 700 = .ok (.iaload, 1) := by decide +kernel
theorem dL_law_701 : decode cL_law 701 = .ok (.invokevirtual 76, 3) := by decide +kernel
theorem dL_law_704 : decode cL_law 704 = .ok (.if_icmp .eq 514, 3) := by decide +kernel
theorem dL_law_709 : decode cL_law 709 = .ok (.aload_n 1, 1) := by decide +kernel
theorem dL_law_710 : decode cL_law 710 = .ok (.aload_n 0, 1) := by decide +kernel
theorem dL_law_711 : decode cL_law 711 = .ok (.iload_n 3, 1) := by decide +kernel
theorem dL_law_712 : decode cL_law 712 = .ok (.iconst 1, 1) := by decide +kernel
theorem dL_law_713 : decode cL_law 713 = .ok (.iadd, 1) := by decide +kernel
theorem dL_law_714 : decode cL_law 714 = .ok (.iaload, 1) := by decide +kernel
theorem dL_law_715 : decode cL_law 715 = .ok (.aload_n 0, 1) := by decide +kernel
theorem dL_law_716 : decode cL_law 716 = .ok (.iload_n 3, 1) := by decide +kernel
theorem dL_law_717 : decode cL_law 717 = .ok (.iconst 2, 1) := by decide +kernel
theorem dL_law_718 : decode cL_law 718 = .ok (.iadd, 1) := by decide +kernel
theorem dL_law_719 : decode cL_law 719 = .ok (.iaload, 1) := by decide +kernel
theorem dL_law_720 : decode cL_law 720 = .ok (.aload_n 0, 1) := by decide +kernel
theorem dL_law_721 : decode cL_law 721 = .ok (.iload_n 3, 1) := by decide +kernel
theorem dL_law_722 : decode cL_law 722 = .ok (.iconst 3, 1) := by decide +kernel
theorem dL_law_723 : decode cL_law 723 = .ok (.iadd, 1) := by decide +kernel
theorem dL_law_724 : decode cL_law 724 = .ok (.iaload, 1) := by decide +kernel
theorem dL_law_725 : decode cL_law 725 = .ok (.aload_n 0, 1) := by decide +kernel
theorem dL_law_726 : decode cL_law 726 = .ok (.iload_n 3, 1) := by decide +kernel
theorem dL_law_727 : decode cL_law 727 = .ok (.iconst 4, 1) := by decide +kernel
theorem dL_law_728 : decode cL_law 728 = .ok (.iadd, 1) := by decide +kernel
theorem dL_law_729 : decode cL_law 729 = .ok (.iaload, 1) := by decide +kernel
theorem dL_law_730 : decode cL_law 730 = .ok (.invokevirtual 77, 3) := by decide +kernel
theorem dL_law_733 : decode cL_law 733 = .ok (.aload_n 2, 1) := by decide +kernel
theorem dL_law_734 : decode cL_law 734 = .ok (.aload_n 0, 1) := by decide +kernel
theorem dL_law_735 : decode cL_law 735 = .ok (.iload_n 3, 1) := by decide +kernel
theorem dL_law_736 : decode cL_law 736 = .ok (.iconst 1, 1) := by decide +kernel
theorem dL_law_737 : decode cL_law 737 = .ok (.iadd, 1) := by decide +kernel
theorem dL_law_738 : decode cL_law 738 = .ok (.iaload, 1) := by decide +kernel
theorem dL_law_739 : decode cL_law 739 = .ok (.aload_n 0, 1) := by decide +kernel
theorem dL_law_740 : decode cL_law 740 = .ok (.iload_n 3, 1) := by decide +kernel
theorem dL_law_741 : decode cL_law 741 = .ok (.iconst 2, 1) := by decide +kernel
theorem dL_law_742 : decode cL_law 742 = .ok (.iadd, 1) := by decide +kernel
theorem dL_law_743 : decode cL_law 743 = .ok (.iaload, 1) := by decide +kernel
theorem dL_law_744 : decode cL_law 744 = .ok (.aload_n 0, 1) := by decide +kernel
theorem dL_law_745 : decode cL_law 745 = .ok (.iload_n 3, 1) := by decide +kernel
theorem dL_law_746 : decode cL_law 746 = .ok (.iconst 3, 1) := by decide +kernel
theorem dL_law_747 : decode cL_law 747 = .ok (.iadd, 1) := by decide +kernel
theorem dL_law_748 : decode cL_law 748 = .ok (.iaload, 1) := by decide +kernel
theorem dL_law_749 : decode cL_law 749 = .ok (.aload_n 0, 1) := by decide +kernel
theorem dL_law_750 : decode cL_law 750 = .ok (.iload_n 3, 1) := by decide +kernel
theorem dL_law_751 : decode cL_law 751 = .ok (.iconst 4, 1) := by decide +kernel
theorem dL_law_752 : decode cL_law 752 = .ok (.iadd, 1) := by decide +kernel
theorem dL_law_753 : decode cL_law 753 = .ok (.iaload, 1) := by decide +kernel
theorem dL_law_754 : decode cL_law 754 = .ok (.invokevirtual 80, 3) := by decide +kernel
theorem dL_law_757 : decode cL_law 757 = .ok (.if_icmp .eq 461, 3) := by decide +kernel
theorem dL_law_762 : decode cL_law 762 = .ok (.aload_n 1, 1) := by decide +kernel
theorem dL_law_763 : decode cL_law 763 = .ok (.aload_n 0, 1) := by decide +kernel
theorem dL_law_764 : decode cL_law 764 = .ok (.iload_n 3, 1) := by decide +kernel
theorem dL_law_765 : decode cL_law 765 = .ok (.iconst 1, 1) := by decide +kernel
theorem dL_law_766 : decode cL_law 766 = .ok (.iadd, 1) := by decide +kernel
theorem dL_law_767 : decode cL_law 767 = .ok (.iaload, 1) := by decide +kernel
theorem dL_law_768 : decode cL_law 768 = .ok (.aload_n 0, 1) := by decide +kernel
theorem dL_law_769 : decode cL_law 769 = .ok (.iload_n 3, 1) := by decide +kernel
theorem dL_law_770 : decode cL_law 770 = .ok (.iconst 2, 1) := by decide +kernel
theorem dL_law_771 : decode cL_law 771 = .ok (.iadd, 1) := by decide +kernel
theorem dL_law_772 : decode cL_law 772 = .ok (.iaload, 1) := by decide +kernel
theorem dL_law_773 : decode cL_law 773 = .ok (.invokevirtual 81, 3) := by decide +kernel
theorem dL_law_776 : decode cL_law 776 = .ok (.aload_n 2, 1) := by decide +kernel
theorem dL_law_777 : decode cL_law 777 = .ok (.aload_n 0, 1) := by decide +kernel
theorem dL_law_778 : decode cL_law 778 = .ok (.iload_n 3, 1) := by decide +kernel
theorem dL_law_779 : decode cL_law 779 = .ok (.iconst 1, 1) := by decide +kernel
theorem dL_law_780 : decode cL_law 780 = .ok (.iadd, 1) := by decide +kernel
theorem dL_law_781 : decode cL_law 781 = .ok (.iaload, 1) := by decide +kernel
theorem dL_law_782 : decode cL_law 782 = .ok (.aload_n 0, 1) := by decide +kernel
theorem dL_law_783 : decode cL_law 783 = .ok (.iload_n 3, 1) := by decide +kernel
theorem dL_law_784 : decode cL_law 784 = .ok (.iconst 2, 1) := by decide +kernel
theorem dL_law_785 : decode cL_law 785 = .ok (.iadd, 1) := by decide +kernel
theorem dL_law_786 : decode cL_law 786 = .ok (.iaload, 1) := by decide +kernel
theorem dL_law_787 : decode cL_law 787 = .ok (.invokevirtual 84, 3) := by decide +kernel
theorem dL_law_790 : decode cL_law 790 = .ok (.if_icmp .eq 428, 3) := by decide +kernel
theorem dL_law_795 : decode cL_law 795 = .ok (.aload_n 1, 1) := by decide +kernel
theorem dL_law_796 : decode cL_law 796 = .ok (.aload_n 0, 1) := by decide +kernel
theorem dL_law_797 : decode cL_law 797 = .ok (.iload_n 3, 1) := by decide +kernel
theorem dL_law_798 : decode cL_law 798 = .ok (.iconst 1, 1) := by decide +kernel
theorem dL_law_799 : decode cL_law 799 = .ok (.iadd, 1) := by decide +kernel
theorem dL_law_800 : decode cL_law 800 = .ok (.iaload, 1) := by decide +kernel
theorem dL_law_801 : decode cL_law 801 = .ok (.aload_n 0, 1) := by decide +kernel
theorem dL_law_802 : decode cL_law 802 = .ok (.iload_n 3, 1) := by decide +kernel
theorem dL_law_803 : decode cL_law 803 = .ok (.iconst 2, 1) := by decide +kernel
theorem dL_law_804 : decode cL_law 804 = .ok (.iadd, 1) := by decide +kernel
theorem dL_law_805 : decode cL_law 805 = .ok (.iaload, 1) := by decide +kernel
theorem dL_law_806 : decode cL_law 806 = .ok (.aload_n 0, 1) := by decide +kernel
theorem dL_law_807 : decode cL_law 807 = .ok (.iload_n 3, 1) := by decide +kernel
theorem dL_law_808 : decode cL_law 808 = .ok (.iconst 3, 1) := by decide +kernel
theorem dL_law_809 : decode cL_law 809 = .ok (.iadd, 1) := by decide +kernel
theorem dL_law_810 : decode cL_law 810 = .ok (.iaload, 1) := by decide +kernel
theorem dL_law_811 : decode cL_law 811 = .ok (.aload_n 0, 1) := by decide +kernel
theorem dL_law_812 : decode cL_law 812 = .ok (.iload_n 3, 1) := by decide +kernel
theorem dL_law_813 : decode cL_law 813 = .ok (.iconst 4, 1) := by decide +kernel
theorem dL_law_814 : decode cL_law 814 = .ok (.iadd, 1) := by decide +kernel
theorem dL_law_815 : decode cL_law 815 = .ok (.iaload, 1) := by decide +kernel
theorem dL_law_816 : decode cL_law 816 = .ok (.invokevirtual 85, 3) := by decide +kernel
theorem dL_law_819 : decode cL_law 819 = .ok (.aload_n 2, 1) := by decide +kernel
theorem dL_law_820 : decode cL_law 820 = .ok (.aload_n 0, 1) := by decide +kernel
theorem dL_law_821 : decode cL_law 821 = .ok (.iload_n 3, 1) := by decide +kernel
theorem dL_law_822 : decode cL_law 822 = .ok (.iconst 1, 1) := by decide +kernel
theorem dL_law_823 : decode cL_law 823 = .ok (.iadd, 1) := by decide +kernel
theorem dL_law_824 : decode cL_law 824 = .ok (.iaload, 1) := by decide +kernel
theorem dL_law_825 : decode cL_law 825 = .ok (.aload_n 0, 1) := by decide +kernel
theorem dL_law_826 : decode cL_law 826 = .ok (.iload_n 3, 1) := by decide +kernel
theorem dL_law_827 : decode cL_law 827 = .ok (.iconst 2, 1) := by decide +kernel
theorem dL_law_828 : decode cL_law 828 = .ok (.iadd, 1) := by decide +kernel
theorem dL_law_829 : decode cL_law 829 = .ok (.iaload, 1) := by decide +kernel
theorem dL_law_830 : decode cL_law 830 = .ok (.aload_n 0, 1) := by decide +kernel
theorem dL_law_831 : decode cL_law 831 = .ok (.iload_n 3, 1) := by decide +kernel
theorem dL_law_832 : decode cL_law 832 = .ok (.iconst 3, 1) := by decide +kernel
theorem dL_law_833 : decode cL_law 833 = .ok (.iadd, 1) := by decide +kernel
theorem dL_law_834 : decode cL_law 834 = .ok (.iaload, 1) := by decide +kernel
theorem dL_law_835 : decode cL_law 835 = .ok (.aload_n 0, 1) := by decide +kernel
theorem dL_law_836 : decode cL_law 836 = .ok (.iload_n 3, 1) := by decide +kernel
theorem dL_law_837 : decode cL_law 837 = .ok (.iconst 4, 1) := by decide +kernel
theorem dL_law_838 : decode cL_law 838 = .ok (.iadd, 1) := by decide +kernel
theorem dL_law_839 : decode cL_law 839 = .ok (.iaload, 1) := by decide +kernel
theorem dL_law_840 : decode cL_law 840 = .ok (.invokevirtual 88, 3) := by decide +kernel
theorem dL_law_843 : decode cL_law 843 = .ok (.if_icmp .eq 375, 3) := by decide +kernel
theorem dL_law_848 : decode cL_law 848 = .ok (.aload_n 1, 1) := by decide +kernel
theorem dL_law_849 : decode cL_law 849 = .ok (.aload_n 0, 1) := by decide +kernel
theorem dL_law_850 : decode cL_law 850 = .ok (.iload_n 3, 1) := by decide +kernel
theorem dL_law_851 : decode cL_law 851 = .ok (.iconst 1, 1) := by decide +kernel
theorem dL_law_852 : decode cL_law 852 = .ok (.iadd, 1) := by decide +kernel
theorem dL_law_853 : decode cL_law 853 = .ok (.iaload, 1) := by decide +kernel
theorem dL_law_854 : decode cL_law 854 = .ok (.aload_n 0, 1) := by decide +kernel
theorem dL_law_855 : decode cL_law 855 = .ok (.iload_n 3, 1) := by decide +kernel
theorem dL_law_856 : decode cL_law 856 = .ok (.iconst 2, 1) := by decide +kernel
theorem dL_law_857 : decode cL_law 857 = .ok (.iadd, 1) := by decide +kernel
theorem dL_law_858 : decode cL_law 858 = .ok (.iaload, 1) := by decide +kernel
theorem dL_law_859 : decode cL_law 859 = .ok (.aload_n 0, 1) := by decide +kernel
theorem dL_law_860 : decode cL_law 860 = .ok (.iload_n 3, 1) := by decide +kernel
theorem dL_law_861 : decode cL_law 861 = .ok (.iconst 3, 1) := by decide +kernel
theorem dL_law_862 : decode cL_law 862 = .ok (.iadd, 1) := by decide +kernel
theorem dL_law_863 : decode cL_law 863 = .ok (.iaload, 1) := by decide +kernel
theorem dL_law_864 : decode cL_law 864 = .ok (.aload_n 0, 1) := by decide +kernel
theorem dL_law_865 : decode cL_law 865 = .ok (.iload_n 3, 1) := by decide +kernel
theorem dL_law_866 : decode cL_law 866 = .ok (.iconst 4, 1) := by decide +kernel
theorem dL_law_867 : decode cL_law 867 = .ok (.iadd, 1) := by decide +kernel
theorem dL_law_868 : decode cL_law 868 = .ok (.iaload, 1) := by decide +kernel
theorem dL_law_869 : decode cL_law 869 = .ok (.invokevirtual 89, 3) := by decide +kernel
theorem dL_law_872 : decode cL_law 872 = .ok (.aload_n 2, 1) := by decide +kernel
theorem dL_law_873 : decode cL_law 873 = .ok (.aload_n 0, 1) := by decide +kernel
theorem dL_law_874 : decode cL_law 874 = .ok (.iload_n 3, 1) := by decide +kernel
theorem dL_law_875 : decode cL_law 875 = .ok (.iconst 1, 1) := by decide +kernel
theorem dL_law_876 : decode cL_law 876 = .ok (.iadd, 1) := by decide +kernel
theorem dL_law_877 : decode cL_law 877 = .ok (.iaload, 1) := by decide +kernel
theorem dL_law_878 : decode cL_law 878 = .ok (.aload_n 0, 1) := by decide +kernel
theorem dL_law_879 : decode cL_law 879 = .ok (.iload_n 3, 1) := by decide +kernel
theorem dL_law_880 : decode cL_law 880 = .ok (.iconst 2, 1) := by decide +kernel
theorem dL_law_881 : decode cL_law 881 = .ok (.iadd, 1) := by decide +kernel
theorem dL_law_882 : decode cL_law 882 = .ok (.iaload, 1) := by decide +kernel
theorem dL_law_883 : decode cL_law 883 = .ok (.aload_n 0, 1) := by decide +kernel
theorem dL_law_884 : decode cL_law 884 = .ok (.iload_n 3, 1) := by decide +kernel
theorem dL_law_885 : decode cL_law 885 = .ok (.iconst 3, 1) := by decide +kernel
theorem dL_law_886 : decode cL_law 886 = .ok (.iadd, 1) := by decide +kernel
theorem dL_law_887 : decode cL_law 887 = .ok (.iaload, 1) := by decide +kernel
theorem dL_law_888 : decode cL_law 888 = .ok (.aload_n 0, 1) := by decide +kernel
theorem dL_law_889 : decode cL_law 889 = .ok (.iload_n 3, 1) := by decide +kernel
theorem dL_law_890 : decode cL_law 890 = .ok (.iconst 4, 1) := by decide +kernel
theorem dL_law_891 : decode cL_law 891 = .ok (.iadd, 1) := by decide +kernel
theorem dL_law_892 : decode cL_law 892 = .ok (.iaload, 1) := by decide +kernel
theorem dL_law_893 : decode cL_law 893 = .ok (.invokevirtual 92, 3) := by decide +kernel
theorem dL_law_896 : decode cL_law 896 = .ok (.if_icmp .eq 322, 3) := by decide +kernel
theorem dL_law_901 : decode cL_law 901 = .ok (.aload_n 1, 1) := by decide +kernel
theorem dL_law_902 : decode cL_law 902 = .ok (.aload_n 0, 1) := by decide +kernel
theorem dL_law_903 : decode cL_law 903 = .ok (.iload_n 3, 1) := by decide +kernel
theorem dL_law_904 : decode cL_law 904 = .ok (.iconst 1, 1) := by decide +kernel
theorem dL_law_905 : decode cL_law 905 = .ok (.iadd, 1) := by decide +kernel
theorem dL_law_906 : decode cL_law 906 = .ok (.iaload, 1) := by decide +kernel
theorem dL_law_907 : decode cL_law 907 = .ok (.aload_n 0, 1) := by decide +kernel
theorem dL_law_908 : decode cL_law 908 = .ok (.iload_n 3, 1) := by decide +kernel
theorem dL_law_909 : decode cL_law 909 = .ok (.iconst 2, 1) := by decide +kernel
theorem dL_law_910 : decode cL_law 910 = .ok (.iadd, 1) := by decide +kernel
theorem dL_law_911 : decode cL_law 911 = .ok (.iaload, 1) := by decide +kernel
theorem dL_law_912 : decode cL_law 912 = .ok (.aload_n 0, 1) := by decide +kernel
theorem dL_law_913 : decode cL_law 913 = .ok (.iload_n 3, 1) := by decide +kernel
theorem dL_law_914 : decode cL_law 914 = .ok (.iconst 3, 1) := by decide +kernel
theorem dL_law_915 : decode cL_law 915 = .ok (.iadd, 1) := by decide +kernel
theorem dL_law_916 : decode cL_law 916 = .ok (.iaload, 1) := by decide +kernel
theorem dL_law_917 : decode cL_law 917 = .ok (.invokevirtual 93, 3) := by decide +kernel
theorem dL_law_920 : decode cL_law 920 = .ok (.aload_n 2, 1) := by decide +kernel
theorem dL_law_921 : decode cL_law 921 = .ok (.aload_n 0, 1) := by decide +kernel
theorem dL_law_922 : decode cL_law 922 = .ok (.iload_n 3, 1) := by decide +kernel
theorem dL_law_923 : decode cL_law 923 = .ok (.iconst 1, 1) := by decide +kernel
theorem dL_law_924 : decode cL_law 924 = .ok (.iadd, 1) := by decide +kernel
theorem dL_law_925 : decode cL_law 925 = .ok (.iaload, 1) := by decide +kernel
theorem dL_law_926 : decode cL_law 926 = .ok (.aload_n 0, 1) := by decide +kernel
theorem dL_law_927 : decode cL_law 927 = .ok (.iload_n 3, 1) := by decide +kernel
theorem dL_law_928 : decode cL_law 928 = .ok (.iconst 2, 1) := by decide +kernel
theorem dL_law_929 : decode cL_law 929 = .ok (.iadd, 1) := by decide +kernel
theorem dL_law_930 : decode cL_law 930 = .ok (.iaload, 1) := by decide +kernel
theorem dL_law_931 : decode cL_law 931 = .ok (.aload_n 0, 1) := by decide +kernel
theorem dL_law_932 : decode cL_law 932 = .ok (.iload_n 3, 1) := by decide +kernel
theorem dL_law_933 : decode cL_law 933 = .ok (.iconst 3, 1) := by decide +kernel
theorem dL_law_934 : decode cL_law 934 = .ok (.iadd, 1) := by decide +kernel
theorem dL_law_935 : decode cL_law 935 = .ok (.iaload, 1) := by decide +kernel
theorem dL_law_936 : decode cL_law 936 = .ok (.invokevirtual 96, 3) := by decide +kernel
theorem dL_law_939 : decode cL_law 939 = .ok (.if_icmp .eq 279, 3) := by decide +kernel
theorem dL_law_944 : decode cL_law 944 = .ok (.aload_n 1, 1) := by decide +kernel
theorem dL_law_945 : decode cL_law 945 = .ok (.aload_n 0, 1) := by decide +kernel
theorem dL_law_946 : decode cL_law 946 = .ok (.iload_n 3, 1) := by decide +kernel
theorem dL_law_947 : decode cL_law 947 = .ok (.iconst 1, 1) := by decide +kernel
theorem dL_law_948 : decode cL_law 948 = .ok (.iadd, 1) := by decide +kernel
theorem dL_law_949 : decode cL_law 949 = .ok (.iaload, 1) := by decide +kernel
theorem dL_law_950 : decode cL_law 950 = .ok (.aload_n 0, 1) := by decide +kernel
theorem dL_law_951 : decode cL_law 951 = .ok (.iload_n 3, 1) := by decide +kernel
theorem dL_law_952 : decode cL_law 952 = .ok (.iconst 2, 1) := by decide +kernel
theorem dL_law_953 : decode cL_law 953 = .ok (.iadd, 1) := by decide +kernel
theorem dL_law_954 : decode cL_law 954 = .ok (.iaload, 1) := by decide +kernel
theorem dL_law_955 : decode cL_law 955 = .ok (.invokevirtual 97, 3) := by decide +kernel
theorem dL_law_958 : decode cL_law 958 = .ok (.aload_n 2, 1) := by decide +kernel
theorem dL_law_959 : decode cL_law 959 = .ok (.aload_n 0, 1) := by decide +kernel
theorem dL_law_960 : decode cL_law 960 = .ok (.iload_n 3, 1) := by decide +kernel
theorem dL_law_961 : decode cL_law 961 = .ok (.iconst 1, 1) := by decide +kernel
theorem dL_law_962 : decode cL_law 962 = .ok (.iadd, 1) := by decide +kernel
theorem dL_law_963 : decode cL_law 963 = .ok (.iaload, 1) := by decide +kernel
theorem dL_law_964 : decode cL_law 964 = .ok (.aload_n 0, 1) := by decide +kernel
theorem dL_law_965 : decode cL_law 965 = .ok (.iload_n 3, 1) := by decide +kernel
theorem dL_law_966 : decode cL_law 966 = .ok (.iconst 2, 1) := by decide +kernel
theorem dL_law_967 : decode cL_law 967 = .ok (.iadd, 1) := by decide +kernel
theorem dL_law_968 : decode cL_law 968 = .ok (.iaload, 1) := by decide +kernel
theorem dL_law_969 : decode cL_law 969 = .ok (.invokevirtual 100, 3) := by decide +kernel
theorem dL_law_972 : decode cL_law 972 = .ok (.if_icmp .eq 246, 3) := by decide +kernel
theorem dL_law_977 : decode cL_law 977 = .ok (.aload_n 1, 1) := by decide +kernel
theorem dL_law_978 : decode cL_law 978 = .ok (.aload_n 0, 1) := by decide +kernel
theorem dL_law_979 : decode cL_law 979 = .ok (.iload_n 3, 1) := by decide +kernel
theorem dL_law_980 : decode cL_law 980 = .ok (.iconst 1, 1) := by decide +kernel
theorem dL_law_981 : decode cL_law 981 = .ok (.iadd, 1) := by decide +kernel
theorem dL_law_982 : decode cL_law 982 = .ok (.iaload, 1) := by decide +kernel
theorem dL_law_983 : decode cL_law 983 = .ok (.aload_n 0, 1) := by decide +kernel
theorem dL_law_984 : decode cL_law 984 = .ok (.iload_n 3, 1) := by decide +kernel
theorem dL_law_985 : decode cL_law 985 = .ok (.iconst 2, 1) := by decide +kernel
theorem dL_law_986 : decode cL_law 986 = .ok (.iadd, 1) := by decide +kernel
theorem dL_law_987 : decode cL_law 987 = .ok (.iaload, 1) := by decide +kernel
theorem dL_law_988 : decode cL_law 988 = .ok (.aload_n 0, 1) := by decide +kernel
theorem dL_law_989 : decode cL_law 989 = .ok (.iload_n 3, 1) := by decide +kernel
theorem dL_law_990 : decode cL_law 990 = .ok (.iconst 3, 1) := by decide +kernel
theorem dL_law_991 : decode cL_law 991 = .ok (.iadd, 1) := by decide +kernel
theorem dL_law_992 : decode cL_law 992 = .ok (.iaload, 1) := by decide +kernel
theorem dL_law_993 : decode cL_law 993 = .ok (.aload_n 0, 1) := by decide +kernel
theorem dL_law_994 : decode cL_law 994 = .ok (.iload_n 3, 1) := by decide +kernel
theorem dL_law_995 : decode cL_law 995 = .ok (.iconst 4, 1) := by decide +kernel
theorem dL_law_996 : decode cL_law 996 = .ok (.iadd, 1) := by decide +kernel
theorem dL_law_997 : decode cL_law 997 = .ok (.iaload, 1) := by decide +kernel
theorem dL_law_998 : decode cL_law 998 = .ok (.invokevirtual 101, 3) := by decide +kernel
theorem dL_law_1001 : decode cL_law 1001 = .ok (.aload_n 2, 1) := by decide +kernel
theorem dL_law_1002 : decode cL_law 1002 = .ok (.aload_n 0, 1) := by decide +kernel
theorem dL_law_1003 : decode cL_law 1003 = .ok (.iload_n 3, 1) := by decide +kernel
theorem dL_law_1004 : decode cL_law 1004 = .ok (.iconst 1, 1) := by decide +kernel
theorem dL_law_1005 : decode cL_law 1005 = .ok (.iadd, 1) := by decide +kernel
theorem dL_law_1006 : decode cL_law 1006 = .ok (.iaload, 1) := by decide +kernel
theorem dL_law_1007 : decode cL_law 1007 = .ok (.aload_n 0, 1) := by decide +kernel
theorem dL_law_1008 : decode cL_law 1008 = .ok (.iload_n 3, 1) := by decide +kernel
theorem dL_law_1009 : decode cL_law 1009 = .ok (.iconst 2, 1) := by decide +kernel
theorem dL_law_1010 : decode cL_law 1010 = .ok (.iadd, 1) := by decide +kernel
theorem dL_law_1011 : decode cL_law 1011 = .ok (.iaload, 1) := by decide +kernel
theorem dL_law_1012 : decode cL_law 1012 = .ok (.aload_n 0, 1) := by decide +kernel
theorem dL_law_1013 : decode cL_law 1013 = .ok (.iload_n 3, 1) := by decide +kernel
theorem dL_law_1014 : decode cL_law 1014 = .ok (.iconst 3, 1) := by decide +kernel
theorem dL_law_1015 : decode cL_law 1015 = .ok (.iadd, 1) := by decide +kernel
theorem dL_law_1016 : decode cL_law 1016 = .ok (.iaload, 1) := by decide +kernel
theorem dL_law_1017 : decode cL_law 1017 = .ok (.aload_n 0, 1) := by decide +kernel
theorem dL_law_1018 : decode cL_law 1018 = .ok (.iload_n 3, 1) := by decide +kernel
theorem dL_law_1019 : decode cL_law 1019 = .ok (.iconst 4, 1) := by decide +kernel
theorem dL_law_1020 : decode cL_law 1020 = .ok (.iadd, 1) := by decide +kernel
theorem dL_law_1021 : decode cL_law 1021 = .ok (.iaload, 1) := by decide +kernel
theorem dL_law_1022 : decode cL_law 1022 = .ok (.invokevirtual 104, 3) := by decide +kernel
theorem dL_law_1025 : decode cL_law 1025 = .ok (.if_icmp .eq 193, 3) := by decide +kernel
theorem dL_law_1030 : decode cL_law 1030 = .ok (.aload_n 1, 1) := by decide +kernel
theorem dL_law_1031 : decode cL_law 1031 = .ok (.invokevirtual 105, 3) := by decide +kernel
theorem dL_law_1034 : decode cL_law 1034 = .ok (.aload_n 2, 1) := by decide +kernel
theorem dL_law_1035 : decode cL_law 1035 = .ok (.invokevirtual 109, 3) := by decide +kernel
theorem dL_law_1038 : decode cL_law 1038 = .ok (.if_icmp .eq 180, 3) := by decide +kernel
theorem dL_law_1043 : decode cL_law 1043 = .ok (.aload_n 1, 1) := by decide +kernel
theorem dL_law_1044 : decode cL_law 1044 = .ok (.aload_n 0, 1) := by decide +kernel
theorem dL_law_1045 : decode cL_law 1045 = .ok (.iload_n 3, 1) := by decide +kernel
theorem dL_law_1046 : decode cL_law 1046 = .ok (.iconst 1, 1) := by decide +kernel
theorem dL_law_1047 : decode cL_law 1047 = .ok (.iadd, 1) := by decide +kernel
theorem dL_law_1048 : decode cL_law 1048 = .ok (.iaload, 1) := by decide +kernel
theorem dL_law_1049 : decode cL_law 1049 = .ok (.aload_n 0, 1) := by decide +kernel
theorem dL_law_1050 : decode cL_law 1050 = .ok (.iload_n 3, 1) := by decide +kernel
theorem dL_law_1051 : decode cL_law 1051 = .ok (.iconst 2, 1) := by decide +kernel
theorem dL_law_1052 : decode cL_law 1052 = .ok (.iadd, 1) := by decide +kernel
theorem dL_law_1053 : decode cL_law 1053 = .ok (.iaload, 1) := by decide +kernel
theorem dL_law_1054 : decode cL_law 1054 = .ok (.invokevirtual 110, 3) := by decide +kernel
theorem dL_law_1057 : decode cL_law 1057 = .ok (.aload_n 2, 1) := by decide +kernel
theorem dL_law_1058 : decode cL_law 1058 = .ok (.aload_n 0, 1) := by decide +kernel
theorem dL_law_1059 : decode cL_law 1059 = .ok (.iload_n 3, 1) := by decide +kernel
theorem dL_law_1060 : decode cL_law 1060 = .ok (.iconst 1, 1) := by decide +kernel
theorem dL_law_1061 : decode cL_law 1061 = .ok (.iadd, 1) := by decide +kernel
theorem dL_law_1062 : decode cL_law 1062 = .ok (.iaload, 1) := by decide +kernel
theorem dL_law_1063 : decode cL_law 1063 = .ok (.aload_n 0, 1) := by decide +kernel
theorem dL_law_1064 : decode cL_law 1064 = .ok (.iload_n 3, 1) := by decide +kernel
theorem dL_law_1065 : decode cL_law 1065 = .ok (.iconst 2, 1) := by decide +kernel
theorem dL_law_1066 : decode cL_law 1066 = .ok (.iadd, 1) := by decide +kernel
theorem dL_law_1067 : decode cL_law 1067 = .ok (.iaload, 1) := by decide +kernel
theorem dL_law_1068 : decode cL_law 1068 = .ok (.invokevirtual 113, 3) := by decide +kernel
theorem dL_law_1071 : decode cL_law 1071 = .ok (.if_icmp .eq 147, 3) := by decide +kernel
theorem dL_law_1076 : decode cL_law 1076 = .ok (.aload_n 1, 1) := by decide +kernel
theorem dL_law_1077 : decode cL_law 1077 = .ok (.aload_n 0, 1) := by decide +kernel
theorem dL_law_1078 : decode cL_law 1078 = .ok (.iload_n 3, 1) := by decide +kernel
theorem dL_law_1079 : decode cL_law 1079 = .ok (.iconst 1, 1) := by decide +kernel
theorem dL_law_1080 : decode cL_law 1080 = .ok (.iadd, 1) := by decide +kernel
theorem dL_law_1081 : decode cL_law 1081 = .ok (.iaload, 1) := by decide +kernel
theorem dL_law_1082 : decode cL_law 1082 = .ok (.invokevirtual 114, 3) := by decide +kernel
theorem dL_law_1085 : decode cL_law 1085 = .ok (.aload_n 2, 1) := by decide +kernel
theorem dL_law_1086 : decode cL_law 1086 = .ok (.aload_n 0, 1) := by decide +kernel
theorem dL_law_1087 : decode cL_law 1087 = .ok (.iload_n 3, 1) := by decide +kernel
theorem dL_law_1088 : decode cL_law 1088 = .ok (.iconst 1, 1) := by decide +kernel
theorem dL_law_1089 : decode cL_law 1089 = .ok (.iadd, 1) := by decide +kernel
theorem dL_law_1090 : decode cL_law 1090 = .ok (.iaload, 1) := by decide +kernel
theorem dL_law_1091 : decode cL_law 1091 = .ok (.invokevirtual 117, 3) := by decide +kernel
theorem dL_law_1094 : decode cL_law 1094 = .ok (.if_icmp .eq 124, 3) := by decide +kernel
theorem dL_law_1195 : decode cL_law 1195 = .ok (.aload_n 1, 1) := by decide +kernel
theorem dL_law_1196 : decode cL_law 1196 = .ok (.aload_n 0, 1) := by decide +kernel
theorem dL_law_1197 : decode cL_law 1197 = .ok (.iload_n 3, 1) := by decide +kernel
theorem dL_law_1198 : decode cL_law 1198 = .ok (.iconst 1, 1) := by decide +kernel
theorem dL_law_1199 : decode cL_law 1199 = .ok (.iadd, 1) := by decide +kernel
theorem dL_law_1200 : decode cL_law 1200 = .ok (.iaload, 1) := by decide +kernel
theorem dL_law_1201 : decode cL_law 1201 = .ok (.invokevirtual 126, 3) := by decide +kernel
theorem dL_law_1204 : decode cL_law 1204 = .ok (.aload_n 2, 1) := by decide +kernel
theorem dL_law_1205 : decode cL_law 1205 = .ok (.aload_n 0, 1) := by decide +kernel
theorem dL_law_1206 : decode cL_law 1206 = .ok (.iload_n 3, 1) := by decide +kernel
theorem dL_law_1207 : decode cL_law 1207 = .ok (.iconst 1, 1) := by decide +kernel
theorem dL_law_1208 : decode cL_law 1208 = .ok (.iadd, 1) := by decide +kernel
theorem dL_law_1209 : decode cL_law 1209 = .ok (.iaload, 1) := by decide +kernel
theorem dL_law_1210 : decode cL_law 1210 = .ok (.invokevirtual 129, 3) := by decide +kernel
theorem dL_law_1213 : decode cL_law 1213 = .ok (.if_icmp .eq 5, 3) := by decide +kernel
theorem dL_law_1218 : decode cL_law 1218 = .ok (.iinc 3 6, 3) := by decide +kernel
theorem dL_law_1221 : decode cL_law 1221 = .ok (.goto (-1203), 3) := by decide +kernel
theorem dL_law_1224 : decode cL_law 1224 = .ok (.iconst 1, 1) := by decide +kernel
theorem dL_law_1225 : decode cL_law 1225 = .ok (.ireturn, 1) := by decide +kernel
/-! THE CLAIM OUT OF ONE WALK OF THE LAW'S BODY. Your part is whole_start (and what it stands on); all else here is the same for every law, but numbers. -/
def R_law : String := "PutBackLaw"
def lw_P (b : Addr) (xs : List Int32) (args : Array Value) (s : State) : Prop := args = #[.ref b] ∧ s.IntsAt b xs ∧ xs.length ≤ 3072 ∧ (Jvm.Cond.and given_1 narrow_1).before args s = true
def lw_Q (_ : Array Value) (s : State) (o : Outcome) (t : State) : Prop := o = .returned (some (.int 1)) ∧ Framed s o t [] 600000 7302250
def lw_Z (below : List Frame) (a : Array Value) (s : State) : State → Prop := fun t => ∃ o, t.status = .running ∧ Ended t below o ∧ lw_Q a s o t
/-- the law's own end, with 1 on the stack, nothing written that was there before, its room as the claim has it -/
theorem lw_ret {p : Program} {l : Launch} {e : Env} {s : State} {m : MethodId} {below : List Frame} {meth : Method} {c : Code} {b : Nat} (hx : p.tables.exec = Jvm.exec) (hb : c.code = code) (hr : meth.sig.returnType = ret) (hlocks : meth.locks = false) {pc : Nat} {H : Heap} {ls : Array Slot} (hdg : decode code pc = .ok (.ireturn, 1)) : W p l e room_1 s m #[Value.ref b] below meth c H [] 600000 7302250 (lw_Z below #[Value.ref b] s) (F0 m pc ls [.int 1]) := by
  intro T hT X
  obtain ⟨fs, hret, hrun, hended, hW, hframe⟩ := X.leave (v := some (.int 1)) (hlocks := hlocks) (fun h => by rw [hr] at h; cases h)
  have hmeth' : T.vm.method? m = some meth := X.method'
  refine ⟨T.setFrames fs, ?_, .returned (some (.int 1)), hrun, hended, rfl, ⟨_, rfl⟩, hW, hframe⟩
  jvm_step X.here [X.here.top, hx, hb, hdg, hmeth', hr, ret, narrow_b1]
  (try refine ⟨rfl, ?_⟩); (try refine ⟨rfl, ?_⟩)
  first | (intro acts; rw [hret _ acts rfl rfl rfl]) | rw [hret _ _ rfl rfl rfl]
  exact Steps.refl _
/-- what holds at the law's entry: the machine, the code, the tables' words (any of lw_tbl by 'hts w (by decide +kernel)'), the script of L ints xs at the cell b, what the Statement gives of the start (any of its parts by flat_of_before) -/
def lw_At (p : Program) (s : State) (m : MethodId) (meth : Method) (c : Code) (b L : Nat) (xs : Nat → Int32) : Prop :=
  p.tables.exec = Jvm.exec ∧ c.code = code ∧ meth.sig.returnType = ret ∧ c.maxLocals = 4 ∧ s.vm.findClass R_law = some m.cls ∧ (∀ w ∈ lw_tbl, w.before #[Value.ref b] s = true) ∧ va_X b L xs s s.heap ∧ b < s.heap.size ∧ meth.locks = false ∧ (Jvm.Cond.and given_1 narrow_1).before #[Value.ref b] s = true
