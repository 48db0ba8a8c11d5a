/-! the words that the rows use, each by its place in the tables; printed by wip/p1/gen.py -/
theorem q_p_0 : Cond.selects RX10 yX10_putFour yX10_putFour ∈ gw := gw_s (y := yX10_putFour) (n := 20) (List.mem_append_left _ (List.mem_of_getElem? (i := 0) (by decide +kernel)))
theorem q_p_1 : Cond.selects RX2 yX2_takeCardsAway yX2_takeCardsAway ∈ gw := gw_s (y := yX2_takeCardsAway) (n := 18) (List.mem_append_left _ (List.mem_of_getElem? (i := 1) (by decide +kernel)))
theorem q_p_11 : Cond.selects RX2 yX2_settle yX2_settle ∈ gw := gw_s (y := yX2_settle) (n := 18) (List.mem_append_left _ (List.mem_of_getElem? (i := 11) (by decide +kernel)))
theorem q_p_45 : Cond.selects RX10 yX10_hasRulesOnTape yX10_hasRulesOnTape ∈ gw := gw_s (y := yX10_hasRulesOnTape) (n := 20) (List.mem_append_right _ (List.mem_append_right _ (List.mem_append_left _ (List.mem_of_getElem? (i := 13) (by decide +kernel)))))
theorem q_p_50 : Cond.selects RX10 yX10_judge yX10_judge ∈ gw := gw_s (y := yX10_judge) (n := 20) (List.mem_append_right _ (List.mem_append_right _ (List.mem_append_right _ (List.mem_append_left _ (List.mem_of_getElem? (i := 2) (by decide +kernel))))))
theorem q_p_51 : Cond.selects RX8 yX8_readCond yX8_readCond ∈ gw := gw_s (y := yX8_readCond) (n := 3) (List.mem_append_right _ (List.mem_append_right _ (List.mem_append_right _ (List.mem_append_left _ (List.mem_of_getElem? (i := 3) (by decide +kernel))))))
theorem q_p_52 : Cond.selects RX8 yX8_readAll yX8_readAll ∈ gw := gw_s (y := yX8_readAll) (n := 3) (List.mem_append_right _ (List.mem_append_right _ (List.mem_append_right _ (List.mem_append_left _ (List.mem_of_getElem? (i := 4) (by decide +kernel))))))
theorem q_p_53 : Cond.selects RX8 yX8_readOne yX8_readOne ∈ gw := gw_s (y := yX8_readOne) (n := 3) (List.mem_append_right _ (List.mem_append_right _ (List.mem_append_right _ (List.mem_append_left _ (List.mem_of_getElem? (i := 5) (by decide +kernel))))))
theorem q_p_54 : Cond.selects RX8 yX8_beginsOne yX8_beginsOne ∈ gw := gw_s (y := yX8_beginsOne) (n := 3) (List.mem_append_right _ (List.mem_append_right _ (List.mem_append_right _ (List.mem_append_left _ (List.mem_of_getElem? (i := 6) (by decide +kernel))))))
theorem q_1_100 : Cond.fieldLink RX2 54 "SevenTable$Game" "lastDrawn" "[I" ∈ gw := gw_1 100 (by decide +kernel) rfl
theorem q_1_102 : Cond.fieldLink RX2 57 "SevenTable$Game" "turn" "I" ∈ gw := gw_1 102 (by decide +kernel) rfl
theorem q_1_105 : Cond.fieldLink RX2 60 "SevenTable$Game" "askings" "I" ∈ gw := gw_1 105 (by decide +kernel) rfl
theorem q_1_107 : Cond.fieldLink RX2 63 "SevenTable$Game" "vain" "I" ∈ gw := gw_1 107 (by decide +kernel) rfl
theorem q_1_11 : Cond.initialized RX9 ∈ gw := gw_1 11 (by decide +kernel) rfl
theorem q_1_110 : Cond.fieldLink RX2 69 "SevenTable$Game" "seen" "LSevenTable$Knowledge;" ∈ gw := gw_1 110 (by decide +kernel) rfl
theorem q_1_12 : Cond.initialized RX1 ∈ gw := gw_1 12 (by decide +kernel) rfl
theorem q_1_13 : Cond.initialized RX8 ∈ gw := gw_1 13 (by decide +kernel) rfl
theorem q_1_157 : Cond.fieldLink RX7 11 "SevenTable$Sentence" "codes" "[I" ∈ gw := gw_1 157 (by decide +kernel) rfl
theorem q_1_158 : Cond.fieldLink RX7 15 "SevenTable$Sentence" "size" "I" ∈ gw := gw_1 158 (by decide +kernel) rfl
theorem q_1_16 : Cond.initialized RJ9 ∈ gw := gw_1 16 (by decide +kernel) rfl
theorem q_1_17 : Cond.initialized RJ10 ∈ gw := gw_1 17 (by decide +kernel) rfl
theorem q_1_222 : Cond.fieldLink RX6 15 "SevenTable$Reader" "text" "[B" ∈ gw := gw_1 222 (by decide +kernel) rfl
theorem q_1_223 : Cond.fieldLink RX6 19 "SevenTable$Reader" "size" "I" ∈ gw := gw_1 223 (by decide +kernel) rfl
theorem q_1_224 : Cond.fieldLink RX6 23 "SevenTable$Reader" "most" "I" ∈ gw := gw_1 224 (by decide +kernel) rfl
theorem q_1_225 : Cond.fieldLink RX6 26 "SevenTable$Reader" "at" "I" ∈ gw := gw_1 225 (by decide +kernel) rfl
theorem q_1_226 : Cond.fieldLink RX6 29 "SevenTable$Reader" "token" "I" ∈ gw := gw_1 226 (by decide +kernel) rfl
theorem q_1_228 : Cond.fieldLink RX8 63 "SevenTable$Reader" "token" "I" ∈ gw := gw_1 228 (by decide +kernel) rfl
theorem q_1_229 : Cond.fieldLink RX6 32 "SevenTable$Reader" "place" "I" ∈ gw := gw_1 229 (by decide +kernel) rfl
theorem q_1_238 : Cond.fieldLink RX6 42 "SevenTable$Reader" "faultKind" "I" ∈ gw := gw_1 238 (by decide +kernel) rfl
theorem q_1_239 : Cond.fieldLink RX10 120 "SevenTable$Reader" "faultKind" "I" ∈ gw := gw_1 239 (by decide +kernel) rfl
theorem q_1_3 : Cond.initialized RX3 ∈ gw := gw_1 3 (by decide +kernel) rfl
theorem q_1_4 : Cond.initialized RJ7 ∈ gw := gw_1 4 (by decide +kernel) rfl
theorem q_1_44 : Cond.fieldLink RX3 9 "SevenTable$Knowledge" "sure" "[I" ∈ gw := gw_1 44 (by decide +kernel) rfl
theorem q_1_45 : Cond.fieldLink RX3 15 "SevenTable$Knowledge" "others" "[I" ∈ gw := gw_1 45 (by decide +kernel) rfl
theorem q_1_46 : Cond.fieldLink RX3 18 "SevenTable$Knowledge" "size" "I" ∈ gw := gw_1 46 (by decide +kernel) rfl
theorem q_1_47 : Cond.fieldLink RX3 22 "SevenTable$Knowledge" "caught" "[I" ∈ gw := gw_1 47 (by decide +kernel) rfl
theorem q_1_5 : Cond.initialized RX7 ∈ gw := gw_1 5 (by decide +kernel) rfl
theorem q_1_6 : Cond.initialized RX6 ∈ gw := gw_1 6 (by decide +kernel) rfl
theorem q_1_61 : Cond.methodLink RX2 73 yJ7_fill_53178 ∈ gw := gw_1 61 (by decide +kernel) rfl
theorem q_1_62 : Cond.static yJ7_fill_53178 ∈ gw := gw_1 62 (by decide +kernel) rfl
theorem q_1_63 : Cond.code yJ7_fill_53178 cJ7_fill_53178 4 none ∈ gw := gw_1 63 (by decide +kernel) rfl
theorem q_1_74 : Cond.fieldLink RX2 18 "SevenTable$Game" "again" "Z" ∈ gw := gw_1 74 (by decide +kernel) rfl
theorem q_1_78 : Cond.fieldLink RX2 22 "SevenTable$Game" "refill" "I" ∈ gw := gw_1 78 (by decide +kernel) rfl
theorem q_1_82 : Cond.fieldLink RX2 25 "SevenTable$Game" "names" "[J" ∈ gw := gw_1 82 (by decide +kernel) rfl
theorem q_1_83 : Cond.fieldLink RX2 29 "SevenTable$Game" "hands" "[I" ∈ gw := gw_1 83 (by decide +kernel) rfl
theorem q_1_84 : Cond.fieldLink RX2 33 "SevenTable$Game" "cards" "[I" ∈ gw := gw_1 84 (by decide +kernel) rfl
theorem q_1_86 : Cond.fieldLink RX2 36 "SevenTable$Game" "heap" "[I" ∈ gw := gw_1 86 (by decide +kernel) rfl
theorem q_1_93 : Cond.fieldLink RX2 45 "SevenTable$Game" "owner" "[I" ∈ gw := gw_1 93 (by decide +kernel) rfl
theorem q_1_96 : Cond.fieldLink RX2 48 "SevenTable$Game" "askedTimes" "[I" ∈ gw := gw_1 96 (by decide +kernel) rfl
theorem q_1_98 : Cond.fieldLink RX2 51 "SevenTable$Game" "givenTo" "[I" ∈ gw := gw_1 98 (by decide +kernel) rfl
theorem q_2_0 : Cond.fieldLink RX6 45 "SevenTable$Reader" "faultPlace" "I" ∈ gw := gw_2 0 (by decide +kernel) rfl
theorem q_2_1 : Cond.fieldLink RX10 121 "SevenTable$Reader" "faultPlace" "I" ∈ gw := gw_2 1 (by decide +kernel) rfl
theorem q_2_103 : Cond.fieldLink RX10 9 "SevenTable" "tape" "[B" ∈ gw := gw_2 103 (by decide +kernel) rfl
theorem q_2_107 : Cond.fieldLink RX10 27 "SevenTable" "trial" "LSevenTable$Game;" ∈ gw := gw_2 107 (by decide +kernel) rfl
theorem q_2_109 : Cond.fieldLink RX10 40 "SevenTable" "reader" "LSevenTable$Reader;" ∈ gw := gw_2 109 (by decide +kernel) rfl
theorem q_2_110 : Cond.fieldLink RX10 49 "SevenTable" "tableText" "LSevenTable$TableText;" ∈ gw := gw_2 110 (by decide +kernel) rfl
theorem q_2_111 : Cond.fieldLink RX10 56 "SevenTable" "eveningText" "LSevenTable$EveningText;" ∈ gw := gw_2 111 (by decide +kernel) rfl
theorem q_2_112 : Cond.fieldLink RX10 63 "SevenTable" "sentenceText" "LSevenTable$SentenceText;" ∈ gw := gw_2 112 (by decide +kernel) rfl
theorem q_2_168 : Cond.methodLink RX10 112 yX10_putFour ∈ gw := gw_2 168 (by decide +kernel) rfl
theorem q_2_170 : Cond.instanceMethod yX10_putFour ∈ gw := gw_2 170 (by decide +kernel) rfl
theorem q_2_171 : Cond.code yX10_putFour cX10_putFour 3 none ∈ gw := gw_2 171 (by decide +kernel) rfl
theorem q_2_180 : Cond.methodLink RX10 116 yX9_read ∈ gw := gw_2 180 (by decide +kernel) rfl
theorem q_2_181 : Cond.instanceMethod yX9_read ∈ gw := gw_2 181 (by decide +kernel) rfl
theorem q_2_182 : Cond.selects RX9 yX9_read yX9_read ∈ gw := gw_2 182 (by decide +kernel) rfl
theorem q_2_183 : Cond.code yX9_read cX9_read 4 (some .boolean) ∈ gw := gw_2 183 (by decide +kernel) rfl
theorem q_2_184 : Cond.methodLink RX9 27 yX2_clear ∈ gw := gw_2 184 (by decide +kernel) rfl
theorem q_2_185 : Cond.instanceMethod yX2_clear ∈ gw := gw_2 185 (by decide +kernel) rfl
theorem q_2_186 : Cond.selects RX2 yX2_clear yX2_clear ∈ gw := gw_2 186 (by decide +kernel) rfl
theorem q_2_187 : Cond.code yX2_clear cX2_clear 1 none ∈ gw := gw_2 187 (by decide +kernel) rfl
theorem q_2_188 : Cond.methodLink RX2 89 yX2_takeCardsAway ∈ gw := gw_2 188 (by decide +kernel) rfl
theorem q_2_190 : Cond.instanceMethod yX2_takeCardsAway ∈ gw := gw_2 190 (by decide +kernel) rfl
theorem q_2_191 : Cond.code yX2_takeCardsAway cX2_takeCardsAway 1 none ∈ gw := gw_2 191 (by decide +kernel) rfl
theorem q_2_192 : Cond.methodLink RX9 32 yJ7_fill_53178 ∈ gw := gw_2 192 (by decide +kernel) rfl
theorem q_2_193 : Cond.methodLink RX9 38 yX6_begin ∈ gw := gw_2 193 (by decide +kernel) rfl
theorem q_2_194 : Cond.instanceMethod yX6_begin ∈ gw := gw_2 194 (by decide +kernel) rfl
theorem q_2_195 : Cond.selects RX6 yX6_begin yX6_begin ∈ gw := gw_2 195 (by decide +kernel) rfl
theorem q_2_196 : Cond.code yX6_begin cX6_begin 4 none ∈ gw := gw_2 196 (by decide +kernel) rfl
theorem q_2_197 : Cond.methodLink RX6 62 yJ9_min_7cf53 ∈ gw := gw_2 197 (by decide +kernel) rfl
theorem q_2_198 : Cond.static yJ9_min_7cf53 ∈ gw := gw_2 198 (by decide +kernel) rfl
theorem q_2_199 : Cond.code yJ9_min_7cf53 cJ9_min_7cf53 2 (some .int) ∈ gw := gw_2 199 (by decide +kernel) rfl
theorem q_2_200 : Cond.methodLink RX6 68 yX6_advance ∈ gw := gw_2 200 (by decide +kernel) rfl
theorem q_2_201 : Cond.instanceMethod yX6_advance ∈ gw := gw_2 201 (by decide +kernel) rfl
theorem q_2_202 : Cond.selects RX6 yX6_advance yX6_advance ∈ gw := gw_2 202 (by decide +kernel) rfl
theorem q_2_203 : Cond.code yX6_advance cX6_advance 3 none ∈ gw := gw_2 203 (by decide +kernel) rfl
theorem q_2_208 : Cond.methodLink RX9 44 yX6_isAt ∈ gw := gw_2 208 (by decide +kernel) rfl
theorem q_2_209 : Cond.instanceMethod yX6_isAt ∈ gw := gw_2 209 (by decide +kernel) rfl
theorem q_2_210 : Cond.selects RX6 yX6_isAt yX6_isAt ∈ gw := gw_2 210 (by decide +kernel) rfl
theorem q_2_211 : Cond.code yX6_isAt cX6_isAt 2 (some .boolean) ∈ gw := gw_2 211 (by decide +kernel) rfl
theorem q_2_221 : Cond.instanceMethod yX6_fail ∈ gw := gw_2 221 (by decide +kernel) rfl
theorem q_2_222 : Cond.selects RX6 yX6_fail yX6_fail ∈ gw := gw_2 222 (by decide +kernel) rfl
theorem q_2_223 : Cond.code yX6_fail cX6_fail 2 (some .boolean) ∈ gw := gw_2 223 (by decide +kernel) rfl
theorem q_2_31 : Cond.fieldLink RX9 23 "SevenTable$TableText" "reader" "LSevenTable$Reader;" ∈ gw := gw_2 31 (by decide +kernel) rfl
theorem q_2_32 : Cond.fieldLink RX9 9 "SevenTable$TableText" "inPlay" "[I" ∈ gw := gw_2 32 (by decide +kernel) rfl
theorem q_2_33 : Cond.fieldLink RX9 15 "SevenTable$TableText" "refillTold" "Z" ∈ gw := gw_2 33 (by decide +kernel) rfl
theorem q_2_34 : Cond.fieldLink RX9 19 "SevenTable$TableText" "lines" "I" ∈ gw := gw_2 34 (by decide +kernel) rfl
theorem q_2_35 : Cond.fieldLink RX10 135 "SevenTable$TableText" "lines" "I" ∈ gw := gw_2 35 (by decide +kernel) rfl
theorem q_2_51 : Cond.fieldLink RX1 19 "SevenTable$EveningText" "reader" "LSevenTable$Reader;" ∈ gw := gw_2 51 (by decide +kernel) rfl
theorem q_2_53 : Cond.fieldLink RX1 15 "SevenTable$EveningText" "lines" "I" ∈ gw := gw_2 53 (by decide +kernel) rfl
theorem q_2_54 : Cond.fieldLink RX10 343 "SevenTable$EveningText" "lines" "I" ∈ gw := gw_2 54 (by decide +kernel) rfl
theorem q_2_70 : Cond.fieldLink RX8 22 "SevenTable$SentenceText" "reader" "LSevenTable$Reader;" ∈ gw := gw_2 70 (by decide +kernel) rfl
theorem q_2_71 : Cond.fieldLink RX8 12 "SevenTable$SentenceText" "made" "LSevenTable$Sentence;" ∈ gw := gw_2 71 (by decide +kernel) rfl
theorem q_2_73 : Cond.fieldLink RX8 18 "SevenTable$SentenceText" "ones" "I" ∈ gw := gw_2 73 (by decide +kernel) rfl
theorem q_3_100 : Cond.instanceMethod yX7_clear ∈ gw := gw_3 100 (by decide +kernel) rfl
theorem q_3_101 : Cond.selects RX7 yX7_clear yX7_clear ∈ gw := gw_3 101 (by decide +kernel) rfl
theorem q_3_102 : Cond.code yX7_clear cX7_clear 1 none ∈ gw := gw_3 102 (by decide +kernel) rfl
theorem q_3_103 : Cond.methodLink RX10 134 yX5_clear ∈ gw := gw_3 103 (by decide +kernel) rfl
theorem q_3_104 : Cond.instanceMethod yX5_clear ∈ gw := gw_3 104 (by decide +kernel) rfl
theorem q_3_105 : Cond.selects RX5 yX5_clear yX5_clear ∈ gw := gw_3 105 (by decide +kernel) rfl
theorem q_3_106 : Cond.code yX5_clear cX5_clear 1 none ∈ gw := gw_3 106 (by decide +kernel) rfl
theorem q_3_40 : Cond.methodLink RX10 124 yX2_start ∈ gw := gw_3 40 (by decide +kernel) rfl
theorem q_3_41 : Cond.instanceMethod yX2_start ∈ gw := gw_3 41 (by decide +kernel) rfl
theorem q_3_42 : Cond.selects RX2 yX2_start yX2_start ∈ gw := gw_3 42 (by decide +kernel) rfl
theorem q_3_43 : Cond.code yX2_start cX2_start 3 none ∈ gw := gw_3 43 (by decide +kernel) rfl
theorem q_3_44 : Cond.methodLink RX2 109 yX3_clear ∈ gw := gw_3 44 (by decide +kernel) rfl
theorem q_3_45 : Cond.instanceMethod yX3_clear ∈ gw := gw_3 45 (by decide +kernel) rfl
theorem q_3_46 : Cond.selects RX3 yX3_clear yX3_clear ∈ gw := gw_3 46 (by decide +kernel) rfl
theorem q_3_47 : Cond.code yX3_clear cX3_clear 1 none ∈ gw := gw_3 47 (by decide +kernel) rfl
theorem q_3_48 : Cond.methodLink RX3 25 yJ7_fill_53178 ∈ gw := gw_3 48 (by decide +kernel) rfl
theorem q_3_71 : Cond.methodLink RX2 120 yX2_settle ∈ gw := gw_3 71 (by decide +kernel) rfl
theorem q_3_73 : Cond.instanceMethod yX2_settle ∈ gw := gw_3 73 (by decide +kernel) rfl
theorem q_3_74 : Cond.code yX2_settle cX2_settle 4 none ∈ gw := gw_3 74 (by decide +kernel) rfl
theorem q_3_87 : Cond.methodLink RX10 127 yX2_copyFrom ∈ gw := gw_3 87 (by decide +kernel) rfl
theorem q_3_88 : Cond.instanceMethod yX2_copyFrom ∈ gw := gw_3 88 (by decide +kernel) rfl
theorem q_3_89 : Cond.selects RX2 yX2_copyFrom yX2_copyFrom ∈ gw := gw_3 89 (by decide +kernel) rfl
theorem q_3_90 : Cond.code yX2_copyFrom cX2_copyFrom 2 none ∈ gw := gw_3 90 (by decide +kernel) rfl
theorem q_3_91 : Cond.methodLink RX2 79 (⟨"java/lang/System", "arraycopy", "(Ljava/lang/Object;ILjava/lang/Object;II)V"⟩ : MethodName) ∈ gw := gw_3 91 (by decide +kernel) rfl
theorem q_3_92 : Cond.static (⟨"java/lang/System", "arraycopy", "(Ljava/lang/Object;ILjava/lang/Object;II)V"⟩ : MethodName) ∈ gw := gw_3 92 (by decide +kernel) rfl
theorem q_3_93 : Cond.native (⟨"java/lang/System", "arraycopy", "(Ljava/lang/Object;ILjava/lang/Object;II)V"⟩ : MethodName) ∈ gw := gw_3 93 (by decide +kernel) rfl
theorem q_3_94 : Cond.methodLink RX2 85 yX3_copyFrom ∈ gw := gw_3 94 (by decide +kernel) rfl
theorem q_3_95 : Cond.instanceMethod yX3_copyFrom ∈ gw := gw_3 95 (by decide +kernel) rfl
theorem q_3_96 : Cond.selects RX3 yX3_copyFrom yX3_copyFrom ∈ gw := gw_3 96 (by decide +kernel) rfl
theorem q_3_97 : Cond.code yX3_copyFrom cX3_copyFrom 2 none ∈ gw := gw_3 97 (by decide +kernel) rfl
theorem q_3_98 : Cond.methodLink RX3 31 (⟨"java/lang/System", "arraycopy", "(Ljava/lang/Object;ILjava/lang/Object;II)V"⟩ : MethodName) ∈ gw := gw_3 98 (by decide +kernel) rfl
theorem q_3_99 : Cond.methodLink RX10 131 yX7_clear ∈ gw := gw_3 99 (by decide +kernel) rfl
theorem q_5_113 : Cond.methodLink RX10 334 yX10_judge ∈ gw := gw_5 113 (by decide +kernel) rfl
theorem q_5_115 : Cond.instanceMethod yX10_judge ∈ gw := gw_5 115 (by decide +kernel) rfl
theorem q_5_116 : Cond.code yX10_judge cX10_judge 6 (some .int) ∈ gw := gw_5 116 (by decide +kernel) rfl
theorem q_5_142 : Cond.methodLink RX10 344 yX8_read ∈ gw := gw_5 142 (by decide +kernel) rfl
theorem q_5_143 : Cond.instanceMethod yX8_read ∈ gw := gw_5 143 (by decide +kernel) rfl
theorem q_5_144 : Cond.selects RX8 yX8_read yX8_read ∈ gw := gw_5 144 (by decide +kernel) rfl
theorem q_5_145 : Cond.code yX8_read cX8_read 4 (some .boolean) ∈ gw := gw_5 145 (by decide +kernel) rfl
theorem q_5_146 : Cond.methodLink RX8 26 yX7_clear ∈ gw := gw_5 146 (by decide +kernel) rfl
theorem q_5_147 : Cond.methodLink RX8 29 yX6_begin ∈ gw := gw_5 147 (by decide +kernel) rfl
theorem q_5_148 : Cond.methodLink RX8 35 yX8_readCond ∈ gw := gw_5 148 (by decide +kernel) rfl
theorem q_5_150 : Cond.instanceMethod yX8_readCond ∈ gw := gw_5 150 (by decide +kernel) rfl
theorem q_5_151 : Cond.code yX8_readCond cX8_readCond 4 (some .boolean) ∈ gw := gw_5 151 (by decide +kernel) rfl
theorem q_5_152 : Cond.methodLink RX8 46 yX8_readAll ∈ gw := gw_5 152 (by decide +kernel) rfl
theorem q_5_154 : Cond.instanceMethod yX8_readAll ∈ gw := gw_5 154 (by decide +kernel) rfl
theorem q_5_155 : Cond.code yX8_readAll cX8_readAll 4 (some .boolean) ∈ gw := gw_5 155 (by decide +kernel) rfl
theorem q_5_156 : Cond.methodLink RX8 56 yX8_readOne ∈ gw := gw_5 156 (by decide +kernel) rfl
theorem q_5_158 : Cond.instanceMethod yX8_readOne ∈ gw := gw_5 158 (by decide +kernel) rfl
theorem q_5_159 : Cond.code yX8_readOne cX8_readOne 4 (some .boolean) ∈ gw := gw_5 159 (by decide +kernel) rfl
theorem q_5_160 : Cond.methodLink RX8 59 yX8_beginsOne ∈ gw := gw_5 160 (by decide +kernel) rfl
theorem q_5_162 : Cond.instanceMethod yX8_beginsOne ∈ gw := gw_5 162 (by decide +kernel) rfl
theorem q_5_163 : Cond.code yX8_beginsOne cX8_beginsOne 2 (some .boolean) ∈ gw := gw_5 163 (by decide +kernel) rfl
theorem q_5_164 : Cond.methodLink RX8 43 yX6_fail ∈ gw := gw_5 164 (by decide +kernel) rfl
theorem q_5_186 : Cond.methodLink RX7 19 (⟨"java/lang/System", "arraycopy", "(Ljava/lang/Object;ILjava/lang/Object;II)V"⟩ : MethodName) ∈ gw := gw_5 186 (by decide +kernel) rfl
theorem q_5_43 : Cond.methodLink RX10 317 yX10_hasRulesOnTape ∈ gw := gw_5 43 (by decide +kernel) rfl
theorem q_5_45 : Cond.instanceMethod yX10_hasRulesOnTape ∈ gw := gw_5 45 (by decide +kernel) rfl
theorem q_5_46 : Cond.code yX10_hasRulesOnTape cX10_hasRulesOnTape 2 (some .boolean) ∈ gw := gw_5 46 (by decide +kernel) rfl
theorem q_5_93 : Cond.methodLink RX10 333 yX1_read ∈ gw := gw_5 93 (by decide +kernel) rfl
theorem q_5_94 : Cond.instanceMethod yX1_read ∈ gw := gw_5 94 (by decide +kernel) rfl
theorem q_5_95 : Cond.selects RX1 yX1_read yX1_read ∈ gw := gw_5 95 (by decide +kernel) rfl
theorem q_5_96 : Cond.code yX1_read cX1_read 4 (some .boolean) ∈ gw := gw_5 96 (by decide +kernel) rfl
theorem q_5_97 : Cond.methodLink RX1 23 yX6_begin ∈ gw := gw_5 97 (by decide +kernel) rfl
theorem q_5_98 : Cond.methodLink RX1 29 yX6_isAt ∈ gw := gw_5 98 (by decide +kernel) rfl
theorem inGX1 : ∀ w ∈ u_ws RX1 TX1 3, w ∈ gw := by
  intro w hw
  obtain ⟨k, hk, rfl⟩ := List.mem_map.mp hw
  have hk := List.mem_range.mp hk
  match k, hk with
  | 0, _ => exact gw_2 55 (by decide +kernel) rfl
  | 1, _ => exact gw_2 57 (by decide +kernel) rfl
  | 2, _ => exact gw_2 59 (by decide +kernel) rfl
  | (k + 3), h => exact absurd h (by omega)
theorem inGX3 : ∀ w ∈ u_ws RX3 TX3 4, w ∈ gw := by
  intro w hw
  obtain ⟨k, hk, rfl⟩ := List.mem_map.mp hw
  have hk := List.mem_range.mp hk
  match k, hk with
  | 0, _ => exact gw_1 49 (by decide +kernel) rfl
  | 1, _ => exact gw_1 51 (by decide +kernel) rfl
  | 2, _ => exact gw_1 53 (by decide +kernel) rfl
  | 3, _ => exact gw_1 55 (by decide +kernel) rfl
  | (k + 4), h => exact absurd h (by omega)
theorem inGX6 : ∀ w ∈ u_ws RX6 TX6 11, w ∈ gw := by
  intro w hw
  obtain ⟨k, hk, rfl⟩ := List.mem_map.mp hw
  have hk := List.mem_range.mp hk
  match k, hk with
  | 0, _ => exact gw_2 2 (by decide +kernel) rfl
  | 1, _ => exact gw_2 4 (by decide +kernel) rfl
  | 2, _ => exact gw_2 6 (by decide +kernel) rfl
  | 3, _ => exact gw_2 8 (by decide +kernel) rfl
  | 4, _ => exact gw_2 10 (by decide +kernel) rfl
  | 5, _ => exact gw_2 12 (by decide +kernel) rfl
  | 6, _ => exact gw_2 14 (by decide +kernel) rfl
  | 7, _ => exact gw_2 16 (by decide +kernel) rfl
  | 8, _ => exact gw_2 18 (by decide +kernel) rfl
  | 9, _ => exact gw_2 20 (by decide +kernel) rfl
  | 10, _ => exact gw_2 22 (by decide +kernel) rfl
  | (k + 11), h => exact absurd h (by omega)
theorem inGX8 : ∀ w ∈ u_ws RX8 TX8 3, w ∈ gw := by
  intro w hw
  obtain ⟨k, hk, rfl⟩ := List.mem_map.mp hw
  have hk := List.mem_range.mp hk
  match k, hk with
  | 0, _ => exact gw_2 75 (by decide +kernel) rfl
  | 1, _ => exact gw_2 77 (by decide +kernel) rfl
  | 2, _ => exact gw_2 79 (by decide +kernel) rfl
  | (k + 3), h => exact absurd h (by omega)
theorem inGX9 : ∀ w ∈ u_ws RX9 TX9 4, w ∈ gw := by
  intro w hw
  obtain ⟨k, hk, rfl⟩ := List.mem_map.mp hw
  have hk := List.mem_range.mp hk
  match k, hk with
  | 0, _ => exact gw_2 36 (by decide +kernel) rfl
  | 1, _ => exact gw_2 38 (by decide +kernel) rfl
  | 2, _ => exact gw_2 40 (by decide +kernel) rfl
  | 3, _ => exact gw_2 42 (by decide +kernel) rfl
  | (k + 4), h => exact absurd h (by omega)
theorem dJ7_fill_53178_0 : decode cJ7_fill_53178 0 = .ok (.iconst 0, 1) := by decide +kernel
theorem dJ7_fill_53178_1 : decode cJ7_fill_53178 1 = .ok (.istore_n 2, 1) := by decide +kernel
theorem dJ7_fill_53178_2 : decode cJ7_fill_53178 2 = .ok (.aload_n 0, 1) := by decide +kernel
theorem dJ7_fill_53178_3 : decode cJ7_fill_53178 3 = .ok (.arraylength, 1) := by decide +kernel
theorem dJ7_fill_53178_4 : decode cJ7_fill_53178 4 = .ok (.istore_n 3, 1) := by decide +kernel
theorem dJ7_fill_53178_5 : decode cJ7_fill_53178 5 = .ok (.iload_n 2, 1) := by decide +kernel
theorem dJ7_fill_53178_6 : decode cJ7_fill_53178 6 = .ok (.iload_n 3, 1) := by decide +kernel
theorem dJ7_fill_53178_7 : decode cJ7_fill_53178 7 = .ok (.if_icmp .ge 13, 3) := by decide +kernel
theorem dJ7_fill_53178_10 : decode cJ7_fill_53178 10 = .ok (.aload_n 0, 1) := by decide +kernel
theorem dJ7_fill_53178_11 : decode cJ7_fill_53178 11 = .ok (.iload_n 2, 1) := by decide +kernel
theorem dJ7_fill_53178_12 : decode cJ7_fill_53178 12 = .ok (.iload_n 1, 1) := by decide +kernel
theorem dJ7_fill_53178_13 : decode cJ7_fill_53178 13 = .ok (.iastore, 1) := by decide +kernel
theorem dJ7_fill_53178_14 : decode cJ7_fill_53178 14 = .ok (.iinc 2 1, 3) := by decide +kernel
theorem dJ7_fill_53178_17 : decode cJ7_fill_53178 17 = .ok (.goto (-12), 3) := by decide +kernel
theorem dJ7_fill_53178_20 : decode cJ7_fill_53178 20 = .ok (.return_, 1) := by decide +kernel
theorem dX10_evening_0 : decode cX10_evening 0 = .ok (.iload_n 1, 1) := by decide +kernel
theorem dX10_evening_1 : decode cX10_evening 1 = .ok (.ifCond .lt 8, 3) := by decide +kernel
theorem dX10_evening_4 : decode cX10_evening 4 = .ok (.iload_n 1, 1) := by decide +kernel
theorem dX10_evening_5 : decode cX10_evening 5 = .ok (.iconst 1, 1) := by decide +kernel
theorem dX10_evening_6 : decode cX10_evening 6 = .ok (.if_icmp .le 7, 3) := by decide +kernel
theorem dX10_evening_9 : decode cX10_evening 9 = .ok (.sipush (-1000), 3) := by decide +kernel
theorem dX10_evening_12 : decode cX10_evening 12 = .ok (.ireturn, 1) := by decide +kernel
theorem dX10_evening_13 : decode cX10_evening 13 = .ok (.aload_n 0, 1) := by decide +kernel
theorem dX10_evening_14 : decode cX10_evening 14 = .ok (.getfield 56, 3) := by decide +kernel
theorem dX10_evening_17 : decode cX10_evening 17 = .ok (.aload_n 0, 1) := by decide +kernel
theorem dX10_evening_18 : decode cX10_evening 18 = .ok (.getfield 9, 3) := by decide +kernel
theorem dX10_evening_21 : decode cX10_evening 21 = .ok (.aload_n 0, 1) := by decide +kernel
theorem dX10_evening_22 : decode cX10_evening 22 = .ok (.getfield 13, 3) := by decide +kernel
theorem dX10_evening_25 : decode cX10_evening 25 = .ok (.aload_n 0, 1) := by decide +kernel
theorem dX10_evening_26 : decode cX10_evening 26 = .ok (.getfield 23, 3) := by decide +kernel
theorem dX10_evening_29 : decode cX10_evening 29 = .ok (.invokevirtual 333, 3) := by decide +kernel
theorem dX10_evening_32 : decode cX10_evening 32 = .ok (.istore_n 2, 1) := by decide +kernel
theorem dX10_evening_33 : decode cX10_evening 33 = .ok (.aload_n 0, 1) := by decide +kernel
theorem dX10_evening_34 : decode cX10_evening 34 = .ok (.iconst 0, 1) := by decide +kernel
theorem dX10_evening_35 : decode cX10_evening 35 = .ok (.putfield 13, 3) := by decide +kernel
theorem dX10_evening_38 : decode cX10_evening 38 = .ok (.aload_n 0, 1) := by decide +kernel
theorem dX10_evening_39 : decode cX10_evening 39 = .ok (.aload_n 0, 1) := by decide +kernel
theorem dX10_evening_40 : decode cX10_evening 40 = .ok (.getfield 40, 3) := by decide +kernel
theorem dX10_evening_43 : decode cX10_evening 43 = .ok (.getfield 120, 3) := by decide +kernel
theorem dX10_evening_46 : decode cX10_evening 46 = .ok (.putfield 17, 3) := by decide +kernel
theorem dX10_evening_49 : decode cX10_evening 49 = .ok (.iload_n 2, 1) := by decide +kernel
theorem dX10_evening_50 : decode cX10_evening 50 = .ok (.ifCond .ne 14, 3) := by decide +kernel
theorem dX10_evening_64 : decode cX10_evening 64 = .ok (.aload_n 0, 1) := by decide +kernel
theorem dX10_evening_65 : decode cX10_evening 65 = .ok (.invokevirtual 334, 3) := by decide +kernel
theorem dX10_evening_68 : decode cX10_evening 68 = .ok (.istore_n 3, 1) := by decide +kernel
theorem dX10_evening_69 : decode cX10_evening 69 = .ok (.iload_n 1, 1) := by decide +kernel
theorem dX10_evening_70 : decode cX10_evening 70 = .ok (.iconst 1, 1) := by decide +kernel
theorem dX10_evening_71 : decode cX10_evening 71 = .ok (.if_icmp .ne 44, 3) := by decide +kernel
theorem dX10_evening_74 : decode cX10_evening 74 = .ok (.iload_n 3, 1) := by decide +kernel
theorem dX10_evening_75 : decode cX10_evening 75 = .ok (.ifCond .le 40, 3) := by decide +kernel
theorem dX10_evening_115 : decode cX10_evening 115 = .ok (.iload_n 3, 1) := by decide +kernel
theorem dX10_evening_116 : decode cX10_evening 116 = .ok (.aload_n 0, 1) := by decide +kernel
theorem dX10_evening_117 : decode cX10_evening 117 = .ok (.getfield 56, 3) := by decide +kernel
theorem dX10_evening_120 : decode cX10_evening 120 = .ok (.getfield 343, 3) := by decide +kernel
theorem dX10_evening_123 : decode cX10_evening 123 = .ok (.if_icmp .ge 7, 3) := by decide +kernel
theorem dX10_evening_130 : decode cX10_evening 130 = .ok (.iconst (-1), 1) := by decide +kernel
theorem dX10_evening_131 : decode cX10_evening 131 = .ok (.ireturn, 1) := by decide +kernel
theorem dX10_feed_0 : decode cX10_feed 0 = .ok (.aload_n 0, 1) := by decide +kernel
theorem dX10_feed_1 : decode cX10_feed 1 = .ok (.getfield 13, 3) := by decide +kernel
theorem dX10_feed_4 : decode cX10_feed 4 = .ok (.bipush 20, 2) := by decide +kernel
theorem dX10_feed_6 : decode cX10_feed 6 = .ok (.iadd, 1) := by decide +kernel
theorem dX10_feed_7 : decode cX10_feed 7 = .ok (.sipush 940, 3) := by decide +kernel
theorem dX10_feed_10 : decode cX10_feed 10 = .ok (.if_icmp .le 5, 3) := by decide +kernel
theorem dX10_feed_15 : decode cX10_feed 15 = .ok (.aload_n 0, 1) := by decide +kernel
theorem dX10_feed_16 : decode cX10_feed 16 = .ok (.iload_n 1, 1) := by decide +kernel
theorem dX10_feed_17 : decode cX10_feed 17 = .ok (.invokevirtual 112, 3) := by decide +kernel
theorem dX10_feed_20 : decode cX10_feed 20 = .ok (.aload_n 0, 1) := by decide +kernel
theorem dX10_feed_21 : decode cX10_feed 21 = .ok (.iload_n 2, 1) := by decide +kernel
theorem dX10_feed_22 : decode cX10_feed 22 = .ok (.invokevirtual 112, 3) := by decide +kernel
theorem dX10_feed_25 : decode cX10_feed 25 = .ok (.aload_n 0, 1) := by decide +kernel
theorem dX10_feed_26 : decode cX10_feed 26 = .ok (.iload_n 3, 1) := by decide +kernel
theorem dX10_feed_27 : decode cX10_feed 27 = .ok (.invokevirtual 112, 3) := by decide +kernel
theorem dX10_feed_30 : decode cX10_feed 30 = .ok (.aload_n 0, 1) := by decide +kernel
theorem dX10_feed_31 : decode cX10_feed 31 = .ok (.iload 4, 2) := by decide +kernel
theorem dX10_feed_33 : decode cX10_feed 33 = .ok (.invokevirtual 112, 3) := by decide +kernel
theorem dX10_feed_36 : decode cX10_feed 36 = .ok (.aload_n 0, 1) := by decide +kernel
theorem dX10_feed_37 : decode cX10_feed 37 = .ok (.iload 5, 2) := by decide +kernel
theorem dX10_feed_39 : decode cX10_feed 39 = .ok (.invokevirtual 112, 3) := by decide +kernel
theorem dX10_feed_42 : decode cX10_feed 42 = .ok (.aload_n 0, 1) := by decide +kernel
theorem dX10_feed_43 : decode cX10_feed 43 = .ok (.getfield 13, 3) := by decide +kernel
theorem dX10_feed_46 : decode cX10_feed 46 = .ok (.ireturn, 1) := by decide +kernel
theorem dX10_hasRulesOnTape_0 : decode cX10_hasRulesOnTape 0 = .ok (.aload_n 0, 1) := by decide +kernel
theorem dX10_hasRulesOnTape_1 : decode cX10_hasRulesOnTape 1 = .ok (.getfield 23, 3) := by decide +kernel
theorem dX10_hasRulesOnTape_4 : decode cX10_hasRulesOnTape 4 = .ok (.getfield 277, 3) := by decide +kernel
theorem dX10_hasRulesOnTape_7 : decode cX10_hasRulesOnTape 7 = .ok (.ifCond .eq 17, 3) := by decide +kernel
theorem dX10_hasRulesOnTape_24 : decode cX10_hasRulesOnTape 24 = .ok (.iconst 0, 1) := by decide +kernel
theorem dX10_hasRulesOnTape_25 : decode cX10_hasRulesOnTape 25 = .ok (.ireturn, 1) := by decide +kernel
theorem dX10_judge_0 : decode cX10_judge 0 = .ok (.aload_n 0, 1) := by decide +kernel
theorem dX10_judge_1 : decode cX10_judge 1 = .ok (.getfield 27, 3) := by decide +kernel
theorem dX10_judge_4 : decode cX10_judge 4 = .ok (.aload_n 0, 1) := by decide +kernel
theorem dX10_judge_5 : decode cX10_judge 5 = .ok (.getfield 23, 3) := by decide +kernel
theorem dX10_judge_8 : decode cX10_judge 8 = .ok (.invokevirtual 127, 3) := by decide +kernel
theorem dX10_judge_11 : decode cX10_judge 11 = .ok (.iconst 0, 1) := by decide +kernel
theorem dX10_judge_12 : decode cX10_judge 12 = .ok (.istore_n 1, 1) := by decide +kernel
theorem dX10_judge_13 : decode cX10_judge 13 = .ok (.iconst 0, 1) := by decide +kernel
theorem dX10_judge_14 : decode cX10_judge 14 = .ok (.istore_n 2, 1) := by decide +kernel
theorem dX10_judge_15 : decode cX10_judge 15 = .ok (.iload_n 1, 1) := by decide +kernel
theorem dX10_judge_16 : decode cX10_judge 16 = .ok (.aload_n 0, 1) := by decide +kernel
theorem dX10_judge_17 : decode cX10_judge 17 = .ok (.getfield 56, 3) := by decide +kernel
theorem dX10_judge_20 : decode cX10_judge 20 = .ok (.getfield 343, 3) := by decide +kernel
theorem dX10_judge_23 : decode cX10_judge 23 = .ok (.if_icmp .ge 105, 3) := by decide +kernel
theorem dX10_judge_128 : decode cX10_judge 128 = .ok (.aload_n 0, 1) := by decide +kernel
theorem dX10_judge_129 : decode cX10_judge 129 = .ok (.getfield 89, 3) := by decide +kernel
theorem dX10_judge_132 : decode cX10_judge 132 = .ok (.iconst 0, 1) := by decide +kernel
theorem dX10_judge_133 : decode cX10_judge 133 = .ok (.iload_n 2, 1) := by decide +kernel
theorem dX10_judge_134 : decode cX10_judge 134 = .ok (.iastore, 1) := by decide +kernel
theorem dX10_judge_135 : decode cX10_judge 135 = .ok (.aload_n 0, 1) := by decide +kernel
theorem dX10_judge_136 : decode cX10_judge 136 = .ok (.getfield 89, 3) := by decide +kernel
theorem dX10_judge_139 : decode cX10_judge 139 = .ok (.iconst 1, 1) := by decide +kernel
theorem dX10_judge_140 : decode cX10_judge 140 = .ok (.iload_n 1, 1) := by decide +kernel
theorem dX10_judge_141 : decode cX10_judge 141 = .ok (.iastore, 1) := by decide +kernel
theorem dX10_judge_142 : decode cX10_judge 142 = .ok (.aload_n 0, 1) := by decide +kernel
theorem dX10_judge_143 : decode cX10_judge 143 = .ok (.getfield 89, 3) := by decide +kernel
theorem dX10_judge_146 : decode cX10_judge 146 = .ok (.iconst 2, 1) := by decide +kernel
theorem dX10_judge_147 : decode cX10_judge 147 = .ok (.aload_n 0, 1) := by decide +kernel
theorem dX10_judge_148 : decode cX10_judge 148 = .ok (.getfield 27, 3) := by decide +kernel
theorem dX10_judge_151 : decode cX10_judge 151 = .ok (.invokevirtual 206, 3) := by decide +kernel
theorem dX10_judge_154 : decode cX10_judge 154 = .ok (.iastore, 1) := by decide +kernel
theorem dX10_judge_155 : decode cX10_judge 155 = .ok (.aload_n 0, 1) := by decide +kernel
theorem dX10_judge_156 : decode cX10_judge 156 = .ok (.getfield 89, 3) := by decide +kernel
theorem dX10_judge_159 : decode cX10_judge 159 = .ok (.iconst 3, 1) := by decide +kernel
theorem dX10_judge_160 : decode cX10_judge 160 = .ok (.aload_n 0, 1) := by decide +kernel
theorem dX10_judge_161 : decode cX10_judge 161 = .ok (.getfield 27, 3) := by decide +kernel
theorem dX10_judge_164 : decode cX10_judge 164 = .ok (.getfield 200, 3) := by decide +kernel
theorem dX10_judge_167 : decode cX10_judge 167 = .ok (.iastore, 1) := by decide +kernel
theorem dX10_judge_168 : decode cX10_judge 168 = .ok (.iload_n 1, 1) := by decide +kernel
theorem dX10_judge_169 : decode cX10_judge 169 = .ok (.ireturn, 1) := by decide +kernel
theorem dX10_play_0 : decode cX10_play 0 = .ok (.iload_n 1, 1) := by decide +kernel
theorem dX10_play_1 : decode cX10_play 1 = .ok (.iconst 1, 1) := by decide +kernel
theorem dX10_play_2 : decode cX10_play 2 = .ok (.if_icmp .lt 21, 3) := by decide +kernel
theorem dX10_play_5 : decode cX10_play 5 = .ok (.iload_n 1, 1) := by decide +kernel
theorem dX10_play_6 : decode cX10_play 6 = .ok (.sipush 400, 3) := by decide +kernel
theorem dX10_play_9 : decode cX10_play 9 = .ok (.if_icmp .gt 14, 3) := by decide +kernel
theorem dX10_play_12 : decode cX10_play 12 = .ok (.aload_n 0, 1) := by decide +kernel
theorem dX10_play_13 : decode cX10_play 13 = .ok (.invokevirtual 317, 3) := by decide +kernel
theorem dX10_play_16 : decode cX10_play 16 = .ok (.ifCond .eq 7, 3) := by decide +kernel
theorem dX10_play_23 : decode cX10_play 23 = .ok (.iconst 0, 1) := by decide +kernel
theorem dX10_play_24 : decode cX10_play 24 = .ok (.istore_n 2, 1) := by decide +kernel
theorem dX10_play_25 : decode cX10_play 25 = .ok (.aload_n 0, 1) := by decide +kernel
theorem dX10_play_26 : decode cX10_play 26 = .ok (.iconst 0, 1) := by decide +kernel
theorem dX10_play_27 : decode cX10_play 27 = .ok (.putfield 13, 3) := by decide +kernel
theorem dX10_play_30 : decode cX10_play 30 = .ok (.iload_n 2, 1) := by decide +kernel
theorem dX10_play_31 : decode cX10_play 31 = .ok (.ifCond .ne 5, 3) := by decide +kernel
theorem dX10_play_34 : decode cX10_play 34 = .ok (.iconst (-1), 1) := by decide +kernel
theorem dX10_play_35 : decode cX10_play 35 = .ok (.ireturn, 1) := by decide +kernel
theorem dX10_putFour_0 : decode cX10_putFour 0 = .ok (.bipush 24, 2) := by decide +kernel
theorem dX10_putFour_2 : decode cX10_putFour 2 = .ok (.istore_n 2, 1) := by decide +kernel
theorem dX10_putFour_3 : decode cX10_putFour 3 = .ok (.iload_n 2, 1) := by decide +kernel
theorem dX10_putFour_4 : decode cX10_putFour 4 = .ok (.ifCond .lt 42, 3) := by decide +kernel
theorem dX10_putFour_7 : decode cX10_putFour 7 = .ok (.aload_n 0, 1) := by decide +kernel
theorem dX10_putFour_8 : decode cX10_putFour 8 = .ok (.getfield 13, 3) := by decide +kernel
theorem dX10_putFour_11 : decode cX10_putFour 11 = .ok (.sipush 940, 3) := by decide +kernel
theorem dX10_putFour_14 : decode cX10_putFour 14 = .ok (.if_icmp .ge 32, 3) := by decide +kernel
theorem dX10_putFour_17 : decode cX10_putFour 17 = .ok (.aload_n 0, 1) := by decide +kernel
theorem dX10_putFour_18 : decode cX10_putFour 18 = .ok (.getfield 9, 3) := by decide +kernel
theorem dX10_putFour_21 : decode cX10_putFour 21 = .ok (.aload_n 0, 1) := by decide +kernel
theorem dX10_putFour_22 : decode cX10_putFour 22 = .ok (.getfield 13, 3) := by decide +kernel
theorem dX10_putFour_25 : decode cX10_putFour 25 = .ok (.iload_n 1, 1) := by decide +kernel
theorem dX10_putFour_26 : decode cX10_putFour 26 = .ok (.iload_n 2, 1) := by decide +kernel
theorem dX10_putFour_27 : decode cX10_putFour 27 = .ok (.iushr, 1) := by decide +kernel
theorem dX10_putFour_28 : decode cX10_putFour 28 = .ok (.i2b, 1) := by decide +kernel
theorem dX10_putFour_29 : decode cX10_putFour 29 = .ok (.bastore, 1) := by decide +kernel
theorem dX10_putFour_30 : decode cX10_putFour 30 = .ok (.aload_n 0, 1) := by decide +kernel
theorem dX10_putFour_31 : decode cX10_putFour 31 = .ok (.dup, 1) := by decide +kernel
theorem dX10_putFour_32 : decode cX10_putFour 32 = .ok (.getfield 13, 3) := by decide +kernel
theorem dX10_putFour_35 : decode cX10_putFour 35 = .ok (.iconst 1, 1) := by decide +kernel
theorem dX10_putFour_36 : decode cX10_putFour 36 = .ok (.iadd, 1) := by decide +kernel
theorem dX10_putFour_37 : decode cX10_putFour 37 = .ok (.putfield 13, 3) := by decide +kernel
theorem dX10_putFour_40 : decode cX10_putFour 40 = .ok (.iinc 2 (-8), 3) := by decide +kernel
theorem dX10_putFour_43 : decode cX10_putFour 43 = .ok (.goto (-40), 3) := by decide +kernel
theorem dX10_putFour_46 : decode cX10_putFour 46 = .ok (.return_, 1) := by decide +kernel
theorem dX10_sentence_0 : decode cX10_sentence 0 = .ok (.aload_n 0, 1) := by decide +kernel
theorem dX10_sentence_1 : decode cX10_sentence 1 = .ok (.getfield 63, 3) := by decide +kernel
theorem dX10_sentence_4 : decode cX10_sentence 4 = .ok (.aload_n 0, 1) := by decide +kernel
theorem dX10_sentence_5 : decode cX10_sentence 5 = .ok (.getfield 9, 3) := by decide +kernel
theorem dX10_sentence_8 : decode cX10_sentence 8 = .ok (.aload_n 0, 1) := by decide +kernel
theorem dX10_sentence_9 : decode cX10_sentence 9 = .ok (.getfield 13, 3) := by decide +kernel
theorem dX10_sentence_12 : decode cX10_sentence 12 = .ok (.aload_n 0, 1) := by decide +kernel
theorem dX10_sentence_13 : decode cX10_sentence 13 = .ok (.getfield 23, 3) := by decide +kernel
theorem dX10_sentence_16 : decode cX10_sentence 16 = .ok (.invokevirtual 344, 3) := by decide +kernel
theorem dX10_sentence_19 : decode cX10_sentence 19 = .ok (.istore_n 1, 1) := by decide +kernel
theorem dX10_sentence_20 : decode cX10_sentence 20 = .ok (.aload_n 0, 1) := by decide +kernel
theorem dX10_sentence_21 : decode cX10_sentence 21 = .ok (.iconst 0, 1) := by decide +kernel
theorem dX10_sentence_22 : decode cX10_sentence 22 = .ok (.putfield 13, 3) := by decide +kernel
theorem dX10_sentence_25 : decode cX10_sentence 25 = .ok (.aload_n 0, 1) := by decide +kernel
theorem dX10_sentence_26 : decode cX10_sentence 26 = .ok (.aload_n 0, 1) := by decide +kernel
theorem dX10_sentence_27 : decode cX10_sentence 27 = .ok (.getfield 40, 3) := by decide +kernel
theorem dX10_sentence_30 : decode cX10_sentence 30 = .ok (.getfield 120, 3) := by decide +kernel
theorem dX10_sentence_33 : decode cX10_sentence 33 = .ok (.putfield 17, 3) := by decide +kernel
theorem dX10_sentence_36 : decode cX10_sentence 36 = .ok (.iload_n 1, 1) := by decide +kernel
theorem dX10_sentence_37 : decode cX10_sentence 37 = .ok (.ifCond .ne 13, 3) := by decide +kernel
theorem dX10_sentence_40 : decode cX10_sentence 40 = .ok (.iconst (-1), 1) := by decide +kernel
theorem dX10_sentence_41 : decode cX10_sentence 41 = .ok (.aload_n 0, 1) := by decide +kernel
theorem dX10_sentence_42 : decode cX10_sentence 42 = .ok (.getfield 40, 3) := by decide +kernel
theorem dX10_sentence_45 : decode cX10_sentence 45 = .ok (.getfield 121, 3) := by decide +kernel
theorem dX10_sentence_48 : decode cX10_sentence 48 = .ok (.isub, 1) := by decide +kernel
theorem dX10_sentence_49 : decode cX10_sentence 49 = .ok (.ireturn, 1) := by decide +kernel
theorem dX10_table_0 : decode cX10_table 0 = .ok (.aload_n 0, 1) := by decide +kernel
theorem dX10_table_1 : decode cX10_table 1 = .ok (.getfield 49, 3) := by decide +kernel
theorem dX10_table_4 : decode cX10_table 4 = .ok (.aload_n 0, 1) := by decide +kernel
theorem dX10_table_5 : decode cX10_table 5 = .ok (.getfield 9, 3) := by decide +kernel
theorem dX10_table_8 : decode cX10_table 8 = .ok (.aload_n 0, 1) := by decide +kernel
theorem dX10_table_9 : decode cX10_table 9 = .ok (.getfield 13, 3) := by decide +kernel
theorem dX10_table_12 : decode cX10_table 12 = .ok (.aload_n 0, 1) := by decide +kernel
theorem dX10_table_13 : decode cX10_table 13 = .ok (.getfield 27, 3) := by decide +kernel
theorem dX10_table_16 : decode cX10_table 16 = .ok (.invokevirtual 116, 3) := by decide +kernel
theorem dX10_table_19 : decode cX10_table 19 = .ok (.istore_n 1, 1) := by decide +kernel
theorem dX10_table_20 : decode cX10_table 20 = .ok (.aload_n 0, 1) := by decide +kernel
theorem dX10_table_21 : decode cX10_table 21 = .ok (.iconst 0, 1) := by decide +kernel
theorem dX10_table_22 : decode cX10_table 22 = .ok (.putfield 13, 3) := by decide +kernel
theorem dX10_table_25 : decode cX10_table 25 = .ok (.aload_n 0, 1) := by decide +kernel
theorem dX10_table_26 : decode cX10_table 26 = .ok (.aload_n 0, 1) := by decide +kernel
theorem dX10_table_27 : decode cX10_table 27 = .ok (.getfield 40, 3) := by decide +kernel
theorem dX10_table_30 : decode cX10_table 30 = .ok (.getfield 120, 3) := by decide +kernel
theorem dX10_table_33 : decode cX10_table 33 = .ok (.putfield 17, 3) := by decide +kernel
theorem dX10_table_36 : decode cX10_table 36 = .ok (.iload_n 1, 1) := by decide +kernel
theorem dX10_table_37 : decode cX10_table 37 = .ok (.ifCond .ne 13, 3) := by decide +kernel
theorem dX10_table_50 : decode cX10_table 50 = .ok (.aload_n 0, 1) := by decide +kernel
theorem dX10_table_51 : decode cX10_table 51 = .ok (.getfield 27, 3) := by decide +kernel
theorem dX10_table_54 : decode cX10_table 54 = .ok (.invokevirtual 124, 3) := by decide +kernel
theorem dX10_table_57 : decode cX10_table 57 = .ok (.aload_n 0, 1) := by decide +kernel
theorem dX10_table_58 : decode cX10_table 58 = .ok (.getfield 23, 3) := by decide +kernel
theorem dX10_table_61 : decode cX10_table 61 = .ok (.aload_n 0, 1) := by decide +kernel
theorem dX10_table_62 : decode cX10_table 62 = .ok (.getfield 27, 3) := by decide +kernel
theorem dX10_table_65 : decode cX10_table 65 = .ok (.invokevirtual 127, 3) := by decide +kernel
theorem dX10_table_68 : decode cX10_table 68 = .ok (.aload_n 0, 1) := by decide +kernel
theorem dX10_table_69 : decode cX10_table 69 = .ok (.getfield 33, 3) := by decide +kernel
theorem dX10_table_72 : decode cX10_table 72 = .ok (.invokevirtual 131, 3) := by decide +kernel
theorem dX10_table_75 : decode cX10_table 75 = .ok (.aload_n 0, 1) := by decide +kernel
theorem dX10_table_76 : decode cX10_table 76 = .ok (.getfield 70, 3) := by decide +kernel
theorem dX10_table_79 : decode cX10_table 79 = .ok (.invokevirtual 134, 3) := by decide +kernel
theorem dX10_table_82 : decode cX10_table 82 = .ok (.aload_n 0, 1) := by decide +kernel
theorem dX10_table_83 : decode cX10_table 83 = .ok (.getfield 49, 3) := by decide +kernel
theorem dX10_table_86 : decode cX10_table 86 = .ok (.getfield 135, 3) := by decide +kernel
theorem dX10_table_89 : decode cX10_table 89 = .ok (.ireturn, 1) := by decide +kernel
theorem dX1_read_0 : decode cX1_read 0 = .ok (.aload_n 0, 1) := by decide +kernel
theorem dX1_read_1 : decode cX1_read 1 = .ok (.iconst 0, 1) := by decide +kernel
theorem dX1_read_2 : decode cX1_read 2 = .ok (.putfield 15, 3) := by decide +kernel
theorem dX1_read_5 : decode cX1_read 5 = .ok (.aload_n 0, 1) := by decide +kernel
theorem dX1_read_6 : decode cX1_read 6 = .ok (.getfield 19, 3) := by decide +kernel
theorem dX1_read_9 : decode cX1_read 9 = .ok (.aload_n 1, 1) := by decide +kernel
theorem dX1_read_10 : decode cX1_read 10 = .ok (.iload_n 2, 1) := by decide +kernel
theorem dX1_read_11 : decode cX1_read 11 = .ok (.sipush 500, 3) := by decide +kernel
theorem dX1_read_14 : decode cX1_read 14 = .ok (.invokevirtual 23, 3) := by decide +kernel
theorem dX1_read_17 : decode cX1_read 17 = .ok (.aload_n 0, 1) := by decide +kernel
theorem dX1_read_18 : decode cX1_read 18 = .ok (.getfield 15, 3) := by decide +kernel
theorem dX1_read_21 : decode cX1_read 21 = .ok (.bipush 30, 2) := by decide +kernel
theorem dX1_read_23 : decode cX1_read 23 = .ok (.if_icmp .gt 51, 3) := by decide +kernel
theorem dX1_read_26 : decode cX1_read 26 = .ok (.aload_n 0, 1) := by decide +kernel
theorem dX1_read_27 : decode cX1_read 27 = .ok (.getfield 19, 3) := by decide +kernel
theorem dX1_read_30 : decode cX1_read 30 = .ok (.sipush 302, 3) := by decide +kernel
theorem dX1_read_33 : decode cX1_read 33 = .ok (.invokevirtual 29, 3) := by decide +kernel
theorem dX1_read_36 : decode cX1_read 36 = .ok (.ifCond .ne 38, 3) := by decide +kernel
theorem dX1_read_74 : decode cX1_read 74 = .ok (.iconst 1, 1) := by decide +kernel
theorem dX1_read_75 : decode cX1_read 75 = .ok (.ireturn, 1) := by decide +kernel
theorem dX2_clear_0 : decode cX2_clear 0 = .ok (.aload_n 0, 1) := by decide +kernel
theorem dX2_clear_1 : decode cX2_clear 1 = .ok (.iconst 0, 1) := by decide +kernel
theorem dX2_clear_2 : decode cX2_clear 2 = .ok (.putfield 9, 3) := by decide +kernel
theorem dX2_clear_5 : decode cX2_clear 5 = .ok (.aload_n 0, 1) := by decide +kernel
theorem dX2_clear_6 : decode cX2_clear 6 = .ok (.iconst 0, 1) := by decide +kernel
theorem dX2_clear_7 : decode cX2_clear 7 = .ok (.putfield 15, 3) := by decide +kernel
theorem dX2_clear_10 : decode cX2_clear 10 = .ok (.aload_n 0, 1) := by decide +kernel
theorem dX2_clear_11 : decode cX2_clear 11 = .ok (.iconst 0, 1) := by decide +kernel
theorem dX2_clear_12 : decode cX2_clear 12 = .ok (.putfield 18, 3) := by decide +kernel
theorem dX2_clear_15 : decode cX2_clear 15 = .ok (.aload_n 0, 1) := by decide +kernel
theorem dX2_clear_16 : decode cX2_clear 16 = .ok (.iconst 0, 1) := by decide +kernel
theorem dX2_clear_17 : decode cX2_clear 17 = .ok (.putfield 22, 3) := by decide +kernel
theorem dX2_clear_20 : decode cX2_clear 20 = .ok (.aload_n 0, 1) := by decide +kernel
theorem dX2_clear_21 : decode cX2_clear 21 = .ok (.invokevirtual 89, 3) := by decide +kernel
theorem dX2_clear_24 : decode cX2_clear 24 = .ok (.return_, 1) := by decide +kernel
theorem dX2_copyFrom_0 : decode cX2_copyFrom 0 = .ok (.aload_n 0, 1) := by decide +kernel
theorem dX2_copyFrom_1 : decode cX2_copyFrom 1 = .ok (.aload_n 1, 1) := by decide +kernel
theorem dX2_copyFrom_2 : decode cX2_copyFrom 2 = .ok (.getfield 9, 3) := by decide +kernel
theorem dX2_copyFrom_5 : decode cX2_copyFrom 5 = .ok (.putfield 9, 3) := by decide +kernel
theorem dX2_copyFrom_8 : decode cX2_copyFrom 8 = .ok (.aload_n 0, 1) := by decide +kernel
theorem dX2_copyFrom_9 : decode cX2_copyFrom 9 = .ok (.aload_n 1, 1) := by decide +kernel
theorem dX2_copyFrom_10 : decode cX2_copyFrom 10 = .ok (.getfield 15, 3) := by decide +kernel
theorem dX2_copyFrom_13 : decode cX2_copyFrom 13 = .ok (.putfield 15, 3) := by decide +kernel
theorem dX2_copyFrom_16 : decode cX2_copyFrom 16 = .ok (.aload_n 0, 1) := by decide +kernel
theorem dX2_copyFrom_17 : decode cX2_copyFrom 17 = .ok (.aload_n 1, 1) := by decide +kernel
theorem dX2_copyFrom_18 : decode cX2_copyFrom 18 = .ok (.getfield 18, 3) := by decide +kernel
theorem dX2_copyFrom_21 : decode cX2_copyFrom 21 = .ok (.putfield 18, 3) := by decide +kernel
theorem dX2_copyFrom_24 : decode cX2_copyFrom 24 = .ok (.aload_n 0, 1) := by decide +kernel
theorem dX2_copyFrom_25 : decode cX2_copyFrom 25 = .ok (.aload_n 1, 1) := by decide +kernel
theorem dX2_copyFrom_26 : decode cX2_copyFrom 26 = .ok (.getfield 22, 3) := by decide +kernel
theorem dX2_copyFrom_29 : decode cX2_copyFrom 29 = .ok (.putfield 22, 3) := by decide +kernel
theorem dX2_copyFrom_32 : decode cX2_copyFrom 32 = .ok (.aload_n 1, 1) := by decide +kernel
theorem dX2_copyFrom_33 : decode cX2_copyFrom 33 = .ok (.getfield 25, 3) := by decide +kernel
theorem dX2_copyFrom_36 : decode cX2_copyFrom 36 = .ok (.iconst 0, 1) := by decide +kernel
theorem dX2_copyFrom_37 : decode cX2_copyFrom 37 = .ok (.aload_n 0, 1) := by decide +kernel
theorem dX2_copyFrom_38 : decode cX2_copyFrom 38 = .ok (.getfield 25, 3) := by decide +kernel
theorem dX2_copyFrom_41 : decode cX2_copyFrom 41 = .ok (.iconst 0, 1) := by decide +kernel
theorem dX2_copyFrom_42 : decode cX2_copyFrom 42 = .ok (.aload_n 0, 1) := by decide +kernel
theorem dX2_copyFrom_43 : decode cX2_copyFrom 43 = .ok (.getfield 25, 3) := by decide +kernel
theorem dX2_copyFrom_46 : decode cX2_copyFrom 46 = .ok (.arraylength, 1) := by decide +kernel
theorem dX2_copyFrom_47 : decode cX2_copyFrom 47 = .ok (.invokestatic 79, 3) := by decide +kernel
theorem dX2_copyFrom_50 : decode cX2_copyFrom 50 = .ok (.aload_n 1, 1) := by decide +kernel
theorem dX2_copyFrom_51 : decode cX2_copyFrom 51 = .ok (.getfield 29, 3) := by decide +kernel
theorem dX2_copyFrom_54 : decode cX2_copyFrom 54 = .ok (.iconst 0, 1) := by decide +kernel
theorem dX2_copyFrom_55 : decode cX2_copyFrom 55 = .ok (.aload_n 0, 1) := by decide +kernel
theorem dX2_copyFrom_56 : decode cX2_copyFrom 56 = .ok (.getfield 29, 3) := by decide +kernel
theorem dX2_copyFrom_59 : decode cX2_copyFrom 59 = .ok (.iconst 0, 1) := by decide +kernel
theorem dX2_copyFrom_60 : decode cX2_copyFrom 60 = .ok (.aload_n 0, 1) := by decide +kernel
theorem dX2_copyFrom_61 : decode cX2_copyFrom 61 = .ok (.getfield 29, 3) := by decide +kernel
theorem dX2_copyFrom_64 : decode cX2_copyFrom 64 = .ok (.arraylength, 1) := by decide +kernel
theorem dX2_copyFrom_65 : decode cX2_copyFrom 65 = .ok (.invokestatic 79, 3) := by decide +kernel
theorem dX2_copyFrom_68 : decode cX2_copyFrom 68 = .ok (.aload_n 1, 1) := by decide +kernel
theorem dX2_copyFrom_69 : decode cX2_copyFrom 69 = .ok (.getfield 33, 3) := by decide +kernel
theorem dX2_copyFrom_72 : decode cX2_copyFrom 72 = .ok (.iconst 0, 1) := by decide +kernel
theorem dX2_copyFrom_73 : decode cX2_copyFrom 73 = .ok (.aload_n 0, 1) := by decide +kernel
theorem dX2_copyFrom_74 : decode cX2_copyFrom 74 = .ok (.getfield 33, 3) := by decide +kernel
theorem dX2_copyFrom_77 : decode cX2_copyFrom 77 = .ok (.iconst 0, 1) := by decide +kernel
theorem dX2_copyFrom_78 : decode cX2_copyFrom 78 = .ok (.aload_n 0, 1) := by decide +kernel
theorem dX2_copyFrom_79 : decode cX2_copyFrom 79 = .ok (.getfield 33, 3) := by decide +kernel
theorem dX2_copyFrom_82 : decode cX2_copyFrom 82 = .ok (.arraylength, 1) := by decide +kernel
theorem dX2_copyFrom_83 : decode cX2_copyFrom 83 = .ok (.invokestatic 79, 3) := by decide +kernel
theorem dX2_copyFrom_86 : decode cX2_copyFrom 86 = .ok (.aload_n 1, 1) := by decide +kernel
theorem dX2_copyFrom_87 : decode cX2_copyFrom 87 = .ok (.getfield 36, 3) := by decide +kernel
theorem dX2_copyFrom_90 : decode cX2_copyFrom 90 = .ok (.iconst 0, 1) := by decide +kernel
theorem dX2_copyFrom_91 : decode cX2_copyFrom 91 = .ok (.aload_n 0, 1) := by decide +kernel
theorem dX2_copyFrom_92 : decode cX2_copyFrom 92 = .ok (.getfield 36, 3) := by decide +kernel
theorem dX2_copyFrom_95 : decode cX2_copyFrom 95 = .ok (.iconst 0, 1) := by decide +kernel
theorem dX2_copyFrom_96 : decode cX2_copyFrom 96 = .ok (.aload_n 0, 1) := by decide +kernel
theorem dX2_copyFrom_97 : decode cX2_copyFrom 97 = .ok (.getfield 36, 3) := by decide +kernel
theorem dX2_copyFrom_100 : decode cX2_copyFrom 100 = .ok (.arraylength, 1) := by decide +kernel
theorem dX2_copyFrom_101 : decode cX2_copyFrom 101 = .ok (.invokestatic 79, 3) := by decide +kernel
theorem dX2_copyFrom_104 : decode cX2_copyFrom 104 = .ok (.aload_n 0, 1) := by decide +kernel
theorem dX2_copyFrom_105 : decode cX2_copyFrom 105 = .ok (.aload_n 1, 1) := by decide +kernel
theorem dX2_copyFrom_106 : decode cX2_copyFrom 106 = .ok (.getfield 39, 3) := by decide +kernel
theorem dX2_copyFrom_109 : decode cX2_copyFrom 109 = .ok (.putfield 39, 3) := by decide +kernel
theorem dX2_copyFrom_112 : decode cX2_copyFrom 112 = .ok (.aload_n 0, 1) := by decide +kernel
theorem dX2_copyFrom_113 : decode cX2_copyFrom 113 = .ok (.aload_n 1, 1) := by decide +kernel
theorem dX2_copyFrom_114 : decode cX2_copyFrom 114 = .ok (.getfield 42, 3) := by decide +kernel
theorem dX2_copyFrom_117 : decode cX2_copyFrom 117 = .ok (.putfield 42, 3) := by decide +kernel
theorem dX2_copyFrom_120 : decode cX2_copyFrom 120 = .ok (.aload_n 1, 1) := by decide +kernel
theorem dX2_copyFrom_121 : decode cX2_copyFrom 121 = .ok (.getfield 45, 3) := by decide +kernel
theorem dX2_copyFrom_124 : decode cX2_copyFrom 124 = .ok (.iconst 0, 1) := by decide +kernel
theorem dX2_copyFrom_125 : decode cX2_copyFrom 125 = .ok (.aload_n 0, 1) := by decide +kernel
theorem dX2_copyFrom_126 : decode cX2_copyFrom 126 = .ok (.getfield 45, 3) := by decide +kernel
theorem dX2_copyFrom_129 : decode cX2_copyFrom 129 = .ok (.iconst 0, 1) := by decide +kernel
theorem dX2_copyFrom_130 : decode cX2_copyFrom 130 = .ok (.aload_n 0, 1) := by decide +kernel
theorem dX2_copyFrom_131 : decode cX2_copyFrom 131 = .ok (.getfield 45, 3) := by decide +kernel
theorem dX2_copyFrom_134 : decode cX2_copyFrom 134 = .ok (.arraylength, 1) := by decide +kernel
theorem dX2_copyFrom_135 : decode cX2_copyFrom 135 = .ok (.invokestatic 79, 3) := by decide +kernel
theorem dX2_copyFrom_138 : decode cX2_copyFrom 138 = .ok (.aload_n 1, 1) := by decide +kernel
theorem dX2_copyFrom_139 : decode cX2_copyFrom 139 = .ok (.getfield 48, 3) := by decide +kernel
theorem dX2_copyFrom_142 : decode cX2_copyFrom 142 = .ok (.iconst 0, 1) := by decide +kernel
theorem dX2_copyFrom_143 : decode cX2_copyFrom 143 = .ok (.aload_n 0, 1) := by decide +kernel
theorem dX2_copyFrom_144 : decode cX2_copyFrom 144 = .ok (.getfield 48, 3) := by decide +kernel
theorem dX2_copyFrom_147 : decode cX2_copyFrom 147 = .ok (.iconst 0, 1) := by decide +kernel
theorem dX2_copyFrom_148 : decode cX2_copyFrom 148 = .ok (.aload_n 0, 1) := by decide +kernel
theorem dX2_copyFrom_149 : decode cX2_copyFrom 149 = .ok (.getfield 48, 3) := by decide +kernel
theorem dX2_copyFrom_152 : decode cX2_copyFrom 152 = .ok (.arraylength, 1) := by decide +kernel
theorem dX2_copyFrom_153 : decode cX2_copyFrom 153 = .ok (.invokestatic 79, 3) := by decide +kernel
theorem dX2_copyFrom_156 : decode cX2_copyFrom 156 = .ok (.aload_n 1, 1) := by decide +kernel
theorem dX2_copyFrom_157 : decode cX2_copyFrom 157 = .ok (.getfield 51, 3) := by decide +kernel
theorem dX2_copyFrom_160 : decode cX2_copyFrom 160 = .ok (.iconst 0, 1) := by decide +kernel
theorem dX2_copyFrom_161 : decode cX2_copyFrom 161 = .ok (.aload_n 0, 1) := by decide +kernel
theorem dX2_copyFrom_162 : decode cX2_copyFrom 162 = .ok (.getfield 51, 3) := by decide +kernel
theorem dX2_copyFrom_165 : decode cX2_copyFrom 165 = .ok (.iconst 0, 1) := by decide +kernel
theorem dX2_copyFrom_166 : decode cX2_copyFrom 166 = .ok (.aload_n 0, 1) := by decide +kernel
theorem dX2_copyFrom_167 : decode cX2_copyFrom 167 = .ok (.getfield 51, 3) := by decide +kernel
theorem dX2_copyFrom_170 : decode cX2_copyFrom 170 = .ok (.arraylength, 1) := by decide +kernel
theorem dX2_copyFrom_171 : decode cX2_copyFrom 171 = .ok (.invokestatic 79, 3) := by decide +kernel
theorem dX2_copyFrom_174 : decode cX2_copyFrom 174 = .ok (.aload_n 1, 1) := by decide +kernel
theorem dX2_copyFrom_175 : decode cX2_copyFrom 175 = .ok (.getfield 54, 3) := by decide +kernel
theorem dX2_copyFrom_178 : decode cX2_copyFrom 178 = .ok (.iconst 0, 1) := by decide +kernel
theorem dX2_copyFrom_179 : decode cX2_copyFrom 179 = .ok (.aload_n 0, 1) := by decide +kernel
theorem dX2_copyFrom_180 : decode cX2_copyFrom 180 = .ok (.getfield 54, 3) := by decide +kernel
theorem dX2_copyFrom_183 : decode cX2_copyFrom 183 = .ok (.iconst 0, 1) := by decide +kernel
theorem dX2_copyFrom_184 : decode cX2_copyFrom 184 = .ok (.aload_n 0, 1) := by decide +kernel
theorem dX2_copyFrom_185 : decode cX2_copyFrom 185 = .ok (.getfield 54, 3) := by decide +kernel
theorem dX2_copyFrom_188 : decode cX2_copyFrom 188 = .ok (.arraylength, 1) := by decide +kernel
theorem dX2_copyFrom_189 : decode cX2_copyFrom 189 = .ok (.invokestatic 79, 3) := by decide +kernel
theorem dX2_copyFrom_192 : decode cX2_copyFrom 192 = .ok (.aload_n 0, 1) := by decide +kernel
theorem dX2_copyFrom_193 : decode cX2_copyFrom 193 = .ok (.aload_n 1, 1) := by decide +kernel
theorem dX2_copyFrom_194 : decode cX2_copyFrom 194 = .ok (.getfield 57, 3) := by decide +kernel
theorem dX2_copyFrom_197 : decode cX2_copyFrom 197 = .ok (.putfield 57, 3) := by decide +kernel
theorem dX2_copyFrom_200 : decode cX2_copyFrom 200 = .ok (.aload_n 0, 1) := by decide +kernel
theorem dX2_copyFrom_201 : decode cX2_copyFrom 201 = .ok (.aload_n 1, 1) := by decide +kernel
theorem dX2_copyFrom_202 : decode cX2_copyFrom 202 = .ok (.getfield 60, 3) := by decide +kernel
theorem dX2_copyFrom_205 : decode cX2_copyFrom 205 = .ok (.putfield 60, 3) := by decide +kernel
theorem dX2_copyFrom_208 : decode cX2_copyFrom 208 = .ok (.aload_n 0, 1) := by decide +kernel
theorem dX2_copyFrom_209 : decode cX2_copyFrom 209 = .ok (.aload_n 1, 1) := by decide +kernel
theorem dX2_copyFrom_210 : decode cX2_copyFrom 210 = .ok (.getfield 63, 3) := by decide +kernel
theorem dX2_copyFrom_213 : decode cX2_copyFrom 213 = .ok (.putfield 63, 3) := by decide +kernel
theorem dX2_copyFrom_216 : decode cX2_copyFrom 216 = .ok (.aload_n 0, 1) := by decide +kernel
theorem dX2_copyFrom_217 : decode cX2_copyFrom 217 = .ok (.getfield 69, 3) := by decide +kernel
theorem dX2_copyFrom_220 : decode cX2_copyFrom 220 = .ok (.aload_n 1, 1) := by decide +kernel
theorem dX2_copyFrom_221 : decode cX2_copyFrom 221 = .ok (.getfield 69, 3) := by decide +kernel
theorem dX2_copyFrom_224 : decode cX2_copyFrom 224 = .ok (.invokevirtual 85, 3) := by decide +kernel
theorem dX2_copyFrom_227 : decode cX2_copyFrom 227 = .ok (.return_, 1) := by decide +kernel
theorem dX2_settle_0 : decode cX2_settle 0 = .ok (.aload_n 0, 1) := by decide +kernel
theorem dX2_settle_1 : decode cX2_settle 1 = .ok (.iconst (-1), 1) := by decide +kernel
theorem dX2_settle_2 : decode cX2_settle 2 = .ok (.putfield 57, 3) := by decide +kernel
theorem dX2_settle_5 : decode cX2_settle 5 = .ok (.iload_n 1, 1) := by decide +kernel
theorem dX2_settle_6 : decode cX2_settle 6 = .ok (.istore_n 2, 1) := by decide +kernel
theorem dX2_settle_7 : decode cX2_settle 7 = .ok (.iconst 0, 1) := by decide +kernel
theorem dX2_settle_8 : decode cX2_settle 8 = .ok (.istore_n 3, 1) := by decide +kernel
theorem dX2_settle_9 : decode cX2_settle 9 = .ok (.iload_n 3, 1) := by decide +kernel
theorem dX2_settle_10 : decode cX2_settle 10 = .ok (.aload_n 0, 1) := by decide +kernel
theorem dX2_settle_11 : decode cX2_settle 11 = .ok (.getfield 15, 3) := by decide +kernel
theorem dX2_settle_14 : decode cX2_settle 14 = .ok (.if_icmp .ge 42, 3) := by decide +kernel
theorem dX2_settle_56 : decode cX2_settle 56 = .ok (.return_, 1) := by decide +kernel
theorem dX2_start_0 : decode cX2_start 0 = .ok (.aload_n 0, 1) := by decide +kernel
theorem dX2_start_1 : decode cX2_start 1 = .ok (.getfield 45, 3) := by decide +kernel
theorem dX2_start_4 : decode cX2_start 4 = .ok (.iconst (-1), 1) := by decide +kernel
theorem dX2_start_5 : decode cX2_start 5 = .ok (.invokestatic 73, 3) := by decide +kernel
theorem dX2_start_8 : decode cX2_start 8 = .ok (.aload_n 0, 1) := by decide +kernel
theorem dX2_start_9 : decode cX2_start 9 = .ok (.getfield 48, 3) := by decide +kernel
theorem dX2_start_12 : decode cX2_start 12 = .ok (.iconst 0, 1) := by decide +kernel
theorem dX2_start_13 : decode cX2_start 13 = .ok (.invokestatic 73, 3) := by decide +kernel
theorem dX2_start_16 : decode cX2_start 16 = .ok (.aload_n 0, 1) := by decide +kernel
theorem dX2_start_17 : decode cX2_start 17 = .ok (.getfield 51, 3) := by decide +kernel
theorem dX2_start_20 : decode cX2_start 20 = .ok (.iconst 0, 1) := by decide +kernel
theorem dX2_start_21 : decode cX2_start 21 = .ok (.invokestatic 73, 3) := by decide +kernel
theorem dX2_start_24 : decode cX2_start 24 = .ok (.aload_n 0, 1) := by decide +kernel
theorem dX2_start_25 : decode cX2_start 25 = .ok (.getfield 54, 3) := by decide +kernel
theorem dX2_start_28 : decode cX2_start 28 = .ok (.iconst (-1), 1) := by decide +kernel
theorem dX2_start_29 : decode cX2_start 29 = .ok (.invokestatic 73, 3) := by decide +kernel
theorem dX2_start_32 : decode cX2_start 32 = .ok (.aload_n 0, 1) := by decide +kernel
theorem dX2_start_33 : decode cX2_start 33 = .ok (.iconst 0, 1) := by decide +kernel
theorem dX2_start_34 : decode cX2_start 34 = .ok (.putfield 60, 3) := by decide +kernel
theorem dX2_start_37 : decode cX2_start 37 = .ok (.aload_n 0, 1) := by decide +kernel
theorem dX2_start_38 : decode cX2_start 38 = .ok (.iconst 0, 1) := by decide +kernel
theorem dX2_start_39 : decode cX2_start 39 = .ok (.putfield 63, 3) := by decide +kernel
theorem dX2_start_42 : decode cX2_start 42 = .ok (.aload_n 0, 1) := by decide +kernel
theorem dX2_start_43 : decode cX2_start 43 = .ok (.getfield 69, 3) := by decide +kernel
theorem dX2_start_46 : decode cX2_start 46 = .ok (.invokevirtual 109, 3) := by decide +kernel
theorem dX2_start_49 : decode cX2_start 49 = .ok (.iconst 0, 1) := by decide +kernel
theorem dX2_start_50 : decode cX2_start 50 = .ok (.istore_n 1, 1) := by decide +kernel
theorem dX2_start_51 : decode cX2_start 51 = .ok (.iload_n 1, 1) := by decide +kernel
theorem dX2_start_52 : decode cX2_start 52 = .ok (.aload_n 0, 1) := by decide +kernel
theorem dX2_start_53 : decode cX2_start 53 = .ok (.getfield 15, 3) := by decide +kernel
theorem dX2_start_56 : decode cX2_start 56 = .ok (.if_icmp .ge 35, 3) := by decide +kernel
theorem dX2_start_91 : decode cX2_start 91 = .ok (.iconst 0, 1) := by decide +kernel
theorem dX2_start_92 : decode cX2_start 92 = .ok (.istore_n 1, 1) := by decide +kernel
theorem dX2_start_93 : decode cX2_start 93 = .ok (.iload_n 1, 1) := by decide +kernel
theorem dX2_start_94 : decode cX2_start 94 = .ok (.aload_n 0, 1) := by decide +kernel
theorem dX2_start_95 : decode cX2_start 95 = .ok (.getfield 15, 3) := by decide +kernel
theorem dX2_start_98 : decode cX2_start 98 = .ok (.if_icmp .ge 32, 3) := by decide +kernel
theorem dX2_start_130 : decode cX2_start 130 = .ok (.aload_n 0, 1) := by decide +kernel
theorem dX2_start_131 : decode cX2_start 131 = .ok (.iconst 0, 1) := by decide +kernel
theorem dX2_start_132 : decode cX2_start 132 = .ok (.invokevirtual 120, 3) := by decide +kernel
theorem dX2_start_135 : decode cX2_start 135 = .ok (.return_, 1) := by decide +kernel
theorem dX2_takeCardsAway_0 : decode cX2_takeCardsAway 0 = .ok (.aload_n 0, 1) := by decide +kernel
theorem dX2_takeCardsAway_1 : decode cX2_takeCardsAway 1 = .ok (.getfield 29, 3) := by decide +kernel
theorem dX2_takeCardsAway_4 : decode cX2_takeCardsAway 4 = .ok (.iconst 0, 1) := by decide +kernel
theorem dX2_takeCardsAway_5 : decode cX2_takeCardsAway 5 = .ok (.invokestatic 73, 3) := by decide +kernel
theorem dX2_takeCardsAway_8 : decode cX2_takeCardsAway 8 = .ok (.aload_n 0, 1) := by decide +kernel
theorem dX2_takeCardsAway_9 : decode cX2_takeCardsAway 9 = .ok (.getfield 33, 3) := by decide +kernel
theorem dX2_takeCardsAway_12 : decode cX2_takeCardsAway 12 = .ok (.iconst 0, 1) := by decide +kernel
theorem dX2_takeCardsAway_13 : decode cX2_takeCardsAway 13 = .ok (.invokestatic 73, 3) := by decide +kernel
theorem dX2_takeCardsAway_16 : decode cX2_takeCardsAway 16 = .ok (.aload_n 0, 1) := by decide +kernel
theorem dX2_takeCardsAway_17 : decode cX2_takeCardsAway 17 = .ok (.iconst 0, 1) := by decide +kernel
theorem dX2_takeCardsAway_18 : decode cX2_takeCardsAway 18 = .ok (.putfield 39, 3) := by decide +kernel
theorem dX2_takeCardsAway_21 : decode cX2_takeCardsAway 21 = .ok (.aload_n 0, 1) := by decide +kernel
theorem dX2_takeCardsAway_22 : decode cX2_takeCardsAway 22 = .ok (.iconst 0, 1) := by decide +kernel
theorem dX2_takeCardsAway_23 : decode cX2_takeCardsAway 23 = .ok (.putfield 42, 3) := by decide +kernel
theorem dX2_takeCardsAway_26 : decode cX2_takeCardsAway 26 = .ok (.return_, 1) := by decide +kernel
theorem dX3_clear_0 : decode cX3_clear 0 = .ok (.aload_n 0, 1) := by decide +kernel
theorem dX3_clear_1 : decode cX3_clear 1 = .ok (.getfield 9, 3) := by decide +kernel
theorem dX3_clear_4 : decode cX3_clear 4 = .ok (.iconst 0, 1) := by decide +kernel
theorem dX3_clear_5 : decode cX3_clear 5 = .ok (.invokestatic 25, 3) := by decide +kernel
theorem dX3_clear_8 : decode cX3_clear 8 = .ok (.aload_n 0, 1) := by decide +kernel
theorem dX3_clear_9 : decode cX3_clear 9 = .ok (.getfield 22, 3) := by decide +kernel
theorem dX3_clear_12 : decode cX3_clear 12 = .ok (.iconst 0, 1) := by decide +kernel
theorem dX3_clear_13 : decode cX3_clear 13 = .ok (.invokestatic 25, 3) := by decide +kernel
theorem dX3_clear_16 : decode cX3_clear 16 = .ok (.aload_n 0, 1) := by decide +kernel
theorem dX3_clear_17 : decode cX3_clear 17 = .ok (.iconst 0, 1) := by decide +kernel
theorem dX3_clear_18 : decode cX3_clear 18 = .ok (.putfield 18, 3) := by decide +kernel
theorem dX3_clear_21 : decode cX3_clear 21 = .ok (.return_, 1) := by decide +kernel
theorem dX3_copyFrom_0 : decode cX3_copyFrom 0 = .ok (.aload_n 1, 1) := by decide +kernel
theorem dX3_copyFrom_1 : decode cX3_copyFrom 1 = .ok (.getfield 9, 3) := by decide +kernel
theorem dX3_copyFrom_4 : decode cX3_copyFrom 4 = .ok (.iconst 0, 1) := by decide +kernel
theorem dX3_copyFrom_5 : decode cX3_copyFrom 5 = .ok (.aload_n 0, 1) := by decide +kernel
theorem dX3_copyFrom_6 : decode cX3_copyFrom 6 = .ok (.getfield 9, 3) := by decide +kernel
theorem dX3_copyFrom_9 : decode cX3_copyFrom 9 = .ok (.iconst 0, 1) := by decide +kernel
theorem dX3_copyFrom_10 : decode cX3_copyFrom 10 = .ok (.aload_n 0, 1) := by decide +kernel
theorem dX3_copyFrom_11 : decode cX3_copyFrom 11 = .ok (.getfield 9, 3) := by decide +kernel
theorem dX3_copyFrom_14 : decode cX3_copyFrom 14 = .ok (.arraylength, 1) := by decide +kernel
theorem dX3_copyFrom_15 : decode cX3_copyFrom 15 = .ok (.invokestatic 31, 3) := by decide +kernel
theorem dX3_copyFrom_18 : decode cX3_copyFrom 18 = .ok (.aload_n 1, 1) := by decide +kernel
theorem dX3_copyFrom_19 : decode cX3_copyFrom 19 = .ok (.getfield 15, 3) := by decide +kernel
theorem dX3_copyFrom_22 : decode cX3_copyFrom 22 = .ok (.iconst 0, 1) := by decide +kernel
theorem dX3_copyFrom_23 : decode cX3_copyFrom 23 = .ok (.aload_n 0, 1) := by decide +kernel
theorem dX3_copyFrom_24 : decode cX3_copyFrom 24 = .ok (.getfield 15, 3) := by decide +kernel
theorem dX3_copyFrom_27 : decode cX3_copyFrom 27 = .ok (.iconst 0, 1) := by decide +kernel
theorem dX3_copyFrom_28 : decode cX3_copyFrom 28 = .ok (.aload_n 1, 1) := by decide +kernel
theorem dX3_copyFrom_29 : decode cX3_copyFrom 29 = .ok (.getfield 18, 3) := by decide +kernel
theorem dX3_copyFrom_32 : decode cX3_copyFrom 32 = .ok (.invokestatic 31, 3) := by decide +kernel
theorem dX3_copyFrom_35 : decode cX3_copyFrom 35 = .ok (.aload_n 1, 1) := by decide +kernel
theorem dX3_copyFrom_36 : decode cX3_copyFrom 36 = .ok (.getfield 22, 3) := by decide +kernel
theorem dX3_copyFrom_39 : decode cX3_copyFrom 39 = .ok (.iconst 0, 1) := by decide +kernel
theorem dX3_copyFrom_40 : decode cX3_copyFrom 40 = .ok (.aload_n 0, 1) := by decide +kernel
theorem dX3_copyFrom_41 : decode cX3_copyFrom 41 = .ok (.getfield 22, 3) := by decide +kernel
theorem dX3_copyFrom_44 : decode cX3_copyFrom 44 = .ok (.iconst 0, 1) := by decide +kernel
theorem dX3_copyFrom_45 : decode cX3_copyFrom 45 = .ok (.aload_n 0, 1) := by decide +kernel
theorem dX3_copyFrom_46 : decode cX3_copyFrom 46 = .ok (.getfield 22, 3) := by decide +kernel
theorem dX3_copyFrom_49 : decode cX3_copyFrom 49 = .ok (.arraylength, 1) := by decide +kernel
theorem dX3_copyFrom_50 : decode cX3_copyFrom 50 = .ok (.invokestatic 31, 3) := by decide +kernel
theorem dX3_copyFrom_53 : decode cX3_copyFrom 53 = .ok (.aload_n 0, 1) := by decide +kernel
theorem dX3_copyFrom_54 : decode cX3_copyFrom 54 = .ok (.aload_n 1, 1) := by decide +kernel
theorem dX3_copyFrom_55 : decode cX3_copyFrom 55 = .ok (.getfield 18, 3) := by decide +kernel
theorem dX3_copyFrom_58 : decode cX3_copyFrom 58 = .ok (.putfield 18, 3) := by decide +kernel
theorem dX3_copyFrom_61 : decode cX3_copyFrom 61 = .ok (.return_, 1) := by decide +kernel
theorem dX5_clear_0 : decode cX5_clear 0 = .ok (.aload_n 0, 1) := by decide +kernel
theorem dX5_clear_1 : decode cX5_clear 1 = .ok (.iconst 0, 1) := by decide +kernel
theorem dX5_clear_2 : decode cX5_clear 2 = .ok (.putfield 19, 3) := by decide +kernel
theorem dX5_clear_5 : decode cX5_clear 5 = .ok (.return_, 1) := by decide +kernel
theorem dX6_advance_0 : decode cX6_advance 0 = .ok (.aload_n 0, 1) := by decide +kernel
theorem dX6_advance_1 : decode cX6_advance 1 = .ok (.getfield 26, 3) := by decide +kernel
theorem dX6_advance_4 : decode cX6_advance 4 = .ok (.aload_n 0, 1) := by decide +kernel
theorem dX6_advance_5 : decode cX6_advance 5 = .ok (.getfield 19, 3) := by decide +kernel
theorem dX6_advance_8 : decode cX6_advance 8 = .ok (.if_icmp .ge 44, 3) := by decide +kernel
theorem dX6_advance_52 : decode cX6_advance 52 = .ok (.aload_n 0, 1) := by decide +kernel
theorem dX6_advance_53 : decode cX6_advance 53 = .ok (.aload_n 0, 1) := by decide +kernel
theorem dX6_advance_54 : decode cX6_advance 54 = .ok (.getfield 26, 3) := by decide +kernel
theorem dX6_advance_57 : decode cX6_advance 57 = .ok (.putfield 32, 3) := by decide +kernel
theorem dX6_advance_60 : decode cX6_advance 60 = .ok (.aload_n 0, 1) := by decide +kernel
theorem dX6_advance_61 : decode cX6_advance 61 = .ok (.getfield 19, 3) := by decide +kernel
theorem dX6_advance_64 : decode cX6_advance 64 = .ok (.aload_n 0, 1) := by decide +kernel
theorem dX6_advance_65 : decode cX6_advance 65 = .ok (.getfield 23, 3) := by decide +kernel
theorem dX6_advance_68 : decode cX6_advance 68 = .ok (.if_icmp .le 32, 3) := by decide +kernel
theorem dX6_advance_100 : decode cX6_advance 100 = .ok (.aload_n 0, 1) := by decide +kernel
theorem dX6_advance_101 : decode cX6_advance 101 = .ok (.getfield 26, 3) := by decide +kernel
theorem dX6_advance_104 : decode cX6_advance 104 = .ok (.aload_n 0, 1) := by decide +kernel
theorem dX6_advance_105 : decode cX6_advance 105 = .ok (.getfield 19, 3) := by decide +kernel
theorem dX6_advance_108 : decode cX6_advance 108 = .ok (.if_icmp .lt 13, 3) := by decide +kernel
theorem dX6_advance_111 : decode cX6_advance 111 = .ok (.aload_n 0, 1) := by decide +kernel
theorem dX6_advance_112 : decode cX6_advance 112 = .ok (.sipush 302, 3) := by decide +kernel
theorem dX6_advance_115 : decode cX6_advance 115 = .ok (.putfield 29, 3) := by decide +kernel
theorem dX6_advance_118 : decode cX6_advance 118 = .ok (.goto 87, 3) := by decide +kernel
theorem dX6_advance_205 : decode cX6_advance 205 = .ok (.return_, 1) := by decide +kernel
theorem dX6_begin_0 : decode cX6_begin 0 = .ok (.aload_n 0, 1) := by decide +kernel
theorem dX6_begin_1 : decode cX6_begin 1 = .ok (.aload_n 1, 1) := by decide +kernel
theorem dX6_begin_2 : decode cX6_begin 2 = .ok (.putfield 15, 3) := by decide +kernel
theorem dX6_begin_5 : decode cX6_begin 5 = .ok (.aload_n 0, 1) := by decide +kernel
theorem dX6_begin_6 : decode cX6_begin 6 = .ok (.iload_n 2, 1) := by decide +kernel
theorem dX6_begin_7 : decode cX6_begin 7 = .ok (.aload_n 1, 1) := by decide +kernel
theorem dX6_begin_8 : decode cX6_begin 8 = .ok (.arraylength, 1) := by decide +kernel
theorem dX6_begin_9 : decode cX6_begin 9 = .ok (.invokestatic 62, 3) := by decide +kernel
theorem dX6_begin_12 : decode cX6_begin 12 = .ok (.putfield 19, 3) := by decide +kernel
theorem dX6_begin_15 : decode cX6_begin 15 = .ok (.aload_n 0, 1) := by decide +kernel
theorem dX6_begin_16 : decode cX6_begin 16 = .ok (.iload_n 3, 1) := by decide +kernel
theorem dX6_begin_17 : decode cX6_begin 17 = .ok (.putfield 23, 3) := by decide +kernel
theorem dX6_begin_20 : decode cX6_begin 20 = .ok (.aload_n 0, 1) := by decide +kernel
theorem dX6_begin_21 : decode cX6_begin 21 = .ok (.iconst 0, 1) := by decide +kernel
theorem dX6_begin_22 : decode cX6_begin 22 = .ok (.putfield 26, 3) := by decide +kernel
theorem dX6_begin_25 : decode cX6_begin 25 = .ok (.aload_n 0, 1) := by decide +kernel
theorem dX6_begin_26 : decode cX6_begin 26 = .ok (.iconst 0, 1) := by decide +kernel
theorem dX6_begin_27 : decode cX6_begin 27 = .ok (.putfield 42, 3) := by decide +kernel
theorem dX6_begin_30 : decode cX6_begin 30 = .ok (.aload_n 0, 1) := by decide +kernel
theorem dX6_begin_31 : decode cX6_begin 31 = .ok (.iconst 0, 1) := by decide +kernel
theorem dX6_begin_32 : decode cX6_begin 32 = .ok (.putfield 45, 3) := by decide +kernel
theorem dX6_begin_35 : decode cX6_begin 35 = .ok (.aload_n 0, 1) := by decide +kernel
theorem dX6_begin_36 : decode cX6_begin 36 = .ok (.invokevirtual 68, 3) := by decide +kernel
theorem dX6_begin_39 : decode cX6_begin 39 = .ok (.return_, 1) := by decide +kernel
theorem dX6_fail_0 : decode cX6_fail 0 = .ok (.aload_n 0, 1) := by decide +kernel
theorem dX6_fail_1 : decode cX6_fail 1 = .ok (.getfield 42, 3) := by decide +kernel
theorem dX6_fail_4 : decode cX6_fail 4 = .ok (.ifCond .ne 16, 3) := by decide +kernel
theorem dX6_fail_7 : decode cX6_fail 7 = .ok (.aload_n 0, 1) := by decide +kernel
theorem dX6_fail_8 : decode cX6_fail 8 = .ok (.iload_n 1, 1) := by decide +kernel
theorem dX6_fail_9 : decode cX6_fail 9 = .ok (.putfield 42, 3) := by decide +kernel
theorem dX6_fail_12 : decode cX6_fail 12 = .ok (.aload_n 0, 1) := by decide +kernel
theorem dX6_fail_13 : decode cX6_fail 13 = .ok (.aload_n 0, 1) := by decide +kernel
theorem dX6_fail_14 : decode cX6_fail 14 = .ok (.getfield 32, 3) := by decide +kernel
theorem dX6_fail_17 : decode cX6_fail 17 = .ok (.putfield 45, 3) := by decide +kernel
theorem dX6_fail_20 : decode cX6_fail 20 = .ok (.iconst 0, 1) := by decide +kernel
theorem dX6_fail_21 : decode cX6_fail 21 = .ok (.ireturn, 1) := by decide +kernel
theorem dX6_isAt_0 : decode cX6_isAt 0 = .ok (.aload_n 0, 1) := by decide +kernel
theorem dX6_isAt_1 : decode cX6_isAt 1 = .ok (.getfield 29, 3) := by decide +kernel
theorem dX6_isAt_4 : decode cX6_isAt 4 = .ok (.iload_n 1, 1) := by decide +kernel
theorem dX6_isAt_5 : decode cX6_isAt 5 = .ok (.if_icmp .ne 7, 3) := by decide +kernel
theorem dX6_isAt_8 : decode cX6_isAt 8 = .ok (.iconst 1, 1) := by decide +kernel
theorem dX6_isAt_9 : decode cX6_isAt 9 = .ok (.goto 4, 3) := by decide +kernel
theorem dX6_isAt_13 : decode cX6_isAt 13 = .ok (.ireturn, 1) := by decide +kernel
theorem dX7_clear_0 : decode cX7_clear 0 = .ok (.aload_n 0, 1) := by decide +kernel
theorem dX7_clear_1 : decode cX7_clear 1 = .ok (.iconst 0, 1) := by decide +kernel
theorem dX7_clear_2 : decode cX7_clear 2 = .ok (.putfield 15, 3) := by decide +kernel
theorem dX7_clear_5 : decode cX7_clear 5 = .ok (.return_, 1) := by decide +kernel
theorem dX7_copyFrom_0 : decode cX7_copyFrom 0 = .ok (.aload_n 1, 1) := by decide +kernel
theorem dX7_copyFrom_1 : decode cX7_copyFrom 1 = .ok (.getfield 11, 3) := by decide +kernel
theorem dX7_copyFrom_4 : decode cX7_copyFrom 4 = .ok (.iconst 0, 1) := by decide +kernel
theorem dX7_copyFrom_5 : decode cX7_copyFrom 5 = .ok (.aload_n 0, 1) := by decide +kernel
theorem dX7_copyFrom_6 : decode cX7_copyFrom 6 = .ok (.getfield 11, 3) := by decide +kernel
theorem dX7_copyFrom_9 : decode cX7_copyFrom 9 = .ok (.iconst 0, 1) := by decide +kernel
theorem dX7_copyFrom_10 : decode cX7_copyFrom 10 = .ok (.bipush 40, 2) := by decide +kernel
theorem dX7_copyFrom_12 : decode cX7_copyFrom 12 = .ok (.invokestatic 19, 3) := by decide +kernel
theorem dX7_copyFrom_15 : decode cX7_copyFrom 15 = .ok (.aload_n 0, 1) := by decide +kernel
theorem dX7_copyFrom_16 : decode cX7_copyFrom 16 = .ok (.aload_n 1, 1) := by decide +kernel
theorem dX7_copyFrom_17 : decode cX7_copyFrom 17 = .ok (.getfield 15, 3) := by decide +kernel
theorem dX7_copyFrom_20 : decode cX7_copyFrom 20 = .ok (.putfield 15, 3) := by decide +kernel
theorem dX7_copyFrom_23 : decode cX7_copyFrom 23 = .ok (.return_, 1) := by decide +kernel
theorem dX8_beginsOne_0 : decode cX8_beginsOne 0 = .ok (.aload_n 0, 1) := by decide +kernel
theorem dX8_beginsOne_1 : decode cX8_beginsOne 1 = .ok (.getfield 22, 3) := by decide +kernel
theorem dX8_beginsOne_4 : decode cX8_beginsOne 4 = .ok (.getfield 63, 3) := by decide +kernel
theorem dX8_beginsOne_7 : decode cX8_beginsOne 7 = .ok (.istore_n 1, 1) := by decide +kernel
theorem dX8_beginsOne_8 : decode cX8_beginsOne 8 = .ok (.iload_n 1, 1) := by decide +kernel
theorem dX8_beginsOne_9 : decode cX8_beginsOne 9 = .ok (.bipush 40, 2) := by decide +kernel
theorem dX8_beginsOne_11 : decode cX8_beginsOne 11 = .ok (.if_icmp .eq 15, 3) := by decide +kernel
theorem dX8_beginsOne_14 : decode cX8_beginsOne 14 = .ok (.iload_n 1, 1) := by decide +kernel
theorem dX8_beginsOne_15 : decode cX8_beginsOne 15 = .ok (.bipush 11, 2) := by decide +kernel
theorem dX8_beginsOne_17 : decode cX8_beginsOne 17 = .ok (.if_icmp .lt 13, 3) := by decide +kernel
theorem dX8_beginsOne_20 : decode cX8_beginsOne 20 = .ok (.iload_n 1, 1) := by decide +kernel
theorem dX8_beginsOne_21 : decode cX8_beginsOne 21 = .ok (.bipush 18, 2) := by decide +kernel
theorem dX8_beginsOne_23 : decode cX8_beginsOne 23 = .ok (.if_icmp .gt 7, 3) := by decide +kernel
theorem dX8_beginsOne_30 : decode cX8_beginsOne 30 = .ok (.iconst 0, 1) := by decide +kernel
theorem dX8_beginsOne_31 : decode cX8_beginsOne 31 = .ok (.ireturn, 1) := by decide +kernel
theorem dX8_read_0 : decode cX8_read 0 = .ok (.aload_n 0, 1) := by decide +kernel
theorem dX8_read_1 : decode cX8_read 1 = .ok (.getfield 12, 3) := by decide +kernel
theorem dX8_read_4 : decode cX8_read 4 = .ok (.invokevirtual 26, 3) := by decide +kernel
theorem dX8_read_7 : decode cX8_read 7 = .ok (.aload_n 0, 1) := by decide +kernel
theorem dX8_read_8 : decode cX8_read 8 = .ok (.iconst 0, 1) := by decide +kernel
theorem dX8_read_9 : decode cX8_read 9 = .ok (.putfield 18, 3) := by decide +kernel
theorem dX8_read_12 : decode cX8_read 12 = .ok (.aload_n 0, 1) := by decide +kernel
theorem dX8_read_13 : decode cX8_read 13 = .ok (.getfield 22, 3) := by decide +kernel
theorem dX8_read_16 : decode cX8_read 16 = .ok (.aload_n 1, 1) := by decide +kernel
theorem dX8_read_17 : decode cX8_read 17 = .ok (.iload_n 2, 1) := by decide +kernel
theorem dX8_read_18 : decode cX8_read 18 = .ok (.sipush 200, 3) := by decide +kernel
theorem dX8_read_21 : decode cX8_read 21 = .ok (.invokevirtual 29, 3) := by decide +kernel
theorem dX8_read_24 : decode cX8_read 24 = .ok (.aload_n 0, 1) := by decide +kernel
theorem dX8_read_25 : decode cX8_read 25 = .ok (.aload_n 3, 1) := by decide +kernel
theorem dX8_read_26 : decode cX8_read 26 = .ok (.iconst 1, 1) := by decide +kernel
theorem dX8_read_27 : decode cX8_read 27 = .ok (.invokevirtual 35, 3) := by decide +kernel
theorem dX8_read_30 : decode cX8_read 30 = .ok (.ifCond .ne 5, 3) := by decide +kernel
theorem dX8_read_33 : decode cX8_read 33 = .ok (.iconst 0, 1) := by decide +kernel
theorem dX8_read_34 : decode cX8_read 34 = .ok (.ireturn, 1) := by decide +kernel
theorem dX8_readAll_0 : decode cX8_readAll 0 = .ok (.aload_n 0, 1) := by decide +kernel
theorem dX8_readAll_1 : decode cX8_readAll 1 = .ok (.aload_n 1, 1) := by decide +kernel
theorem dX8_readAll_2 : decode cX8_readAll 2 = .ok (.iload_n 2, 1) := by decide +kernel
theorem dX8_readAll_3 : decode cX8_readAll 3 = .ok (.invokevirtual 56, 3) := by decide +kernel
theorem dX8_readAll_6 : decode cX8_readAll 6 = .ok (.ifCond .ne 5, 3) := by decide +kernel
theorem dX8_readAll_9 : decode cX8_readAll 9 = .ok (.iconst 0, 1) := by decide +kernel
theorem dX8_readAll_10 : decode cX8_readAll 10 = .ok (.ireturn, 1) := by decide +kernel
theorem dX8_readCond_0 : decode cX8_readCond 0 = .ok (.aload_n 0, 1) := by decide +kernel
theorem dX8_readCond_1 : decode cX8_readCond 1 = .ok (.aload_n 1, 1) := by decide +kernel
theorem dX8_readCond_2 : decode cX8_readCond 2 = .ok (.iload_n 2, 1) := by decide +kernel
theorem dX8_readCond_3 : decode cX8_readCond 3 = .ok (.invokevirtual 46, 3) := by decide +kernel
theorem dX8_readCond_6 : decode cX8_readCond 6 = .ok (.ifCond .ne 5, 3) := by decide +kernel
theorem dX8_readCond_9 : decode cX8_readCond 9 = .ok (.iconst 0, 1) := by decide +kernel
theorem dX8_readCond_10 : decode cX8_readCond 10 = .ok (.ireturn, 1) := by decide +kernel
theorem dX8_readOne_0 : decode cX8_readOne 0 = .ok (.aload_n 0, 1) := by decide +kernel
theorem dX8_readOne_1 : decode cX8_readOne 1 = .ok (.invokevirtual 59, 3) := by decide +kernel
theorem dX8_readOne_4 : decode cX8_readOne 4 = .ok (.ifCond .ne 12, 3) := by decide +kernel
theorem dX8_readOne_7 : decode cX8_readOne 7 = .ok (.aload_n 0, 1) := by decide +kernel
theorem dX8_readOne_8 : decode cX8_readOne 8 = .ok (.getfield 22, 3) := by decide +kernel
theorem dX8_readOne_11 : decode cX8_readOne 11 = .ok (.iconst 1, 1) := by decide +kernel
theorem dX8_readOne_12 : decode cX8_readOne 12 = .ok (.invokevirtual 43, 3) := by decide +kernel
theorem dX8_readOne_15 : decode cX8_readOne 15 = .ok (.ireturn, 1) := by decide +kernel
theorem dX9_read_0 : decode cX9_read 0 = .ok (.aload_n 3, 1) := by decide +kernel
theorem dX9_read_1 : decode cX9_read 1 = .ok (.invokevirtual 27, 3) := by decide +kernel
theorem dX9_read_4 : decode cX9_read 4 = .ok (.aload_n 0, 1) := by decide +kernel
theorem dX9_read_5 : decode cX9_read 5 = .ok (.getfield 9, 3) := by decide +kernel
theorem dX9_read_8 : decode cX9_read 8 = .ok (.iconst 0, 1) := by decide +kernel
theorem dX9_read_9 : decode cX9_read 9 = .ok (.invokestatic 32, 3) := by decide +kernel
theorem dX9_read_12 : decode cX9_read 12 = .ok (.aload_n 0, 1) := by decide +kernel
theorem dX9_read_13 : decode cX9_read 13 = .ok (.iconst 0, 1) := by decide +kernel
theorem dX9_read_14 : decode cX9_read 14 = .ok (.putfield 15, 3) := by decide +kernel
theorem dX9_read_17 : decode cX9_read 17 = .ok (.aload_n 0, 1) := by decide +kernel
theorem dX9_read_18 : decode cX9_read 18 = .ok (.iconst 0, 1) := by decide +kernel
theorem dX9_read_19 : decode cX9_read 19 = .ok (.putfield 19, 3) := by decide +kernel
theorem dX9_read_22 : decode cX9_read 22 = .ok (.aload_n 0, 1) := by decide +kernel
theorem dX9_read_23 : decode cX9_read 23 = .ok (.getfield 23, 3) := by decide +kernel
theorem dX9_read_26 : decode cX9_read 26 = .ok (.aload_n 1, 1) := by decide +kernel
theorem dX9_read_27 : decode cX9_read 27 = .ok (.iload_n 2, 1) := by decide +kernel
theorem dX9_read_28 : decode cX9_read 28 = .ok (.sipush 900, 3) := by decide +kernel
theorem dX9_read_31 : decode cX9_read 31 = .ok (.invokevirtual 38, 3) := by decide +kernel
theorem dX9_read_34 : decode cX9_read 34 = .ok (.aload_n 0, 1) := by decide +kernel
theorem dX9_read_35 : decode cX9_read 35 = .ok (.getfield 19, 3) := by decide +kernel
theorem dX9_read_38 : decode cX9_read 38 = .ok (.sipush 900, 3) := by decide +kernel
theorem dX9_read_41 : decode cX9_read 41 = .ok (.if_icmp .ge 51, 3) := by decide +kernel
theorem dX9_read_44 : decode cX9_read 44 = .ok (.aload_n 0, 1) := by decide +kernel
theorem dX9_read_45 : decode cX9_read 45 = .ok (.getfield 23, 3) := by decide +kernel
theorem dX9_read_48 : decode cX9_read 48 = .ok (.sipush 302, 3) := by decide +kernel
theorem dX9_read_51 : decode cX9_read 51 = .ok (.invokevirtual 44, 3) := by decide +kernel
theorem dX9_read_54 : decode cX9_read 54 = .ok (.ifCond .ne 38, 3) := by decide +kernel
theorem dX9_read_92 : decode cX9_read 92 = .ok (.aload_n 0, 1) := by decide +kernel
theorem dX9_read_93 : decode cX9_read 93 = .ok (.getfield 23, 3) := by decide +kernel
theorem dX9_read_96 : decode cX9_read 96 = .ok (.sipush 302, 3) := by decide +kernel
theorem dX9_read_99 : decode cX9_read 99 = .ok (.invokevirtual 44, 3) := by decide +kernel
theorem dX9_read_102 : decode cX9_read 102 = .ok (.ifCond .ne 14, 3) := by decide +kernel
theorem dX9_read_116 : decode cX9_read 116 = .ok (.iconst 1, 1) := by decide +kernel
theorem dX9_read_117 : decode cX9_read 117 = .ok (.goto 4, 3) := by decide +kernel
theorem dX9_read_121 : decode cX9_read 121 = .ok (.ireturn, 1) := by decide +kernel
