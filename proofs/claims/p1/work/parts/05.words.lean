/-! the words that the rows use, each by its place in the tables; printed by wip/p1/gen.py -/
theorem q_p_107 : Cond.selects RX11 yX11_areGames yX11_areGames ∈ gw := gw_s (y := yX11_areGames) (n := 65) (List.mem_append_right _ (List.mem_append_right _ (List.mem_append_right _ (List.mem_append_right _ (List.mem_append_right _ (List.mem_append_right _ (List.mem_append_left _ (List.mem_of_getElem? (i := 11) (by decide +kernel)))))))))
theorem q_p_116 : Cond.selects RX11 yX11_operand yX11_operand ∈ gw := gw_s (y := yX11_operand) (n := 65) (List.mem_append_right _ (List.mem_append_right _ (List.mem_append_right _ (List.mem_append_right _ (List.mem_append_right _ (List.mem_append_right _ (List.mem_append_right _ (List.mem_of_getElem? (i := 4) (by decide +kernel)))))))))
theorem q_p_117 : Cond.selects RX11 yX11_leafOf yX11_leafOf ∈ gw := gw_s (y := yX11_leafOf) (n := 65) (List.mem_append_right _ (List.mem_append_right _ (List.mem_append_right _ (List.mem_append_right _ (List.mem_append_right _ (List.mem_append_right _ (List.mem_append_right _ (List.mem_of_getElem? (i := 5) (by decide +kernel)))))))))
theorem q_p_15 : Cond.selects RX10 yX10_areSuch yX10_areSuch ∈ gw := gw_s (y := yX10_areSuch) (n := 20) (List.mem_append_left _ (List.mem_of_getElem? (i := 15) (by decide +kernel)))
theorem q_p_27 : Cond.selects RX10 yX10_isOpen yX10_isOpen ∈ gw := gw_s (y := yX10_isOpen) (n := 20) (List.mem_append_right _ (List.mem_append_left _ (List.mem_of_getElem? (i := 11) (by decide +kernel))))
theorem q_p_39 : Cond.selects RX10 yX10_isRule yX10_isRule ∈ gw := gw_s (y := yX10_isRule) (n := 20) (List.mem_append_right _ (List.mem_append_right _ (List.mem_append_left _ (List.mem_of_getElem? (i := 7) (by decide +kernel)))))
theorem q_p_46 : Cond.selects RX10 yX10_areGames yX10_areGames ∈ gw := gw_s (y := yX10_areGames) (n := 20) (List.mem_append_right _ (List.mem_append_right _ (List.mem_append_left _ (List.mem_of_getElem? (i := 14) (by decide +kernel)))))
theorem q_p_58 : Cond.selects RX11 yX11_four yX11_four ∈ gw := gw_s (y := yX11_four) (n := 65) (List.mem_append_right _ (List.mem_append_right _ (List.mem_append_right _ (List.mem_append_left _ (List.mem_of_getElem? (i := 10) (by decide +kernel))))))
theorem q_p_59 : Cond.selects RX11 yX11_taken yX11_taken ∈ gw := gw_s (y := yX11_taken) (n := 65) (List.mem_append_right _ (List.mem_append_right _ (List.mem_append_right _ (List.mem_append_left _ (List.mem_of_getElem? (i := 11) (by decide +kernel))))))
theorem q_p_60 : Cond.selects RX11 yX11_next yX11_next ∈ gw := gw_s (y := yX11_next) (n := 65) (List.mem_append_right _ (List.mem_append_right _ (List.mem_append_right _ (List.mem_append_left _ (List.mem_of_getElem? (i := 12) (by decide +kernel))))))
theorem q_p_61 : Cond.selects RX11 yX11_peek yX11_peek ∈ gw := gw_s (y := yX11_peek) (n := 65) (List.mem_append_right _ (List.mem_append_right _ (List.mem_append_right _ (List.mem_append_left _ (List.mem_of_getElem? (i := 13) (by decide +kernel))))))
theorem q_p_63 : Cond.selects RX11 yX11_isWord yX11_isWord ∈ gw := gw_s (y := yX11_isWord) (n := 65) (List.mem_append_right _ (List.mem_append_right _ (List.mem_append_right _ (List.mem_append_left _ (List.mem_of_getElem? (i := 15) (by decide +kernel))))))
theorem q_p_64 : Cond.selects RX11 yX11_bad yX11_bad ∈ gw := gw_s (y := yX11_bad) (n := 65) (List.mem_append_right _ (List.mem_append_right _ (List.mem_append_right _ (List.mem_append_right _ (List.mem_append_left _ (List.mem_of_getElem? (i := 0) (by decide +kernel)))))))
theorem q_p_70 : Cond.selects RX11 yX11_isSign yX11_isSign ∈ gw := gw_s (y := yX11_isSign) (n := 65) (List.mem_append_right _ (List.mem_append_right _ (List.mem_append_right _ (List.mem_append_right _ (List.mem_append_left _ (List.mem_of_getElem? (i := 6) (by decide +kernel)))))))
theorem q_p_78 : Cond.selects RX11 yX11_settles yX11_settles ∈ gw := gw_s (y := yX11_settles) (n := 65) (List.mem_append_right _ (List.mem_append_right _ (List.mem_append_right _ (List.mem_append_right _ (List.mem_append_left _ (List.mem_of_getElem? (i := 14) (by decide +kernel)))))))
theorem q_p_81 : Cond.selects RX11 yX11_isPerson yX11_isPerson ∈ gw := gw_s (y := yX11_isPerson) (n := 65) (List.mem_append_right _ (List.mem_append_right _ (List.mem_append_right _ (List.mem_append_right _ (List.mem_append_right _ (List.mem_append_left _ (List.mem_of_getElem? (i := 1) (by decide +kernel))))))))
theorem q_p_82 : Cond.selects RX11 yX11_isKind yX11_isKind ∈ gw := gw_s (y := yX11_isKind) (n := 65) (List.mem_append_right _ (List.mem_append_right _ (List.mem_append_right _ (List.mem_append_right _ (List.mem_append_right _ (List.mem_append_left _ (List.mem_of_getElem? (i := 2) (by decide +kernel))))))))
theorem q_p_83 : Cond.selects RX11 yX11_throwsIf yX11_throwsIf ∈ gw := gw_s (y := yX11_throwsIf) (n := 65) (List.mem_append_right _ (List.mem_append_right _ (List.mem_append_right _ (List.mem_append_right _ (List.mem_append_right _ (List.mem_append_left _ (List.mem_of_getElem? (i := 3) (by decide +kernel))))))))
theorem q_p_85 : Cond.selects RX11 yX11_allBooks yX11_allBooks ∈ gw := gw_s (y := yX11_allBooks) (n := 65) (List.mem_append_right _ (List.mem_append_right _ (List.mem_append_right _ (List.mem_append_right _ (List.mem_append_right _ (List.mem_append_left _ (List.mem_of_getElem? (i := 5) (by decide +kernel))))))))
theorem q_p_86 : Cond.selects RX11 yX11_areAsked yX11_areAsked ∈ gw := gw_s (y := yX11_areAsked) (n := 65) (List.mem_append_right _ (List.mem_append_right _ (List.mem_append_right _ (List.mem_append_right _ (List.mem_append_right _ (List.mem_append_left _ (List.mem_of_getElem? (i := 6) (by decide +kernel))))))))
theorem q_p_95 : Cond.selects RX11 yX11_openOf yX11_openOf ∈ gw := gw_s (y := yX11_openOf) (n := 65) (List.mem_append_right _ (List.mem_append_right _ (List.mem_append_right _ (List.mem_append_right _ (List.mem_append_right _ (List.mem_append_left _ (List.mem_of_getElem? (i := 15) (by decide +kernel))))))))
theorem q_1_1 : Cond.initialized RX10 ∈ gw := gw_1 1 (by decide +kernel) rfl
theorem q_1_104 : Cond.fieldLink RX10 200 "SevenTable$Game" "turn" "I" ∈ gw := gw_1 104 (by decide +kernel) rfl
theorem q_1_106 : Cond.fieldLink RX10 203 "SevenTable$Game" "askings" "I" ∈ gw := gw_1 106 (by decide +kernel) rfl
theorem q_1_109 : Cond.fieldLink RX10 209 "SevenTable$Game" "vain" "I" ∈ gw := gw_1 109 (by decide +kernel) rfl
theorem q_1_14 : Cond.initialized RX5 ∈ gw := gw_1 14 (by decide +kernel) rfl
theorem q_1_15 : Cond.initialized RX11 ∈ gw := gw_1 15 (by decide +kernel) rfl
theorem q_1_159 : Cond.fieldLink RX10 354 "SevenTable$Sentence" "size" "I" ∈ gw := gw_1 159 (by decide +kernel) rfl
theorem q_1_2 : Cond.initialized RX2 ∈ gw := gw_1 2 (by decide +kernel) rfl
theorem q_1_64 : Cond.fieldLink RX2 9 "SevenTable$Game" "kinds" "I" ∈ gw := gw_1 64 (by decide +kernel) rfl
theorem q_1_69 : Cond.fieldLink RX10 284 "SevenTable$Game" "kinds" "I" ∈ gw := gw_1 69 (by decide +kernel) rfl
theorem q_1_70 : Cond.fieldLink RX2 15 "SevenTable$Game" "persons" "I" ∈ gw := gw_1 70 (by decide +kernel) rfl
theorem q_1_73 : Cond.fieldLink RX10 277 "SevenTable$Game" "persons" "I" ∈ gw := gw_1 73 (by decide +kernel) rfl
theorem q_1_77 : Cond.fieldLink RX10 358 "SevenTable$Game" "again" "Z" ∈ gw := gw_1 77 (by decide +kernel) rfl
theorem q_1_81 : Cond.fieldLink RX10 362 "SevenTable$Game" "refill" "I" ∈ gw := gw_1 81 (by decide +kernel) rfl
theorem q_1_89 : Cond.fieldLink RX2 39 "SevenTable$Game" "heapFrom" "I" ∈ gw := gw_1 89 (by decide +kernel) rfl
theorem q_1_92 : Cond.fieldLink RX2 42 "SevenTable$Game" "heapTo" "I" ∈ gw := gw_1 92 (by decide +kernel) rfl
theorem q_2_104 : Cond.fieldLink RX10 13 "SevenTable" "tapeSize" "I" ∈ gw := gw_2 104 (by decide +kernel) rfl
theorem q_2_105 : Cond.fieldLink RX10 17 "SevenTable" "faultKind" "I" ∈ gw := gw_2 105 (by decide +kernel) rfl
theorem q_2_106 : Cond.fieldLink RX10 23 "SevenTable" "game" "LSevenTable$Game;" ∈ gw := gw_2 106 (by decide +kernel) rfl
theorem q_2_108 : Cond.fieldLink RX10 33 "SevenTable" "told" "LSevenTable$Sentence;" ∈ gw := gw_2 108 (by decide +kernel) rfl
theorem q_2_113 : Cond.fieldLink RX10 70 "SevenTable" "past" "LSevenTable$Past;" ∈ gw := gw_2 113 (by decide +kernel) rfl
theorem q_2_114 : Cond.fieldLink RX10 74 "SevenTable" "keptGames" "[LSevenTable$Game;" ∈ gw := gw_2 114 (by decide +kernel) rfl
theorem q_2_116 : Cond.fieldLink RX10 82 "SevenTable" "latest" "[I" ∈ gw := gw_2 116 (by decide +kernel) rfl
theorem q_2_118 : Cond.fieldLink RX10 89 "SevenTable" "verdict" "[I" ∈ gw := gw_2 118 (by decide +kernel) rfl
theorem q_2_120 : Cond.fieldLink RX10 95 "SevenTable" "sweepSize" "I" ∈ gw := gw_2 120 (by decide +kernel) rfl
theorem q_2_91 : Cond.fieldLink RX5 15 "SevenTable$Past" "top" "I" ∈ gw := gw_2 91 (by decide +kernel) rfl
theorem q_2_92 : Cond.fieldLink RX5 19 "SevenTable$Past" "size" "I" ∈ gw := gw_2 92 (by decide +kernel) rfl
theorem q_3_115 : Cond.methodLink RX10 138 yX2_hasPerson ∈ gw := gw_3 115 (by decide +kernel) rfl
theorem q_3_116 : Cond.instanceMethod yX2_hasPerson ∈ gw := gw_3 116 (by decide +kernel) rfl
theorem q_3_117 : Cond.selects RX2 yX2_hasPerson yX2_hasPerson ∈ gw := gw_3 117 (by decide +kernel) rfl
theorem q_3_118 : Cond.code yX2_hasPerson cX2_hasPerson 2 (some .boolean) ∈ gw := gw_3 118 (by decide +kernel) rfl
theorem q_3_120 : Cond.instanceMethod yX2_booksOf ∈ gw := gw_3 120 (by decide +kernel) rfl
theorem q_3_121 : Cond.selects RX2 yX2_booksOf yX2_booksOf ∈ gw := gw_3 121 (by decide +kernel) rfl
theorem q_3_122 : Cond.code yX2_booksOf cX2_booksOf 4 (some .int) ∈ gw := gw_3 122 (by decide +kernel) rfl
theorem q_3_135 : Cond.methodLink RX10 142 yX2_hasKind ∈ gw := gw_3 135 (by decide +kernel) rfl
theorem q_3_136 : Cond.instanceMethod yX2_hasKind ∈ gw := gw_3 136 (by decide +kernel) rfl
theorem q_3_137 : Cond.selects RX2 yX2_hasKind yX2_hasKind ∈ gw := gw_3 137 (by decide +kernel) rfl
theorem q_3_138 : Cond.code yX2_hasKind cX2_hasKind 2 (some .boolean) ∈ gw := gw_3 138 (by decide +kernel) rfl
theorem q_3_143 : Cond.methodLink RX10 190 yX2_heapSize ∈ gw := gw_3 143 (by decide +kernel) rfl
theorem q_3_144 : Cond.instanceMethod yX2_heapSize ∈ gw := gw_3 144 (by decide +kernel) rfl
theorem q_3_145 : Cond.selects RX2 yX2_heapSize yX2_heapSize ∈ gw := gw_3 145 (by decide +kernel) rfl
theorem q_3_146 : Cond.code yX2_heapSize cX2_heapSize 1 (some .int) ∈ gw := gw_3 146 (by decide +kernel) rfl
theorem q_3_151 : Cond.methodLink RX10 206 yX2_allBooks ∈ gw := gw_3 151 (by decide +kernel) rfl
theorem q_3_152 : Cond.instanceMethod yX2_allBooks ∈ gw := gw_3 152 (by decide +kernel) rfl
theorem q_3_153 : Cond.selects RX2 yX2_allBooks yX2_allBooks ∈ gw := gw_3 153 (by decide +kernel) rfl
theorem q_3_154 : Cond.code yX2_allBooks cX2_allBooks 1 (some .int) ∈ gw := gw_3 154 (by decide +kernel) rfl
theorem q_3_155 : Cond.methodLink RX2 105 yX2_booksOf ∈ gw := gw_3 155 (by decide +kernel) rfl
theorem q_3_156 : Cond.methodLink RX10 212 yX2_loose ∈ gw := gw_3 156 (by decide +kernel) rfl
theorem q_3_157 : Cond.instanceMethod yX2_loose ∈ gw := gw_3 157 (by decide +kernel) rfl
theorem q_3_158 : Cond.selects RX2 yX2_loose yX2_loose ∈ gw := gw_3 158 (by decide +kernel) rfl
theorem q_3_159 : Cond.code yX2_loose cX2_loose 3 (some .int) ∈ gw := gw_3 159 (by decide +kernel) rfl
theorem q_3_160 : Cond.methodLink RX2 101 yX2_heapSize ∈ gw := gw_3 160 (by decide +kernel) rfl
theorem q_3_165 : Cond.methodLink RX10 215 yX10_areSuch ∈ gw := gw_3 165 (by decide +kernel) rfl
theorem q_3_167 : Cond.instanceMethod yX10_areSuch ∈ gw := gw_3 167 (by decide +kernel) rfl
theorem q_3_168 : Cond.code yX10_areSuch cX10_areSuch 4 (some .boolean) ∈ gw := gw_3 168 (by decide +kernel) rfl
theorem q_3_220 : Cond.methodLink RX10 230 yX5_takeBack ∈ gw := gw_3 220 (by decide +kernel) rfl
theorem q_3_221 : Cond.instanceMethod yX5_takeBack ∈ gw := gw_3 221 (by decide +kernel) rfl
theorem q_3_222 : Cond.selects RX5 yX5_takeBack yX5_takeBack ∈ gw := gw_3 222 (by decide +kernel) rfl
theorem q_3_223 : Cond.code yX5_takeBack cX5_takeBack 3 (some .boolean) ∈ gw := gw_3 223 (by decide +kernel) rfl
theorem q_4_133 : Cond.methodLink RX10 294 yX10_isOpen ∈ gw := gw_4 133 (by decide +kernel) rfl
theorem q_4_135 : Cond.instanceMethod yX10_isOpen ∈ gw := gw_4 135 (by decide +kernel) rfl
theorem q_4_136 : Cond.code yX10_isOpen cX10_isOpen 1 (some .boolean) ∈ gw := gw_4 136 (by decide +kernel) rfl
theorem q_5_10 : Cond.methodLink RX10 311 yX10_isRule ∈ gw := gw_5 10 (by decide +kernel) rfl
theorem q_5_12 : Cond.instanceMethod yX10_isRule ∈ gw := gw_5 12 (by decide +kernel) rfl
theorem q_5_13 : Cond.code yX10_isRule cX10_isRule 2 (some .boolean) ∈ gw := gw_5 13 (by decide +kernel) rfl
theorem q_5_51 : Cond.methodLink RX10 320 yX2_canDeal ∈ gw := gw_5 51 (by decide +kernel) rfl
theorem q_5_52 : Cond.instanceMethod yX2_canDeal ∈ gw := gw_5 52 (by decide +kernel) rfl
theorem q_5_53 : Cond.selects RX2 yX2_canDeal yX2_canDeal ∈ gw := gw_5 53 (by decide +kernel) rfl
theorem q_5_54 : Cond.code yX2_canDeal cX2_canDeal 2 (some .boolean) ∈ gw := gw_5 54 (by decide +kernel) rfl
theorem q_5_65 : Cond.methodLink RX10 326 yX10_areGames ∈ gw := gw_5 65 (by decide +kernel) rfl
theorem q_5_67 : Cond.instanceMethod yX10_areGames ∈ gw := gw_5 67 (by decide +kernel) rfl
theorem q_5_68 : Cond.code yX10_areGames cX10_areGames 4 (some .boolean) ∈ gw := gw_5 68 (by decide +kernel) rfl
theorem q_6_118 : Cond.constantLong RX11 137 (7237492) ∈ gw := gw_6 118 (by decide +kernel) rfl
theorem q_6_119 : Cond.constantLong RX11 139 (1651470187) ∈ gw := gw_6 119 (by decide +kernel) rfl
theorem q_6_120 : Cond.constantLong RX11 141 (461414299502) ∈ gw := gw_6 120 (by decide +kernel) rfl
theorem q_6_121 : Cond.constantLong RX11 143 (1751477348) ∈ gw := gw_6 121 (by decide +kernel) rfl
theorem q_6_122 : Cond.constantLong RX11 145 (448311223411) ∈ gw := gw_6 122 (by decide +kernel) rfl
theorem q_6_123 : Cond.constantLong RX11 147 (114784635741540) ∈ gw := gw_6 123 (by decide +kernel) rfl
theorem q_6_124 : Cond.constantLong RX11 149 (1836020596) ∈ gw := gw_6 124 (by decide +kernel) rfl
theorem q_6_125 : Cond.constantLong RX11 151 (482854658917) ∈ gw := gw_6 125 (by decide +kernel) rfl
theorem q_6_126 : Cond.fieldLink RX11 1 "SevenTableModel" "thrown" "I" ∈ gw := gw_6 126 (by decide +kernel) rfl
theorem q_6_127 : Cond.fieldLink RX11 14 "SevenTableModel" "tape" "[B" ∈ gw := gw_6 127 (by decide +kernel) rfl
theorem q_6_128 : Cond.fieldLink RX11 7 "SevenTableModel" "length" "I" ∈ gw := gw_6 128 (by decide +kernel) rfl
theorem q_6_129 : Cond.fieldLink RX11 18 "SevenTableModel" "size" "I" ∈ gw := gw_6 129 (by decide +kernel) rfl
theorem q_6_130 : Cond.fieldLink RX11 21 "SevenTableModel" "p" "I" ∈ gw := gw_6 130 (by decide +kernel) rfl
theorem q_6_131 : Cond.fieldLink RX11 24 "SevenTableModel" "limit" "I" ∈ gw := gw_6 131 (by decide +kernel) rfl
theorem q_6_132 : Cond.fieldLink RX11 33 "SevenTableModel" "s" "[I" ∈ gw := gw_6 132 (by decide +kernel) rfl
theorem q_6_137 : Cond.fieldLink RX11 163 "SevenTableModel" "token" "I" ∈ gw := gw_6 137 (by decide +kernel) rfl
theorem q_6_138 : Cond.fieldLink RX11 157 "SevenTableModel" "at" "I" ∈ gw := gw_6 138 (by decide +kernel) rfl
theorem q_6_139 : Cond.fieldLink RX11 160 "SevenTableModel" "span" "I" ∈ gw := gw_6 139 (by decide +kernel) rfl
theorem q_6_141 : Cond.fieldLink RX11 180 "SevenTableModel" "fault" "I" ∈ gw := gw_6 141 (by decide +kernel) rfl
theorem q_6_142 : Cond.fieldLink RX11 183 "SevenTableModel" "faultAt" "I" ∈ gw := gw_6 142 (by decide +kernel) rfl
theorem q_6_150 : Cond.fieldLink RX11 310 "SevenTableModel" "hasAsked" "Z" ∈ gw := gw_6 150 (by decide +kernel) rfl
theorem q_6_153 : Cond.fieldLink RX11 246 "SevenTableModel" "undoMany" "I" ∈ gw := gw_6 153 (by decide +kernel) rfl
theorem q_6_163 : Cond.fieldLink RX11 349 "SevenTableModel" "sweepMany" "I" ∈ gw := gw_6 163 (by decide +kernel) rfl
theorem q_6_173 : Cond.fieldLink RX11 391 "SevenTableModel" "openFirst" "I" ∈ gw := gw_6 173 (by decide +kernel) rfl
theorem q_6_180 : Cond.fieldLink RX11 445 "SevenTableModel" "hasHeard" "Z" ∈ gw := gw_6 180 (by decide +kernel) rfl
theorem q_6_182 : Cond.fieldLink RX11 448 "SevenTableModel" "codes" "I" ∈ gw := gw_6 182 (by decide +kernel) rfl
theorem q_6_183 : Cond.fieldLink RX11 464 "SevenTableModel" "ones" "I" ∈ gw := gw_6 183 (by decide +kernel) rfl
theorem q_6_184 : Cond.fieldLink RX11 451 "SevenTableModel" "top" "I" ∈ gw := gw_6 184 (by decide +kernel) rfl
theorem q_6_185 : Cond.fieldLink RX11 458 "SevenTableModel" "deep" "I" ∈ gw := gw_6 185 (by decide +kernel) rfl
theorem q_6_186 : Cond.fieldLink RX11 467 "SevenTableModel" "isWhole" "Z" ∈ gw := gw_6 186 (by decide +kernel) rfl
theorem q_6_190 : Cond.fieldLink RX11 112 "SevenTableModel" "isKept" "[Z" ∈ gw := gw_6 190 (by decide +kernel) rfl
theorem q_6_92 : Cond.methodLink RX11 10 yX11_four ∈ gw := gw_6 92 (by decide +kernel) rfl
theorem q_6_94 : Cond.instanceMethod yX11_four ∈ gw := gw_6 94 (by decide +kernel) rfl
theorem q_6_96 : Cond.code yX11_four cX11_four 3 none ∈ gw := gw_6 96 (by decide +kernel) rfl
theorem q_7_109 : Cond.methodLink RX11 202 yX11_isWord ∈ gw := gw_7 109 (by decide +kernel) rfl
theorem q_7_111 : Cond.instanceMethod yX11_isWord ∈ gw := gw_7 111 (by decide +kernel) rfl
theorem q_7_112 : Cond.code yX11_isWord cX11_isWord 3 (some .boolean) ∈ gw := gw_7 112 (by decide +kernel) rfl
theorem q_7_113 : Cond.methodLink RX11 189 yX11_bad ∈ gw := gw_7 113 (by decide +kernel) rfl
theorem q_7_115 : Cond.instanceMethod yX11_bad ∈ gw := gw_7 115 (by decide +kernel) rfl
theorem q_7_116 : Cond.code yX11_bad cX11_bad 2 (some .boolean) ∈ gw := gw_7 116 (by decide +kernel) rfl
theorem q_7_121 : Cond.methodLink RX11 195 yX11_isIn ∈ gw := gw_7 121 (by decide +kernel) rfl
theorem q_7_122 : Cond.static yX11_isIn ∈ gw := gw_7 122 (by decide +kernel) rfl
theorem q_7_123 : Cond.code yX11_isIn cX11_isIn 3 (some .boolean) ∈ gw := gw_7 123 (by decide +kernel) rfl
theorem q_7_140 : Cond.methodLink RX11 186 yX11_isSign ∈ gw := gw_7 140 (by decide +kernel) rfl
theorem q_7_142 : Cond.instanceMethod yX11_isSign ∈ gw := gw_7 142 (by decide +kernel) rfl
theorem q_7_143 : Cond.code yX11_isSign cX11_isSign 2 (some .boolean) ∈ gw := gw_7 143 (by decide +kernel) rfl
theorem q_7_175 : Cond.methodLink RX11 279 yX11_settles ∈ gw := gw_7 175 (by decide +kernel) rfl
theorem q_7_177 : Cond.instanceMethod yX11_settles ∈ gw := gw_7 177 (by decide +kernel) rfl
theorem q_7_178 : Cond.code yX11_settles cX11_settles 4 none ∈ gw := gw_7 178 (by decide +kernel) rfl
theorem q_7_195 : Cond.methodLink RX11 282 yX11_isPerson ∈ gw := gw_7 195 (by decide +kernel) rfl
theorem q_7_197 : Cond.instanceMethod yX11_isPerson ∈ gw := gw_7 197 (by decide +kernel) rfl
theorem q_7_198 : Cond.code yX11_isPerson cX11_isPerson 2 (some .boolean) ∈ gw := gw_7 198 (by decide +kernel) rfl
theorem q_7_199 : Cond.methodLink RX11 285 yX11_isKind ∈ gw := gw_7 199 (by decide +kernel) rfl
theorem q_7_201 : Cond.instanceMethod yX11_isKind ∈ gw := gw_7 201 (by decide +kernel) rfl
theorem q_7_202 : Cond.code yX11_isKind cX11_isKind 2 (some .boolean) ∈ gw := gw_7 202 (by decide +kernel) rfl
theorem q_7_203 : Cond.methodLink RX11 288 yX11_throwsIf ∈ gw := gw_7 203 (by decide +kernel) rfl
theorem q_7_205 : Cond.instanceMethod yX11_throwsIf ∈ gw := gw_7 205 (by decide +kernel) rfl
theorem q_7_206 : Cond.code yX11_throwsIf cX11_throwsIf 2 (some .boolean) ∈ gw := gw_7 206 (by decide +kernel) rfl
theorem q_7_227 : Cond.methodLink RX11 295 yX11_allBooks ∈ gw := gw_7 227 (by decide +kernel) rfl
theorem q_7_229 : Cond.instanceMethod yX11_allBooks ∈ gw := gw_7 229 (by decide +kernel) rfl
theorem q_7_230 : Cond.code yX11_allBooks cX11_allBooks 3 (some .int) ∈ gw := gw_7 230 (by decide +kernel) rfl
theorem q_7_235 : Cond.methodLink RX11 298 yX11_areAsked ∈ gw := gw_7 235 (by decide +kernel) rfl
theorem q_7_237 : Cond.instanceMethod yX11_areAsked ∈ gw := gw_7 237 (by decide +kernel) rfl
theorem q_7_238 : Cond.code yX11_areAsked cX11_areAsked 4 (some .boolean) ∈ gw := gw_7 238 (by decide +kernel) rfl
theorem q_7_87 : Cond.methodLink RX11 234 yX11_taken ∈ gw := gw_7 87 (by decide +kernel) rfl
theorem q_7_89 : Cond.instanceMethod yX11_taken ∈ gw := gw_7 89 (by decide +kernel) rfl
theorem q_7_90 : Cond.code yX11_taken cX11_taken 2 none ∈ gw := gw_7 90 (by decide +kernel) rfl
theorem q_7_91 : Cond.methodLink RX11 192 yX11_next ∈ gw := gw_7 91 (by decide +kernel) rfl
theorem q_7_93 : Cond.instanceMethod yX11_next ∈ gw := gw_7 93 (by decide +kernel) rfl
theorem q_7_94 : Cond.code yX11_next cX11_next 4 none ∈ gw := gw_7 94 (by decide +kernel) rfl
theorem q_7_95 : Cond.methodLink RX11 153 yX11_peek ∈ gw := gw_7 95 (by decide +kernel) rfl
theorem q_7_97 : Cond.instanceMethod yX11_peek ∈ gw := gw_7 97 (by decide +kernel) rfl
theorem q_7_98 : Cond.code yX11_peek cX11_peek 1 (some .int) ∈ gw := gw_7 98 (by decide +kernel) rfl
theorem q_8_164 : Cond.methodLink RX11 432 yX11_areGames ∈ gw := gw_8 164 (by decide +kernel) rfl
theorem q_8_166 : Cond.instanceMethod yX11_areGames ∈ gw := gw_8 166 (by decide +kernel) rfl
theorem q_8_167 : Cond.code yX11_areGames cX11_areGames 4 (some .boolean) ∈ gw := gw_8 167 (by decide +kernel) rfl
theorem q_8_224 : Cond.methodLink RX11 479 yX11_operand ∈ gw := gw_8 224 (by decide +kernel) rfl
theorem q_8_226 : Cond.instanceMethod yX11_operand ∈ gw := gw_8 226 (by decide +kernel) rfl
theorem q_8_227 : Cond.code yX11_operand cX11_operand 5 (some .boolean) ∈ gw := gw_8 227 (by decide +kernel) rfl
theorem q_8_228 : Cond.methodLink RX11 461 yX11_leafOf ∈ gw := gw_8 228 (by decide +kernel) rfl
theorem q_8_230 : Cond.instanceMethod yX11_leafOf ∈ gw := gw_8 230 (by decide +kernel) rfl
theorem q_8_231 : Cond.code yX11_leafOf cX11_leafOf 1 (some .int) ∈ gw := gw_8 231 (by decide +kernel) rfl
theorem q_8_89 : Cond.methodLink RX11 397 yX11_openOf ∈ gw := gw_8 89 (by decide +kernel) rfl
theorem q_8_91 : Cond.instanceMethod yX11_openOf ∈ gw := gw_8 91 (by decide +kernel) rfl
theorem q_8_92 : Cond.code yX11_openOf cX11_openOf 5 (some .int) ∈ gw := gw_8 92 (by decide +kernel) rfl
theorem inGX10 : ∀ w ∈ u_ws RX10 TX10 20, w ∈ gw := by
  intro w hw
  obtain ⟨k, hk, rfl⟩ := List.mem_map.mp hw
  have hk := List.mem_range.mp hk
  match k, hk with
  | 0, _ => exact gw_2 123 (by decide +kernel) rfl
  | 1, _ => exact gw_2 125 (by decide +kernel) rfl
  | 2, _ => exact gw_2 127 (by decide +kernel) rfl
  | 3, _ => exact gw_2 129 (by decide +kernel) rfl
  | 4, _ => exact gw_2 131 (by decide +kernel) rfl
  | 5, _ => exact gw_2 133 (by decide +kernel) rfl
  | 6, _ => exact gw_2 135 (by decide +kernel) rfl
  | 7, _ => exact gw_2 137 (by decide +kernel) rfl
  | 8, _ => exact gw_2 139 (by decide +kernel) rfl
  | 9, _ => exact gw_2 141 (by decide +kernel) rfl
  | 10, _ => exact gw_2 143 (by decide +kernel) rfl
  | 11, _ => exact gw_2 145 (by decide +kernel) rfl
  | 12, _ => exact gw_2 147 (by decide +kernel) rfl
  | 13, _ => exact gw_2 149 (by decide +kernel) rfl
  | 14, _ => exact gw_2 151 (by decide +kernel) rfl
  | 15, _ => exact gw_2 153 (by decide +kernel) rfl
  | 16, _ => exact gw_2 155 (by decide +kernel) rfl
  | 17, _ => exact gw_2 157 (by decide +kernel) rfl
  | 18, _ => exact gw_2 159 (by decide +kernel) rfl
  | 19, _ => exact gw_2 161 (by decide +kernel) rfl
  | (k + 20), h => exact absurd h (by omega)
theorem inGX11 : ∀ w ∈ u_ws RX11 TX11 65, w ∈ gw := by
  intro w hw
  obtain ⟨k, hk, rfl⟩ := List.mem_map.mp hw
  have hk := List.mem_range.mp hk
  match k, hk with
  | 0, _ => exact gw_6 191 (by decide +kernel) rfl
  | 1, _ => exact gw_6 193 (by decide +kernel) rfl
  | 2, _ => exact gw_6 195 (by decide +kernel) rfl
  | 3, _ => exact gw_6 197 (by decide +kernel) rfl
  | 4, _ => exact gw_6 199 (by decide +kernel) rfl
  | 5, _ => exact gw_6 201 (by decide +kernel) rfl
  | 6, _ => exact gw_6 203 (by decide +kernel) rfl
  | 7, _ => exact gw_6 205 (by decide +kernel) rfl
  | 8, _ => exact gw_6 207 (by decide +kernel) rfl
  | 9, _ => exact gw_6 209 (by decide +kernel) rfl
  | 10, _ => exact gw_6 211 (by decide +kernel) rfl
  | 11, _ => exact gw_6 213 (by decide +kernel) rfl
  | 12, _ => exact gw_6 215 (by decide +kernel) rfl
  | 13, _ => exact gw_6 217 (by decide +kernel) rfl
  | 14, _ => exact gw_6 219 (by decide +kernel) rfl
  | 15, _ => exact gw_6 221 (by decide +kernel) rfl
  | 16, _ => exact gw_6 223 (by decide +kernel) rfl
  | 17, _ => exact gw_6 225 (by decide +kernel) rfl
  | 18, _ => exact gw_6 227 (by decide +kernel) rfl
  | 19, _ => exact gw_6 229 (by decide +kernel) rfl
  | 20, _ => exact gw_6 231 (by decide +kernel) rfl
  | 21, _ => exact gw_6 233 (by decide +kernel) rfl
  | 22, _ => exact gw_6 235 (by decide +kernel) rfl
  | 23, _ => exact gw_6 237 (by decide +kernel) rfl
  | 24, _ => exact gw_6 239 (by decide +kernel) rfl
  | 25, _ => exact gw_7 1 (by decide +kernel) rfl
  | 26, _ => exact gw_7 3 (by decide +kernel) rfl
  | 27, _ => exact gw_7 5 (by decide +kernel) rfl
  | 28, _ => exact gw_7 7 (by decide +kernel) rfl
  | 29, _ => exact gw_7 9 (by decide +kernel) rfl
  | 30, _ => exact gw_7 11 (by decide +kernel) rfl
  | 31, _ => exact gw_7 13 (by decide +kernel) rfl
  | 32, _ => exact gw_7 15 (by decide +kernel) rfl
  | 33, _ => exact gw_7 17 (by decide +kernel) rfl
  | 34, _ => exact gw_7 19 (by decide +kernel) rfl
  | 35, _ => exact gw_7 21 (by decide +kernel) rfl
  | 36, _ => exact gw_7 23 (by decide +kernel) rfl
  | 37, _ => exact gw_7 25 (by decide +kernel) rfl
  | 38, _ => exact gw_7 27 (by decide +kernel) rfl
  | 39, _ => exact gw_7 29 (by decide +kernel) rfl
  | 40, _ => exact gw_7 31 (by decide +kernel) rfl
  | 41, _ => exact gw_7 33 (by decide +kernel) rfl
  | 42, _ => exact gw_7 35 (by decide +kernel) rfl
  | 43, _ => exact gw_7 37 (by decide +kernel) rfl
  | 44, _ => exact gw_7 39 (by decide +kernel) rfl
  | 45, _ => exact gw_7 41 (by decide +kernel) rfl
  | 46, _ => exact gw_7 43 (by decide +kernel) rfl
  | 47, _ => exact gw_7 45 (by decide +kernel) rfl
  | 48, _ => exact gw_7 47 (by decide +kernel) rfl
  | 49, _ => exact gw_7 49 (by decide +kernel) rfl
  | 50, _ => exact gw_7 51 (by decide +kernel) rfl
  | 51, _ => exact gw_7 53 (by decide +kernel) rfl
  | 52, _ => exact gw_7 55 (by decide +kernel) rfl
  | 53, _ => exact gw_7 57 (by decide +kernel) rfl
  | 54, _ => exact gw_7 59 (by decide +kernel) rfl
  | 55, _ => exact gw_7 61 (by decide +kernel) rfl
  | 56, _ => exact gw_7 63 (by decide +kernel) rfl
  | 57, _ => exact gw_7 65 (by decide +kernel) rfl
  | 58, _ => exact gw_7 67 (by decide +kernel) rfl
  | 59, _ => exact gw_7 69 (by decide +kernel) rfl
  | 60, _ => exact gw_7 71 (by decide +kernel) rfl
  | 61, _ => exact gw_7 73 (by decide +kernel) rfl
  | 62, _ => exact gw_7 75 (by decide +kernel) rfl
  | 63, _ => exact gw_7 77 (by decide +kernel) rfl
  | 64, _ => exact gw_7 79 (by decide +kernel) rfl
  | (k + 65), h => exact absurd h (by omega)
theorem inGX2 : ∀ w ∈ u_ws RX2 TX2 18, w ∈ gw := by
  intro w hw
  obtain ⟨k, hk, rfl⟩ := List.mem_map.mp hw
  have hk := List.mem_range.mp hk
  match k, hk with
  | 0, _ => exact gw_1 114 (by decide +kernel) rfl
  | 1, _ => exact gw_1 116 (by decide +kernel) rfl
  | 2, _ => exact gw_1 118 (by decide +kernel) rfl
  | 3, _ => exact gw_1 120 (by decide +kernel) rfl
  | 4, _ => exact gw_1 122 (by decide +kernel) rfl
  | 5, _ => exact gw_1 124 (by decide +kernel) rfl
  | 6, _ => exact gw_1 126 (by decide +kernel) rfl
  | 7, _ => exact gw_1 128 (by decide +kernel) rfl
  | 8, _ => exact gw_1 130 (by decide +kernel) rfl
  | 9, _ => exact gw_1 132 (by decide +kernel) rfl
  | 10, _ => exact gw_1 134 (by decide +kernel) rfl
  | 11, _ => exact gw_1 136 (by decide +kernel) rfl
  | 12, _ => exact gw_1 138 (by decide +kernel) rfl
  | 13, _ => exact gw_1 140 (by decide +kernel) rfl
  | 14, _ => exact gw_1 142 (by decide +kernel) rfl
  | 15, _ => exact gw_1 144 (by decide +kernel) rfl
  | 16, _ => exact gw_1 146 (by decide +kernel) rfl
  | 17, _ => exact gw_1 148 (by decide +kernel) rfl
  | (k + 18), h => exact absurd h (by omega)
theorem inGX5 : ∀ w ∈ u_ws RX5 TX5 3, w ∈ gw := by
  intro w hw
  obtain ⟨k, hk, rfl⟩ := List.mem_map.mp hw
  have hk := List.mem_range.mp hk
  match k, hk with
  | 0, _ => exact gw_2 94 (by decide +kernel) rfl
  | 1, _ => exact gw_2 96 (by decide +kernel) rfl
  | 2, _ => exact gw_2 98 (by decide +kernel) rfl
  | (k + 3), h => exact absurd h (by omega)
theorem inGX7 : ∀ w ∈ u_ws RX7 TX7 2, w ∈ gw := by
  intro w hw
  obtain ⟨k, hk, rfl⟩ := List.mem_map.mp hw
  have hk := List.mem_range.mp hk
  match k, hk with
  | 0, _ => exact gw_1 160 (by decide +kernel) rfl
  | 1, _ => exact gw_1 162 (by decide +kernel) rfl
  | (k + 2), h => exact absurd h (by omega)
