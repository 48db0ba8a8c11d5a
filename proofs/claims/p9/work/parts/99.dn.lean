/-! the words that the rows use, each by its place in the tables; printed by wip/p2/genx.py -/
theorem q_p_0 : Cond.selects RX10 yX10_putFour yX10_putFour ∈ gw := gw_s (y := yX10_putFour) (n := 20) (List.mem_append_left _ (List.mem_of_getElem? (i := 0) (by decide +kernel)))
theorem q_p_15 : Cond.selects RX10 yX10_areSuch yX10_areSuch ∈ gw := gw_s (y := yX10_areSuch) (n := 20) (List.mem_append_left _ (List.mem_of_getElem? (i := 15) (by decide +kernel)))
theorem q_p_26 : Cond.selects RX10 yX10_sweepKind yX10_sweepKind ∈ gw := gw_s (y := yX10_sweepKind) (n := 20) (List.mem_append_right _ (List.mem_append_left _ (List.mem_of_getElem? (i := 10) (by decide +kernel))))
theorem q_p_39 : Cond.selects RX10 yX10_isRule yX10_isRule ∈ gw := gw_s (y := yX10_isRule) (n := 20) (List.mem_append_right _ (List.mem_append_right _ (List.mem_append_left _ (List.mem_of_getElem? (i := 7) (by decide +kernel)))))
theorem q_p_46 : Cond.selects RX10 yX10_areGames yX10_areGames ∈ gw := gw_s (y := yX10_areGames) (n := 20) (List.mem_append_right _ (List.mem_append_right _ (List.mem_append_left _ (List.mem_of_getElem? (i := 14) (by decide +kernel)))))
theorem q_p_47 : Cond.selects RX10 yX10_playGames yX10_playGames ∈ gw := gw_s (y := yX10_playGames) (n := 20) (List.mem_append_right _ (List.mem_append_right _ (List.mem_append_left _ (List.mem_of_getElem? (i := 15) (by decide +kernel)))))
theorem q_1_1 : Cond.initialized RX10 ∈ gw := gw_1 1 (by decide +kernel) rfl
theorem q_1_101 : Cond.fieldLink RX10 184 "SevenTable$Game" "lastDrawn" "[I" ∈ gw := gw_1 101 (by decide +kernel) rfl
theorem q_1_104 : Cond.fieldLink RX10 200 "SevenTable$Game" "turn" "I" ∈ gw := gw_1 104 (by decide +kernel) rfl
theorem q_1_106 : Cond.fieldLink RX10 203 "SevenTable$Game" "askings" "I" ∈ gw := gw_1 106 (by decide +kernel) rfl
theorem q_1_109 : Cond.fieldLink RX10 209 "SevenTable$Game" "vain" "I" ∈ gw := gw_1 109 (by decide +kernel) rfl
theorem q_1_113 : Cond.fieldLink RX10 166 "SevenTable$Game" "seen" "LSevenTable$Knowledge;" ∈ gw := gw_1 113 (by decide +kernel) rfl
theorem q_1_159 : Cond.fieldLink RX10 354 "SevenTable$Sentence" "size" "I" ∈ gw := gw_1 159 (by decide +kernel) rfl
theorem q_1_239 : Cond.fieldLink RX10 120 "SevenTable$Reader" "faultKind" "I" ∈ gw := gw_1 239 (by decide +kernel) rfl
theorem q_1_48 : Cond.fieldLink RX10 175 "SevenTable$Knowledge" "caught" "[I" ∈ gw := gw_1 48 (by decide +kernel) rfl
theorem q_1_69 : Cond.fieldLink RX10 284 "SevenTable$Game" "kinds" "I" ∈ gw := gw_1 69 (by decide +kernel) rfl
theorem q_1_73 : Cond.fieldLink RX10 277 "SevenTable$Game" "persons" "I" ∈ gw := gw_1 73 (by decide +kernel) rfl
theorem q_1_77 : Cond.fieldLink RX10 358 "SevenTable$Game" "again" "Z" ∈ gw := gw_1 77 (by decide +kernel) rfl
theorem q_1_81 : Cond.fieldLink RX10 362 "SevenTable$Game" "refill" "I" ∈ gw := gw_1 81 (by decide +kernel) rfl
theorem q_1_85 : Cond.fieldLink RX10 156 "SevenTable$Game" "cards" "[I" ∈ gw := gw_1 85 (by decide +kernel) rfl
theorem q_1_88 : Cond.fieldLink RX10 194 "SevenTable$Game" "heap" "[I" ∈ gw := gw_1 88 (by decide +kernel) rfl
theorem q_1_91 : Cond.fieldLink RX10 197 "SevenTable$Game" "heapFrom" "I" ∈ gw := gw_1 91 (by decide +kernel) rfl
theorem q_1_95 : Cond.fieldLink RX10 187 "SevenTable$Game" "owner" "[I" ∈ gw := gw_1 95 (by decide +kernel) rfl
theorem q_1_97 : Cond.fieldLink RX10 178 "SevenTable$Game" "askedTimes" "[I" ∈ gw := gw_1 97 (by decide +kernel) rfl
theorem q_1_99 : Cond.fieldLink RX10 181 "SevenTable$Game" "givenTo" "[I" ∈ gw := gw_1 99 (by decide +kernel) rfl
theorem q_2_1 : Cond.fieldLink RX10 121 "SevenTable$Reader" "faultPlace" "I" ∈ gw := gw_2 1 (by decide +kernel) rfl
theorem q_2_103 : Cond.fieldLink RX10 9 "SevenTable" "tape" "[B" ∈ gw := gw_2 103 (by decide +kernel) rfl
theorem q_2_104 : Cond.fieldLink RX10 13 "SevenTable" "tapeSize" "I" ∈ gw := gw_2 104 (by decide +kernel) rfl
theorem q_2_105 : Cond.fieldLink RX10 17 "SevenTable" "faultKind" "I" ∈ gw := gw_2 105 (by decide +kernel) rfl
theorem q_2_106 : Cond.fieldLink RX10 23 "SevenTable" "game" "LSevenTable$Game;" ∈ gw := gw_2 106 (by decide +kernel) rfl
theorem q_2_107 : Cond.fieldLink RX10 27 "SevenTable" "trial" "LSevenTable$Game;" ∈ gw := gw_2 107 (by decide +kernel) rfl
theorem q_2_108 : Cond.fieldLink RX10 33 "SevenTable" "told" "LSevenTable$Sentence;" ∈ gw := gw_2 108 (by decide +kernel) rfl
theorem q_2_109 : Cond.fieldLink RX10 40 "SevenTable" "reader" "LSevenTable$Reader;" ∈ gw := gw_2 109 (by decide +kernel) rfl
theorem q_2_110 : Cond.fieldLink RX10 49 "SevenTable" "tableText" "LSevenTable$TableText;" ∈ gw := gw_2 110 (by decide +kernel) rfl
theorem q_2_111 : Cond.fieldLink RX10 56 "SevenTable" "eveningText" "LSevenTable$EveningText;" ∈ gw := gw_2 111 (by decide +kernel) rfl
theorem q_2_112 : Cond.fieldLink RX10 63 "SevenTable" "sentenceText" "LSevenTable$SentenceText;" ∈ gw := gw_2 112 (by decide +kernel) rfl
theorem q_2_113 : Cond.fieldLink RX10 70 "SevenTable" "past" "LSevenTable$Past;" ∈ gw := gw_2 113 (by decide +kernel) rfl
theorem q_2_114 : Cond.fieldLink RX10 74 "SevenTable" "keptGames" "[LSevenTable$Game;" ∈ gw := gw_2 114 (by decide +kernel) rfl
theorem q_2_115 : Cond.fieldLink RX10 78 "SevenTable" "keptSentences" "[LSevenTable$Sentence;" ∈ gw := gw_2 115 (by decide +kernel) rfl
theorem q_2_116 : Cond.fieldLink RX10 82 "SevenTable" "latest" "[I" ∈ gw := gw_2 116 (by decide +kernel) rfl
theorem q_2_117 : Cond.fieldLink RX10 86 "SevenTable" "trialReport" "[I" ∈ gw := gw_2 117 (by decide +kernel) rfl
theorem q_2_118 : Cond.fieldLink RX10 89 "SevenTable" "verdict" "[I" ∈ gw := gw_2 118 (by decide +kernel) rfl
theorem q_2_119 : Cond.fieldLink RX10 92 "SevenTable" "sweepRow" "[I" ∈ gw := gw_2 119 (by decide +kernel) rfl
theorem q_2_120 : Cond.fieldLink RX10 95 "SevenTable" "sweepSize" "I" ∈ gw := gw_2 120 (by decide +kernel) rfl
theorem q_2_121 : Cond.fieldLink RX10 98 "SevenTable" "onlooker" "LSevenTable$Odds;" ∈ gw := gw_2 121 (by decide +kernel) rfl
theorem q_2_122 : Cond.fieldLink RX10 102 "SevenTable" "duel" "LSevenTable$Duel;" ∈ gw := gw_2 122 (by decide +kernel) rfl
theorem q_2_168 : Cond.methodLink RX10 112 yX10_putFour ∈ gw := gw_2 168 (by decide +kernel) rfl
theorem q_2_170 : Cond.instanceMethod yX10_putFour ∈ gw := gw_2 170 (by decide +kernel) rfl
theorem q_2_171 : Cond.code yX10_putFour cX10_putFour 3 none ∈ gw := gw_2 171 (by decide +kernel) rfl
theorem q_2_35 : Cond.fieldLink RX10 135 "SevenTable$TableText" "lines" "I" ∈ gw := gw_2 35 (by decide +kernel) rfl
theorem q_2_54 : Cond.fieldLink RX10 343 "SevenTable$EveningText" "lines" "I" ∈ gw := gw_2 54 (by decide +kernel) rfl
theorem q_2_72 : Cond.fieldLink RX10 345 "SevenTable$SentenceText" "made" "LSevenTable$Sentence;" ∈ gw := gw_2 72 (by decide +kernel) rfl
theorem q_2_74 : Cond.fieldLink RX10 351 "SevenTable$SentenceText" "ones" "I" ∈ gw := gw_2 74 (by decide +kernel) rfl
theorem q_2_93 : Cond.fieldLink RX10 234 "SevenTable$Past" "size" "I" ∈ gw := gw_2 93 (by decide +kernel) rfl
theorem q_3_115 : Cond.methodLink RX10 138 yX2_hasPerson ∈ gw := gw_3 115 (by decide +kernel) rfl
theorem q_3_119 : Cond.methodLink RX10 159 yX2_booksOf ∈ gw := gw_3 119 (by decide +kernel) rfl
theorem q_3_123 : Cond.methodLink RX10 163 yX2_kindBits ∈ gw := gw_3 123 (by decide +kernel) rfl
theorem q_3_124 : Cond.instanceMethod yX2_kindBits ∈ gw := gw_3 124 (by decide +kernel) rfl
theorem q_3_125 : Cond.selects RX2 yX2_kindBits yX2_kindBits ∈ gw := gw_3 125 (by decide +kernel) rfl
theorem q_3_126 : Cond.code yX2_kindBits cX2_kindBits 4 (some .int) ∈ gw := gw_3 126 (by decide +kernel) rfl
theorem q_3_127 : Cond.methodLink RX10 170 yX3_othersOf ∈ gw := gw_3 127 (by decide +kernel) rfl
theorem q_3_128 : Cond.instanceMethod yX3_othersOf ∈ gw := gw_3 128 (by decide +kernel) rfl
theorem q_3_129 : Cond.selects RX3 yX3_othersOf yX3_othersOf ∈ gw := gw_3 129 (by decide +kernel) rfl
theorem q_3_130 : Cond.code yX3_othersOf cX3_othersOf 4 (some .int) ∈ gw := gw_3 130 (by decide +kernel) rfl
theorem q_3_135 : Cond.methodLink RX10 142 yX2_hasKind ∈ gw := gw_3 135 (by decide +kernel) rfl
theorem q_3_143 : Cond.methodLink RX10 190 yX2_heapSize ∈ gw := gw_3 143 (by decide +kernel) rfl
theorem q_3_151 : Cond.methodLink RX10 206 yX2_allBooks ∈ gw := gw_3 151 (by decide +kernel) rfl
theorem q_3_152 : Cond.instanceMethod yX2_allBooks ∈ gw := gw_3 152 (by decide +kernel) rfl
theorem q_3_153 : Cond.selects RX2 yX2_allBooks yX2_allBooks ∈ gw := gw_3 153 (by decide +kernel) rfl
theorem q_3_154 : Cond.code yX2_allBooks cX2_allBooks 1 (some .int) ∈ gw := gw_3 154 (by decide +kernel) rfl
theorem q_3_156 : Cond.methodLink RX10 212 yX2_loose ∈ gw := gw_3 156 (by decide +kernel) rfl
theorem q_3_157 : Cond.instanceMethod yX2_loose ∈ gw := gw_3 157 (by decide +kernel) rfl
theorem q_3_158 : Cond.selects RX2 yX2_loose yX2_loose ∈ gw := gw_3 158 (by decide +kernel) rfl
theorem q_3_159 : Cond.code yX2_loose cX2_loose 3 (some .int) ∈ gw := gw_3 159 (by decide +kernel) rfl
theorem q_3_165 : Cond.methodLink RX10 215 yX10_areSuch ∈ gw := gw_3 165 (by decide +kernel) rfl
theorem q_3_167 : Cond.instanceMethod yX10_areSuch ∈ gw := gw_3 167 (by decide +kernel) rfl
theorem q_3_168 : Cond.code yX10_areSuch cX10_areSuch 4 (some .boolean) ∈ gw := gw_3 168 (by decide +kernel) rfl
theorem q_3_169 : Cond.methodLink RX10 219 yX2_whyNot ∈ gw := gw_3 169 (by decide +kernel) rfl
theorem q_3_170 : Cond.instanceMethod yX2_whyNot ∈ gw := gw_3 170 (by decide +kernel) rfl
theorem q_3_171 : Cond.selects RX2 yX2_whyNot yX2_whyNot ∈ gw := gw_3 171 (by decide +kernel) rfl
theorem q_3_172 : Cond.code yX2_whyNot cX2_whyNot 4 (some .int) ∈ gw := gw_3 172 (by decide +kernel) rfl
theorem q_3_184 : Cond.methodLink RX10 226 yX2_doAsking ∈ gw := gw_3 184 (by decide +kernel) rfl
theorem q_3_185 : Cond.instanceMethod yX2_doAsking ∈ gw := gw_3 185 (by decide +kernel) rfl
theorem q_3_186 : Cond.selects RX2 yX2_doAsking yX2_doAsking ∈ gw := gw_3 186 (by decide +kernel) rfl
theorem q_3_187 : Cond.code yX2_doAsking cX2_doAsking 9 (some .int) ∈ gw := gw_3 187 (by decide +kernel) rfl
theorem q_3_228 : Cond.methodLink RX10 237 yX3_sureOf ∈ gw := gw_3 228 (by decide +kernel) rfl
theorem q_3_233 : Cond.methodLink RX10 240 yX3_mayBe ∈ gw := gw_3 233 (by decide +kernel) rfl
theorem q_3_40 : Cond.methodLink RX10 124 yX2_start ∈ gw := gw_3 40 (by decide +kernel) rfl
theorem q_3_41 : Cond.instanceMethod yX2_start ∈ gw := gw_3 41 (by decide +kernel) rfl
theorem q_3_42 : Cond.selects RX2 yX2_start yX2_start ∈ gw := gw_3 42 (by decide +kernel) rfl
theorem q_3_43 : Cond.code yX2_start cX2_start 3 none ∈ gw := gw_3 43 (by decide +kernel) rfl
theorem q_3_87 : Cond.methodLink RX10 127 yX2_copyFrom ∈ gw := gw_3 87 (by decide +kernel) rfl
theorem q_3_88 : Cond.instanceMethod yX2_copyFrom ∈ gw := gw_3 88 (by decide +kernel) rfl
theorem q_3_89 : Cond.selects RX2 yX2_copyFrom yX2_copyFrom ∈ gw := gw_3 89 (by decide +kernel) rfl
theorem q_3_90 : Cond.code yX2_copyFrom cX2_copyFrom 2 none ∈ gw := gw_3 90 (by decide +kernel) rfl
theorem q_4_115 : Cond.methodLink RX10 152 yX2_held ∈ gw := gw_4 115 (by decide +kernel) rfl
theorem q_4_116 : Cond.methodLink RX10 287 yX10_sweepKind ∈ gw := gw_4 116 (by decide +kernel) rfl
theorem q_4_118 : Cond.instanceMethod yX10_sweepKind ∈ gw := gw_4 118 (by decide +kernel) rfl
theorem q_4_119 : Cond.code yX10_sweepKind cX10_sweepKind 4 none ∈ gw := gw_4 119 (by decide +kernel) rfl
theorem q_4_128 : Cond.methodLink RX10 291 yX2_inHands ∈ gw := gw_4 128 (by decide +kernel) rfl
theorem q_4_18 : Cond.fieldLink RX10 261 "SevenTable$Odds" "allWays" "J" ∈ gw := gw_4 18 (by decide +kernel) rfl
theorem q_5_10 : Cond.methodLink RX10 311 yX10_isRule ∈ gw := gw_5 10 (by decide +kernel) rfl
theorem q_5_117 : Cond.methodLink RX10 368 yX1_askerOf ∈ gw := gw_5 117 (by decide +kernel) rfl
theorem q_5_118 : Cond.instanceMethod yX1_askerOf ∈ gw := gw_5 118 (by decide +kernel) rfl
theorem q_5_119 : Cond.selects RX1 yX1_askerOf yX1_askerOf ∈ gw := gw_5 119 (by decide +kernel) rfl
theorem q_5_12 : Cond.instanceMethod yX10_isRule ∈ gw := gw_5 12 (by decide +kernel) rfl
theorem q_5_120 : Cond.code yX1_askerOf cX1_askerOf 2 (some .int) ∈ gw := gw_5 120 (by decide +kernel) rfl
theorem q_5_121 : Cond.methodLink RX10 371 yX1_otherOf ∈ gw := gw_5 121 (by decide +kernel) rfl
theorem q_5_122 : Cond.instanceMethod yX1_otherOf ∈ gw := gw_5 122 (by decide +kernel) rfl
theorem q_5_123 : Cond.selects RX1 yX1_otherOf yX1_otherOf ∈ gw := gw_5 123 (by decide +kernel) rfl
theorem q_5_124 : Cond.code yX1_otherOf cX1_otherOf 2 (some .int) ∈ gw := gw_5 124 (by decide +kernel) rfl
theorem q_5_125 : Cond.methodLink RX10 374 yX1_kindOf ∈ gw := gw_5 125 (by decide +kernel) rfl
theorem q_5_126 : Cond.instanceMethod yX1_kindOf ∈ gw := gw_5 126 (by decide +kernel) rfl
theorem q_5_127 : Cond.selects RX1 yX1_kindOf yX1_kindOf ∈ gw := gw_5 127 (by decide +kernel) rfl
theorem q_5_128 : Cond.code yX1_kindOf cX1_kindOf 2 (some .int) ∈ gw := gw_5 128 (by decide +kernel) rfl
theorem q_5_129 : Cond.methodLink RX10 377 yX1_givenOf ∈ gw := gw_5 129 (by decide +kernel) rfl
theorem q_5_13 : Cond.code yX10_isRule cX10_isRule 2 (some .boolean) ∈ gw := gw_5 13 (by decide +kernel) rfl
theorem q_5_130 : Cond.instanceMethod yX1_givenOf ∈ gw := gw_5 130 (by decide +kernel) rfl
theorem q_5_131 : Cond.selects RX1 yX1_givenOf yX1_givenOf ∈ gw := gw_5 131 (by decide +kernel) rfl
theorem q_5_132 : Cond.code yX1_givenOf cX1_givenOf 2 (some .int) ∈ gw := gw_5 132 (by decide +kernel) rfl
theorem q_5_14 : Cond.methodLink RX10 314 yX2_choice ∈ gw := gw_5 14 (by decide +kernel) rfl
theorem q_5_15 : Cond.instanceMethod yX2_choice ∈ gw := gw_5 15 (by decide +kernel) rfl
theorem q_5_16 : Cond.selects RX2 yX2_choice yX2_choice ∈ gw := gw_5 16 (by decide +kernel) rfl
theorem q_5_17 : Cond.code yX2_choice cX2_choice 6 (some .int) ∈ gw := gw_5 17 (by decide +kernel) rfl
theorem q_5_191 : Cond.methodLink RX10 355 yX7_holdsFor ∈ gw := gw_5 191 (by decide +kernel) rfl
theorem q_5_192 : Cond.instanceMethod yX7_holdsFor ∈ gw := gw_5 192 (by decide +kernel) rfl
theorem q_5_193 : Cond.selects RX7 yX7_holdsFor yX7_holdsFor ∈ gw := gw_5 193 (by decide +kernel) rfl
theorem q_5_194 : Cond.code yX7_holdsFor cX7_holdsFor 7 (some .boolean) ∈ gw := gw_5 194 (by decide +kernel) rfl
theorem q_5_51 : Cond.methodLink RX10 320 yX2_canDeal ∈ gw := gw_5 51 (by decide +kernel) rfl
theorem q_5_52 : Cond.instanceMethod yX2_canDeal ∈ gw := gw_5 52 (by decide +kernel) rfl
theorem q_5_53 : Cond.selects RX2 yX2_canDeal yX2_canDeal ∈ gw := gw_5 53 (by decide +kernel) rfl
theorem q_5_54 : Cond.code yX2_canDeal cX2_canDeal 2 (some .boolean) ∈ gw := gw_5 54 (by decide +kernel) rfl
theorem q_5_55 : Cond.methodLink RX10 323 yX2_dealOut ∈ gw := gw_5 55 (by decide +kernel) rfl
theorem q_5_56 : Cond.instanceMethod yX2_dealOut ∈ gw := gw_5 56 (by decide +kernel) rfl
theorem q_5_57 : Cond.selects RX2 yX2_dealOut yX2_dealOut ∈ gw := gw_5 57 (by decide +kernel) rfl
theorem q_5_58 : Cond.code yX2_dealOut cX2_dealOut 7 none ∈ gw := gw_5 58 (by decide +kernel) rfl
theorem q_5_65 : Cond.methodLink RX10 326 yX10_areGames ∈ gw := gw_5 65 (by decide +kernel) rfl
theorem q_5_67 : Cond.instanceMethod yX10_areGames ∈ gw := gw_5 67 (by decide +kernel) rfl
theorem q_5_68 : Cond.code yX10_areGames cX10_areGames 4 (some .boolean) ∈ gw := gw_5 68 (by decide +kernel) rfl
theorem q_5_69 : Cond.methodLink RX10 329 yX10_playGames ∈ gw := gw_5 69 (by decide +kernel) rfl
theorem q_5_71 : Cond.instanceMethod yX10_playGames ∈ gw := gw_5 71 (by decide +kernel) rfl
theorem q_5_72 : Cond.code yX10_playGames cX10_playGames 11 (some .int) ∈ gw := gw_5 72 (by decide +kernel) rfl
theorem q_5_73 : Cond.methodLink RX10 365 yX2_isAheadOfAll ∈ gw := gw_5 73 (by decide +kernel) rfl
theorem q_5_74 : Cond.instanceMethod yX2_isAheadOfAll ∈ gw := gw_5 74 (by decide +kernel) rfl
theorem q_5_75 : Cond.selects RX2 yX2_isAheadOfAll yX2_isAheadOfAll ∈ gw := gw_5 75 (by decide +kernel) rfl
theorem q_5_76 : Cond.code yX2_isAheadOfAll cX2_isAheadOfAll 4 (some .boolean) ∈ gw := gw_5 76 (by decide +kernel) rfl
theorem inGX10 : ∀ w ∈ u_ws RX10 TX10 20, w ∈ gw := by
  intro w hw
  obtain ⟨k, hk, rfl⟩ := List.mem_map.mp hw
  have hk := List.mem_range.mp hk
  match k, hk with
  | 0, _ => exact gw_2 123 (by decide +kernel) rfl
  | 1, _ => exact gw_2 125 (by decide +kernel) rfl
  | 2, _ => exact gw_2 127 (by decide +kernel) rfl
  | 3, _ => exact gw_2 129 (by decide +kernel) rfl
  | 4, _ => exact gw_2 131 (by decide +kernel) rfl
  | 5, _ => exact gw_2 133 (by decide +kernel) rfl
  | 6, _ => exact gw_2 135 (by decide +kernel) rfl
  | 7, _ => exact gw_2 137 (by decide +kernel) rfl
  | 8, _ => exact gw_2 139 (by decide +kernel) rfl
  | 9, _ => exact gw_2 141 (by decide +kernel) rfl
  | 10, _ => exact gw_2 143 (by decide +kernel) rfl
  | 11, _ => exact gw_2 145 (by decide +kernel) rfl
  | 12, _ => exact gw_2 147 (by decide +kernel) rfl
  | 13, _ => exact gw_2 149 (by decide +kernel) rfl
  | 14, _ => exact gw_2 151 (by decide +kernel) rfl
  | 15, _ => exact gw_2 153 (by decide +kernel) rfl
  | 16, _ => exact gw_2 155 (by decide +kernel) rfl
  | 17, _ => exact gw_2 157 (by decide +kernel) rfl
  | 18, _ => exact gw_2 159 (by decide +kernel) rfl
  | 19, _ => exact gw_2 161 (by decide +kernel) rfl
  | (k + 20), h => exact absurd h (by omega)
theorem inGX5 : ∀ w ∈ u_ws RX5 TX5 3, w ∈ gw := by
  intro w hw
  obtain ⟨k, hk, rfl⟩ := List.mem_map.mp hw
  have hk := List.mem_range.mp hk
  match k, hk with
  | 0, _ => exact gw_2 94 (by decide +kernel) rfl
  | 1, _ => exact gw_2 96 (by decide +kernel) rfl
  | 2, _ => exact gw_2 98 (by decide +kernel) rfl
  | (k + 3), h => exact absurd h (by omega)
theorem fdX10 {own : String} {i j : Nat} (hj : j < 20) (hl : Cond.fieldLink own i (TX10 j).1 (TX10 j).2.1 (TX10 j).2.2.1 ∈ gw) (hf : tyX10 j = .int ∨ tyX10 j = .long ∨ tyX10 j = .boolean → (TX10 j).2.2.2 = false) : xFd own i 10 j := ⟨RX10, TX10, 20, tyX10, rfl, inGX10, tyX10_ok, nmX10, hj, hl, hf⟩
theorem fdX5 {own : String} {i j : Nat} (hj : j < 3) (hl : Cond.fieldLink own i (TX5 j).1 (TX5 j).2.1 (TX5 j).2.2.1 ∈ gw) (hf : tyX5 j = .int ∨ tyX5 j = .long ∨ tyX5 j = .boolean → (TX5 j).2.2.2 = false) : xFd own i 5 j := ⟨RX5, TX5, 3, tyX5, rfl, inGX5, tyX5_ok, nmX5, hj, hl, hf⟩
/-- the world B0 -/
def wlB0 : List (Nat × Nat × List Nat) := [(0, 10, [5, 0, 0, 6, 19, 32, 34, 36, 38, 40, 43, 45, 46, 47, 48, 49, 50, 0, 3, 3]), (1, 940, []), (0, 2, [0, 0, 2, 0, 7, 8, 9, 10, 0, 0, 11, 12, 13, 14, 0, 0, 0, 15]), (3, 6, []), (2, 78, []), (2, 6, []), (2, 52, []), (2, 13, []), (2, 6, []), (2, 6, []), (2, 6, []), (0, 3, [16, 17, 0, 18]), (2, 78, []), (2, 52, []), (2, 6, []), (0, 2, [0, 0, 2, 0, 20, 21, 22, 23, 0, 0, 24, 25, 26, 27, 0, 0, 0, 28]), (3, 6, []), (2, 78, []), (2, 6, []), (2, 52, []), (2, 13, []), (2, 6, []), (2, 6, []), (2, 6, []), (0, 3, [29, 30, 0, 31]), (2, 78, []), (2, 52, []), (2, 6, []), (0, 7, [33, 0]), (2, 40, []), (0, 6, [35, 3, 0, 0, 0, 0, 0, 0, 1, 0, 0]), (3, 19, []), (0, 9, [34, 37, 2, 0]), (2, 13, []), (0, 1, [34, 39, 0]), (2, 120, []), (0, 8, [34, 41, 0]), (0, 7, [42, 0]), (2, 40, []), (0, 5, [44, 0, 0]), (5, 8, []), (5, 2, []), (6, 2, []), (2, 8, []), (2, 8, []), (2, 4, []), (2, 78, [])]
def shB0 : xH := fun t => wlB0[t]?
theorem fiB0 : xfin 47 shB0 := xfin_l wlB0
theorem okB0 : xShp shB0 ∧ xLn shB0 := xSh_ok (l := wlB0) ⟨⟨RX10, TX10, 20, rfl, by decide +kernel⟩, (by decide : 940 < 2147483648), ⟨RX2, TX2, 18, rfl, by decide +kernel⟩, (by decide : 6 < 2147483648), (by decide : 78 < 2147483648), (by decide : 6 < 2147483648), (by decide : 52 < 2147483648), (by decide : 13 < 2147483648), (by decide : 6 < 2147483648), (by decide : 6 < 2147483648), (by decide : 6 < 2147483648), ⟨RX3, TX3, 4, rfl, by decide +kernel⟩, (by decide : 78 < 2147483648), (by decide : 52 < 2147483648), (by decide : 6 < 2147483648), ⟨RX2, TX2, 18, rfl, by decide +kernel⟩, (by decide : 6 < 2147483648), (by decide : 78 < 2147483648), (by decide : 6 < 2147483648), (by decide : 52 < 2147483648), (by decide : 13 < 2147483648), (by decide : 6 < 2147483648), (by decide : 6 < 2147483648), (by decide : 6 < 2147483648), ⟨RX3, TX3, 4, rfl, by decide +kernel⟩, (by decide : 78 < 2147483648), (by decide : 52 < 2147483648), (by decide : 6 < 2147483648), ⟨RX7, TX7, 2, rfl, by decide +kernel⟩, (by decide : 40 < 2147483648), ⟨RX6, TX6, 11, rfl, by decide +kernel⟩, (by decide : 19 < 2147483648), ⟨RX9, TX9, 4, rfl, by decide +kernel⟩, (by decide : 13 < 2147483648), ⟨RX1, TX1, 3, rfl, by decide +kernel⟩, (by decide : 120 < 2147483648), ⟨RX8, TX8, 3, rfl, by decide +kernel⟩, ⟨RX7, TX7, 2, rfl, by decide +kernel⟩, (by decide : 40 < 2147483648), ⟨RX5, TX5, 3, rfl, by decide +kernel⟩, (by decide : 8 < 2147483648), (by decide : 2 < 2147483648), (by decide : 2 < 2147483648), (by decide : 8 < 2147483648), (by decide : 8 < 2147483648), (by decide : 4 < 2147483648), (by decide : 78 < 2147483648), trivial⟩
/-- the world B1 -/
def wlB1 : List (Nat × Nat × List Nat) := [(0, 10, [5, 0, 0, 6, 19, 32, 34, 36, 38, 40, 43, 45, 46, 47, 48, 49, 50, 0, 3, 3]), (1, 940, []), (0, 2, [0, 0, 2, 0, 7, 8, 9, 10, 0, 0, 11, 12, 13, 14, 0, 0, 0, 15]), (3, 6, []), (2, 78, []), (2, 6, []), (2, 52, []), (2, 13, []), (2, 6, []), (2, 6, []), (2, 6, []), (0, 3, [16, 17, 0, 18]), (2, 78, []), (2, 52, []), (2, 6, []), (0, 2, [0, 0, 2, 0, 20, 21, 22, 23, 0, 0, 24, 25, 26, 27, 0, 0, 0, 28]), (3, 6, []), (2, 78, []), (2, 6, []), (2, 52, []), (2, 13, []), (2, 6, []), (2, 6, []), (2, 6, []), (0, 3, [29, 30, 0, 31]), (2, 78, []), (2, 52, []), (2, 6, []), (0, 7, [33, 0]), (2, 40, []), (0, 6, [35, 5, 0, 0, 0, 0, 0, 0, 1, 0, 0]), (3, 19, []), (0, 9, [34, 37, 2, 0]), (2, 13, []), (0, 1, [34, 39, 0]), (2, 120, []), (0, 8, [34, 41, 0]), (0, 7, [42, 0]), (2, 40, []), (0, 5, [44, 0, 0]), (5, 8, []), (5, 2, []), (6, 2, []), (2, 8, []), (2, 8, []), (2, 4, []), (2, 78, [])]
def shB1 : xH := fun t => wlB1[t]?
theorem fiB1 : xfin 47 shB1 := xfin_l wlB1
theorem okB1 : xShp shB1 ∧ xLn shB1 := xSh_ok (l := wlB1) ⟨⟨RX10, TX10, 20, rfl, by decide +kernel⟩, (by decide : 940 < 2147483648), ⟨RX2, TX2, 18, rfl, by decide +kernel⟩, (by decide : 6 < 2147483648), (by decide : 78 < 2147483648), (by decide : 6 < 2147483648), (by decide : 52 < 2147483648), (by decide : 13 < 2147483648), (by decide : 6 < 2147483648), (by decide : 6 < 2147483648), (by decide : 6 < 2147483648), ⟨RX3, TX3, 4, rfl, by decide +kernel⟩, (by decide : 78 < 2147483648), (by decide : 52 < 2147483648), (by decide : 6 < 2147483648), ⟨RX2, TX2, 18, rfl, by decide +kernel⟩, (by decide : 6 < 2147483648), (by decide : 78 < 2147483648), (by decide : 6 < 2147483648), (by decide : 52 < 2147483648), (by decide : 13 < 2147483648), (by decide : 6 < 2147483648), (by decide : 6 < 2147483648), (by decide : 6 < 2147483648), ⟨RX3, TX3, 4, rfl, by decide +kernel⟩, (by decide : 78 < 2147483648), (by decide : 52 < 2147483648), (by decide : 6 < 2147483648), ⟨RX7, TX7, 2, rfl, by decide +kernel⟩, (by decide : 40 < 2147483648), ⟨RX6, TX6, 11, rfl, by decide +kernel⟩, (by decide : 19 < 2147483648), ⟨RX9, TX9, 4, rfl, by decide +kernel⟩, (by decide : 13 < 2147483648), ⟨RX1, TX1, 3, rfl, by decide +kernel⟩, (by decide : 120 < 2147483648), ⟨RX8, TX8, 3, rfl, by decide +kernel⟩, ⟨RX7, TX7, 2, rfl, by decide +kernel⟩, (by decide : 40 < 2147483648), ⟨RX5, TX5, 3, rfl, by decide +kernel⟩, (by decide : 8 < 2147483648), (by decide : 2 < 2147483648), (by decide : 2 < 2147483648), (by decide : 8 < 2147483648), (by decide : 8 < 2147483648), (by decide : 4 < 2147483648), (by decide : 78 < 2147483648), trivial⟩
def flX10 : List (Nat × Nat × Nat) := [(9, 10, 0), (13, 10, 1), (17, 10, 2), (23, 10, 3), (27, 10, 4), (33, 10, 5), (40, 10, 6), (49, 10, 7), (56, 10, 8), (63, 10, 9), (70, 10, 10), (74, 10, 11), (78, 10, 12), (82, 10, 13), (86, 10, 14), (89, 10, 15), (92, 10, 16), (95, 10, 17), (98, 10, 18), (102, 10, 19), (120, 6, 9), (121, 6, 10), (135, 9, 3), (156, 2, 6), (166, 2, 17), (175, 3, 3), (178, 2, 11), (181, 2, 12), (184, 2, 13), (187, 2, 10), (194, 2, 7), (197, 2, 8), (200, 2, 14), (203, 2, 15), (209, 2, 16), (234, 5, 2), (261, 4, 9), (277, 2, 1), (284, 2, 0), (343, 1, 2), (345, 8, 1), (351, 8, 2), (354, 7, 1), (358, 2, 2), (362, 2, 3)]
theorem foX10 : ∀ i ci j, xlk flX10 i = some (ci, j) → xFd RX10 i ci j := xFs_ok (L := flX10) ⟨fdX10 (by decide) q_2_103 (by decide), fdX10 (by decide) q_2_104 (by decide), fdX10 (by decide) q_2_105 (by decide), fdX10 (by decide) q_2_106 (by decide), fdX10 (by decide) q_2_107 (by decide), fdX10 (by decide) q_2_108 (by decide), fdX10 (by decide) q_2_109 (by decide), fdX10 (by decide) q_2_110 (by decide), fdX10 (by decide) q_2_111 (by decide), fdX10 (by decide) q_2_112 (by decide), fdX10 (by decide) q_2_113 (by decide), fdX10 (by decide) q_2_114 (by decide), fdX10 (by decide) q_2_115 (by decide), fdX10 (by decide) q_2_116 (by decide), fdX10 (by decide) q_2_117 (by decide), fdX10 (by decide) q_2_118 (by decide), fdX10 (by decide) q_2_119 (by decide), fdX10 (by decide) q_2_120 (by decide), fdX10 (by decide) q_2_121 (by decide), fdX10 (by decide) q_2_122 (by decide), fdX6 (by decide) q_1_239 (by decide), fdX6 (by decide) q_2_1 (by decide), fdX9 (by decide) q_2_35 (by decide), fdX2 (by decide) q_1_85 (by decide), fdX2 (by decide) q_1_113 (by decide), fdX3 (by decide) q_1_48 (by decide), fdX2 (by decide) q_1_97 (by decide), fdX2 (by decide) q_1_99 (by decide), fdX2 (by decide) q_1_101 (by decide), fdX2 (by decide) q_1_95 (by decide), fdX2 (by decide) q_1_88 (by decide), fdX2 (by decide) q_1_91 (by decide), fdX2 (by decide) q_1_104 (by decide), fdX2 (by decide) q_1_106 (by decide), fdX2 (by decide) q_1_109 (by decide), fdX5 (by decide) q_2_93 (by decide), fdX4 (by decide) q_4_18 (by decide), fdX2 (by decide) q_1_73 (by decide), fdX2 (by decide) q_1_69 (by decide), fdX1 (by decide) q_2_54 (by decide), fdX8 (by decide) q_2_72 (by decide), fdX8 (by decide) q_2_74 (by decide), fdX7 (by decide) q_1_159 (by decide), fdX2 (by decide) q_1_77 (by decide), fdX2 (by decide) q_1_81 (by decide), trivial⟩
def coX10 : List (Nat × (Int ⊕ Int)) := []
theorem cnX10 : xCn RX10 (xlk coX10) := xCs_ok (L := coX10) trivial
