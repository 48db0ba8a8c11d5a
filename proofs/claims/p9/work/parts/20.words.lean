/-! the words that the rows use, each by its place in the tables; printed by wip/p2/genx.py -/
theorem q_p_100 : Cond.selects RX11 yX11_filled yX11_filled ∈ gw := gw_s (y := yX11_filled) (n := 65) (List.mem_append_right _ (List.mem_append_right _ (List.mem_append_right _ (List.mem_append_right _ (List.mem_append_right _ (List.mem_append_right _ (List.mem_append_left _ (List.mem_of_getElem? (i := 4) (by decide +kernel)))))))))
theorem q_p_101 : Cond.selects RX11 yX11_bentOf yX11_bentOf ∈ gw := gw_s (y := yX11_bentOf) (n := 65) (List.mem_append_right _ (List.mem_append_right _ (List.mem_append_right _ (List.mem_append_right _ (List.mem_append_right _ (List.mem_append_right _ (List.mem_append_left _ (List.mem_of_getElem? (i := 5) (by decide +kernel)))))))))
theorem q_p_102 : Cond.selects RX11 yX11_nextWithCards yX11_nextWithCards ∈ gw := gw_s (y := yX11_nextWithCards) (n := 65) (List.mem_append_right _ (List.mem_append_right _ (List.mem_append_right _ (List.mem_append_right _ (List.mem_append_right _ (List.mem_append_right _ (List.mem_append_left _ (List.mem_of_getElem? (i := 6) (by decide +kernel)))))))))
theorem q_p_103 : Cond.selects RX11 yX11_octet yX11_octet ∈ gw := gw_s (y := yX11_octet) (n := 65) (List.mem_append_right _ (List.mem_append_right _ (List.mem_append_right _ (List.mem_append_right _ (List.mem_append_right _ (List.mem_append_right _ (List.mem_append_left _ (List.mem_of_getElem? (i := 7) (by decide +kernel)))))))))
theorem q_p_104 : Cond.selects RX11 yX11_plays yX11_plays ∈ gw := gw_s (y := yX11_plays) (n := 65) (List.mem_append_right _ (List.mem_append_right _ (List.mem_append_right _ (List.mem_append_right _ (List.mem_append_right _ (List.mem_append_right _ (List.mem_append_left _ (List.mem_of_getElem? (i := 8) (by decide +kernel)))))))))
theorem q_p_105 : Cond.selects RX11 yX11_deals yX11_deals ∈ gw := gw_s (y := yX11_deals) (n := 65) (List.mem_append_right _ (List.mem_append_right _ (List.mem_append_right _ (List.mem_append_right _ (List.mem_append_right _ (List.mem_append_right _ (List.mem_append_left _ (List.mem_of_getElem? (i := 9) (by decide +kernel)))))))))
theorem q_p_106 : Cond.selects RX11 yX11_draw yX11_draw ∈ gw := gw_s (y := yX11_draw) (n := 65) (List.mem_append_right _ (List.mem_append_right _ (List.mem_append_right _ (List.mem_append_right _ (List.mem_append_right _ (List.mem_append_right _ (List.mem_append_left _ (List.mem_of_getElem? (i := 10) (by decide +kernel)))))))))
theorem q_p_107 : Cond.selects RX11 yX11_areGames yX11_areGames ∈ gw := gw_s (y := yX11_areGames) (n := 65) (List.mem_append_right _ (List.mem_append_right _ (List.mem_append_right _ (List.mem_append_right _ (List.mem_append_right _ (List.mem_append_right _ (List.mem_append_left _ (List.mem_of_getElem? (i := 11) (by decide +kernel)))))))))
theorem q_p_108 : Cond.selects RX11 yX11_gamesOf yX11_gamesOf ∈ gw := gw_s (y := yX11_gamesOf) (n := 65) (List.mem_append_right _ (List.mem_append_right _ (List.mem_append_right _ (List.mem_append_right _ (List.mem_append_right _ (List.mem_append_right _ (List.mem_append_left _ (List.mem_of_getElem? (i := 12) (by decide +kernel)))))))))
theorem q_p_109 : Cond.selects RX11 yX11_tries yX11_tries ∈ gw := gw_s (y := yX11_tries) (n := 65) (List.mem_append_right _ (List.mem_append_right _ (List.mem_append_right _ (List.mem_append_right _ (List.mem_append_right _ (List.mem_append_right _ (List.mem_append_left _ (List.mem_of_getElem? (i := 13) (by decide +kernel)))))))))
theorem q_p_110 : Cond.selects RX11 yX11_back yX11_back ∈ gw := gw_s (y := yX11_back) (n := 65) (List.mem_append_right _ (List.mem_append_right _ (List.mem_append_right _ (List.mem_append_right _ (List.mem_append_right _ (List.mem_append_right _ (List.mem_append_left _ (List.mem_of_getElem? (i := 14) (by decide +kernel)))))))))
theorem q_p_111 : Cond.selects RX11 yX11_eveningLine yX11_eveningLine ∈ gw := gw_s (y := yX11_eveningLine) (n := 65) (List.mem_append_right _ (List.mem_append_right _ (List.mem_append_right _ (List.mem_append_right _ (List.mem_append_right _ (List.mem_append_right _ (List.mem_append_left _ (List.mem_of_getElem? (i := 15) (by decide +kernel)))))))))
theorem q_p_112 : Cond.selects RX11 yX11_nots yX11_nots ∈ gw := gw_s (y := yX11_nots) (n := 65) (List.mem_append_right _ (List.mem_append_right _ (List.mem_append_right _ (List.mem_append_right _ (List.mem_append_right _ (List.mem_append_right _ (List.mem_append_right _ (List.mem_of_getElem? (i := 0) (by decide +kernel)))))))))
theorem q_p_113 : Cond.selects RX11 yX11_code yX11_code ∈ gw := gw_s (y := yX11_code) (n := 65) (List.mem_append_right _ (List.mem_append_right _ (List.mem_append_right _ (List.mem_append_right _ (List.mem_append_right _ (List.mem_append_right _ (List.mem_append_right _ (List.mem_of_getElem? (i := 1) (by decide +kernel)))))))))
theorem q_p_114 : Cond.selects RX11 yX11_joins yX11_joins ∈ gw := gw_s (y := yX11_joins) (n := 65) (List.mem_append_right _ (List.mem_append_right _ (List.mem_append_right _ (List.mem_append_right _ (List.mem_append_right _ (List.mem_append_right _ (List.mem_append_right _ (List.mem_of_getElem? (i := 2) (by decide +kernel)))))))))
theorem q_p_115 : Cond.selects RX11 yX11_behind yX11_behind ∈ gw := gw_s (y := yX11_behind) (n := 65) (List.mem_append_right _ (List.mem_append_right _ (List.mem_append_right _ (List.mem_append_right _ (List.mem_append_right _ (List.mem_append_right _ (List.mem_append_right _ (List.mem_of_getElem? (i := 3) (by decide +kernel)))))))))
theorem q_p_116 : Cond.selects RX11 yX11_operand yX11_operand ∈ gw := gw_s (y := yX11_operand) (n := 65) (List.mem_append_right _ (List.mem_append_right _ (List.mem_append_right _ (List.mem_append_right _ (List.mem_append_right _ (List.mem_append_right _ (List.mem_append_right _ (List.mem_of_getElem? (i := 4) (by decide +kernel)))))))))
theorem q_p_117 : Cond.selects RX11 yX11_leafOf yX11_leafOf ∈ gw := gw_s (y := yX11_leafOf) (n := 65) (List.mem_append_right _ (List.mem_append_right _ (List.mem_append_right _ (List.mem_append_right _ (List.mem_append_right _ (List.mem_append_right _ (List.mem_append_right _ (List.mem_of_getElem? (i := 5) (by decide +kernel)))))))))
theorem q_p_118 : Cond.selects RX11 yX11_isSaid yX11_isSaid ∈ gw := gw_s (y := yX11_isSaid) (n := 65) (List.mem_append_right _ (List.mem_append_right _ (List.mem_append_right _ (List.mem_append_right _ (List.mem_append_right _ (List.mem_append_right _ (List.mem_append_right _ (List.mem_of_getElem? (i := 6) (by decide +kernel)))))))))
theorem q_p_119 : Cond.selects RX11 yX11_isLeaf yX11_isLeaf ∈ gw := gw_s (y := yX11_isLeaf) (n := 65) (List.mem_append_right _ (List.mem_append_right _ (List.mem_append_right _ (List.mem_append_right _ (List.mem_append_right _ (List.mem_append_right _ (List.mem_append_right _ (List.mem_of_getElem? (i := 7) (by decide +kernel)))))))))
theorem q_p_58 : Cond.selects RX11 yX11_four yX11_four ∈ gw := gw_s (y := yX11_four) (n := 65) (List.mem_append_right _ (List.mem_append_right _ (List.mem_append_right _ (List.mem_append_left _ (List.mem_of_getElem? (i := 10) (by decide +kernel))))))
theorem q_p_59 : Cond.selects RX11 yX11_taken yX11_taken ∈ gw := gw_s (y := yX11_taken) (n := 65) (List.mem_append_right _ (List.mem_append_right _ (List.mem_append_right _ (List.mem_append_left _ (List.mem_of_getElem? (i := 11) (by decide +kernel))))))
theorem q_p_60 : Cond.selects RX11 yX11_next yX11_next ∈ gw := gw_s (y := yX11_next) (n := 65) (List.mem_append_right _ (List.mem_append_right _ (List.mem_append_right _ (List.mem_append_left _ (List.mem_of_getElem? (i := 12) (by decide +kernel))))))
theorem q_p_61 : Cond.selects RX11 yX11_peek yX11_peek ∈ gw := gw_s (y := yX11_peek) (n := 65) (List.mem_append_right _ (List.mem_append_right _ (List.mem_append_right _ (List.mem_append_left _ (List.mem_of_getElem? (i := 13) (by decide +kernel))))))
theorem q_p_62 : Cond.selects RX11 yX11_line yX11_line ∈ gw := gw_s (y := yX11_line) (n := 65) (List.mem_append_right _ (List.mem_append_right _ (List.mem_append_right _ (List.mem_append_left _ (List.mem_of_getElem? (i := 14) (by decide +kernel))))))
theorem q_p_63 : Cond.selects RX11 yX11_isWord yX11_isWord ∈ gw := gw_s (y := yX11_isWord) (n := 65) (List.mem_append_right _ (List.mem_append_right _ (List.mem_append_right _ (List.mem_append_left _ (List.mem_of_getElem? (i := 15) (by decide +kernel))))))
theorem q_p_64 : Cond.selects RX11 yX11_bad yX11_bad ∈ gw := gw_s (y := yX11_bad) (n := 65) (List.mem_append_right _ (List.mem_append_right _ (List.mem_append_right _ (List.mem_append_right _ (List.mem_append_left _ (List.mem_of_getElem? (i := 0) (by decide +kernel)))))))
theorem q_p_65 : Cond.selects RX11 yX11_takes yX11_takes ∈ gw := gw_s (y := yX11_takes) (n := 65) (List.mem_append_right _ (List.mem_append_right _ (List.mem_append_right _ (List.mem_append_right _ (List.mem_append_left _ (List.mem_of_getElem? (i := 1) (by decide +kernel)))))))
theorem q_p_66 : Cond.selects RX11 yX11_isName yX11_isName ∈ gw := gw_s (y := yX11_isName) (n := 65) (List.mem_append_right _ (List.mem_append_right _ (List.mem_append_right _ (List.mem_append_right _ (List.mem_append_left _ (List.mem_of_getElem? (i := 2) (by decide +kernel)))))))
theorem q_p_67 : Cond.selects RX11 yX11_find yX11_find ∈ gw := gw_s (y := yX11_find) (n := 65) (List.mem_append_right _ (List.mem_append_right _ (List.mem_append_right _ (List.mem_append_right _ (List.mem_append_left _ (List.mem_of_getElem? (i := 3) (by decide +kernel)))))))
theorem q_p_68 : Cond.selects RX11 yX11_readHand yX11_readHand ∈ gw := gw_s (y := yX11_readHand) (n := 65) (List.mem_append_right _ (List.mem_append_right _ (List.mem_append_right _ (List.mem_append_right _ (List.mem_append_left _ (List.mem_of_getElem? (i := 4) (by decide +kernel)))))))
theorem q_p_69 : Cond.selects RX11 yX11_readHeap yX11_readHeap ∈ gw := gw_s (y := yX11_readHeap) (n := 65) (List.mem_append_right _ (List.mem_append_right _ (List.mem_append_right _ (List.mem_append_right _ (List.mem_append_left _ (List.mem_of_getElem? (i := 5) (by decide +kernel)))))))
theorem q_p_70 : Cond.selects RX11 yX11_isSign yX11_isSign ∈ gw := gw_s (y := yX11_isSign) (n := 65) (List.mem_append_right _ (List.mem_append_right _ (List.mem_append_right _ (List.mem_append_right _ (List.mem_append_left _ (List.mem_of_getElem? (i := 6) (by decide +kernel)))))))
theorem q_p_71 : Cond.selects RX11 yX11_sign yX11_sign ∈ gw := gw_s (y := yX11_sign) (n := 65) (List.mem_append_right _ (List.mem_append_right _ (List.mem_append_right _ (List.mem_append_right _ (List.mem_append_left _ (List.mem_of_getElem? (i := 7) (by decide +kernel)))))))
theorem q_p_72 : Cond.selects RX11 yX11_begins yX11_begins ∈ gw := gw_s (y := yX11_begins) (n := 65) (List.mem_append_right _ (List.mem_append_right _ (List.mem_append_right _ (List.mem_append_right _ (List.mem_append_left _ (List.mem_of_getElem? (i := 8) (by decide +kernel)))))))
theorem q_p_73 : Cond.selects RX11 yX11_cards yX11_cards ∈ gw := gw_s (y := yX11_cards) (n := 65) (List.mem_append_right _ (List.mem_append_right _ (List.mem_append_right _ (List.mem_append_right _ (List.mem_append_left _ (List.mem_of_getElem? (i := 9) (by decide +kernel)))))))
theorem q_p_74 : Cond.selects RX11 yX11_adds yX11_adds ∈ gw := gw_s (y := yX11_adds) (n := 65) (List.mem_append_right _ (List.mem_append_right _ (List.mem_append_right _ (List.mem_append_right _ (List.mem_append_left _ (List.mem_of_getElem? (i := 10) (by decide +kernel)))))))
theorem q_p_75 : Cond.selects RX11 yX11_books yX11_books ∈ gw := gw_s (y := yX11_books) (n := 65) (List.mem_append_right _ (List.mem_append_right _ (List.mem_append_right _ (List.mem_append_right _ (List.mem_append_left _ (List.mem_of_getElem? (i := 11) (by decide +kernel)))))))
theorem q_p_76 : Cond.selects RX11 yX11_handOf yX11_handOf ∈ gw := gw_s (y := yX11_handOf) (n := 65) (List.mem_append_right _ (List.mem_append_right _ (List.mem_append_right _ (List.mem_append_right _ (List.mem_append_left _ (List.mem_of_getElem? (i := 12) (by decide +kernel)))))))
theorem q_p_77 : Cond.selects RX11 yX11_learns yX11_learns ∈ gw := gw_s (y := yX11_learns) (n := 65) (List.mem_append_right _ (List.mem_append_right _ (List.mem_append_right _ (List.mem_append_right _ (List.mem_append_left _ (List.mem_of_getElem? (i := 13) (by decide +kernel)))))))
theorem q_p_78 : Cond.selects RX11 yX11_settles yX11_settles ∈ gw := gw_s (y := yX11_settles) (n := 65) (List.mem_append_right _ (List.mem_append_right _ (List.mem_append_right _ (List.mem_append_right _ (List.mem_append_left _ (List.mem_of_getElem? (i := 14) (by decide +kernel)))))))
theorem q_p_79 : Cond.selects RX11 yX11_refills yX11_refills ∈ gw := gw_s (y := yX11_refills) (n := 65) (List.mem_append_right _ (List.mem_append_right _ (List.mem_append_right _ (List.mem_append_right _ (List.mem_append_left _ (List.mem_of_getElem? (i := 15) (by decide +kernel)))))))
theorem q_p_80 : Cond.selects RX11 yX11_draws yX11_draws ∈ gw := gw_s (y := yX11_draws) (n := 65) (List.mem_append_right _ (List.mem_append_right _ (List.mem_append_right _ (List.mem_append_right _ (List.mem_append_right _ (List.mem_append_left _ (List.mem_of_getElem? (i := 0) (by decide +kernel))))))))
theorem q_p_81 : Cond.selects RX11 yX11_isPerson yX11_isPerson ∈ gw := gw_s (y := yX11_isPerson) (n := 65) (List.mem_append_right _ (List.mem_append_right _ (List.mem_append_right _ (List.mem_append_right _ (List.mem_append_right _ (List.mem_append_left _ (List.mem_of_getElem? (i := 1) (by decide +kernel))))))))
theorem q_p_82 : Cond.selects RX11 yX11_isKind yX11_isKind ∈ gw := gw_s (y := yX11_isKind) (n := 65) (List.mem_append_right _ (List.mem_append_right _ (List.mem_append_right _ (List.mem_append_right _ (List.mem_append_right _ (List.mem_append_left _ (List.mem_of_getElem? (i := 2) (by decide +kernel))))))))
theorem q_p_83 : Cond.selects RX11 yX11_throwsIf yX11_throwsIf ∈ gw := gw_s (y := yX11_throwsIf) (n := 65) (List.mem_append_right _ (List.mem_append_right _ (List.mem_append_right _ (List.mem_append_right _ (List.mem_append_right _ (List.mem_append_left _ (List.mem_of_getElem? (i := 3) (by decide +kernel))))))))
theorem q_p_84 : Cond.selects RX11 yX11_booksOf yX11_booksOf ∈ gw := gw_s (y := yX11_booksOf) (n := 65) (List.mem_append_right _ (List.mem_append_right _ (List.mem_append_right _ (List.mem_append_right _ (List.mem_append_right _ (List.mem_append_left _ (List.mem_of_getElem? (i := 4) (by decide +kernel))))))))
theorem q_p_85 : Cond.selects RX11 yX11_allBooks yX11_allBooks ∈ gw := gw_s (y := yX11_allBooks) (n := 65) (List.mem_append_right _ (List.mem_append_right _ (List.mem_append_right _ (List.mem_append_right _ (List.mem_append_right _ (List.mem_append_left _ (List.mem_of_getElem? (i := 5) (by decide +kernel))))))))
theorem q_p_86 : Cond.selects RX11 yX11_areAsked yX11_areAsked ∈ gw := gw_s (y := yX11_areAsked) (n := 65) (List.mem_append_right _ (List.mem_append_right _ (List.mem_append_right _ (List.mem_append_right _ (List.mem_append_right _ (List.mem_append_left _ (List.mem_of_getElem? (i := 6) (by decide +kernel))))))))
theorem q_p_87 : Cond.selects RX11 yX11_whyOf yX11_whyOf ∈ gw := gw_s (y := yX11_whyOf) (n := 65) (List.mem_append_right _ (List.mem_append_right _ (List.mem_append_right _ (List.mem_append_right _ (List.mem_append_right _ (List.mem_append_left _ (List.mem_of_getElem? (i := 7) (by decide +kernel))))))))
theorem q_p_88 : Cond.selects RX11 yX11_keep yX11_keep ∈ gw := gw_s (y := yX11_keep) (n := 65) (List.mem_append_right _ (List.mem_append_right _ (List.mem_append_right _ (List.mem_append_right _ (List.mem_append_right _ (List.mem_append_left _ (List.mem_of_getElem? (i := 8) (by decide +kernel))))))))
theorem q_p_89 : Cond.selects RX11 yX11_asks yX11_asks ∈ gw := gw_s (y := yX11_asks) (n := 65) (List.mem_append_right _ (List.mem_append_right _ (List.mem_append_right _ (List.mem_append_right _ (List.mem_append_right _ (List.mem_append_left _ (List.mem_of_getElem? (i := 9) (by decide +kernel))))))))
theorem q_p_90 : Cond.selects RX11 yX11_sureOf yX11_sureOf ∈ gw := gw_s (y := yX11_sureOf) (n := 65) (List.mem_append_right _ (List.mem_append_right _ (List.mem_append_right _ (List.mem_append_right _ (List.mem_append_right _ (List.mem_append_left _ (List.mem_of_getElem? (i := 10) (by decide +kernel))))))))
theorem q_p_91 : Cond.selects RX11 yX11_cannot yX11_cannot ∈ gw := gw_s (y := yX11_cannot) (n := 65) (List.mem_append_right _ (List.mem_append_right _ (List.mem_append_right _ (List.mem_append_right _ (List.mem_append_right _ (List.mem_append_left _ (List.mem_of_getElem? (i := 11) (by decide +kernel))))))))
theorem q_p_92 : Cond.selects RX11 yX11_looks yX11_looks ∈ gw := gw_s (y := yX11_looks) (n := 65) (List.mem_append_right _ (List.mem_append_right _ (List.mem_append_right _ (List.mem_append_right _ (List.mem_append_right _ (List.mem_append_left _ (List.mem_of_getElem? (i := 12) (by decide +kernel))))))))
theorem q_p_93 : Cond.selects RX11 yX11_waysOf yX11_waysOf ∈ gw := gw_s (y := yX11_waysOf) (n := 65) (List.mem_append_right _ (List.mem_append_right _ (List.mem_append_right _ (List.mem_append_right _ (List.mem_append_right _ (List.mem_append_left _ (List.mem_of_getElem? (i := 13) (by decide +kernel))))))))
theorem q_p_94 : Cond.selects RX11 yX11_inHands yX11_inHands ∈ gw := gw_s (y := yX11_inHands) (n := 65) (List.mem_append_right _ (List.mem_append_right _ (List.mem_append_right _ (List.mem_append_right _ (List.mem_append_right _ (List.mem_append_left _ (List.mem_of_getElem? (i := 14) (by decide +kernel))))))))
theorem q_p_95 : Cond.selects RX11 yX11_openOf yX11_openOf ∈ gw := gw_s (y := yX11_openOf) (n := 65) (List.mem_append_right _ (List.mem_append_right _ (List.mem_append_right _ (List.mem_append_right _ (List.mem_append_right _ (List.mem_append_left _ (List.mem_of_getElem? (i := 15) (by decide +kernel))))))))
theorem q_p_96 : Cond.selects RX11 yX11_codeOf yX11_codeOf ∈ gw := gw_s (y := yX11_codeOf) (n := 65) (List.mem_append_right _ (List.mem_append_right _ (List.mem_append_right _ (List.mem_append_right _ (List.mem_append_right _ (List.mem_append_right _ (List.mem_append_left _ (List.mem_of_getElem? (i := 0) (by decide +kernel)))))))))
theorem q_p_97 : Cond.selects RX11 yX11_lacks yX11_lacks ∈ gw := gw_s (y := yX11_lacks) (n := 65) (List.mem_append_right _ (List.mem_append_right _ (List.mem_append_right _ (List.mem_append_right _ (List.mem_append_right _ (List.mem_append_right _ (List.mem_append_left _ (List.mem_of_getElem? (i := 1) (by decide +kernel)))))))))
theorem q_p_98 : Cond.selects RX11 yX11_decode yX11_decode ∈ gw := gw_s (y := yX11_decode) (n := 65) (List.mem_append_right _ (List.mem_append_right _ (List.mem_append_right _ (List.mem_append_right _ (List.mem_append_right _ (List.mem_append_right _ (List.mem_append_left _ (List.mem_of_getElem? (i := 2) (by decide +kernel)))))))))
theorem q_p_99 : Cond.selects RX11 yX11_goes yX11_goes ∈ gw := gw_s (y := yX11_goes) (n := 65) (List.mem_append_right _ (List.mem_append_right _ (List.mem_append_right _ (List.mem_append_right _ (List.mem_append_right _ (List.mem_append_right _ (List.mem_append_left _ (List.mem_of_getElem? (i := 3) (by decide +kernel)))))))))
theorem q_1_15 : Cond.initialized RX11 ∈ gw := gw_1 15 (by decide +kernel) rfl
theorem q_6_102 : Cond.constant RX11 77 (156250) ∈ gw := gw_6 102 (by decide +kernel) rfl
theorem q_6_103 : Cond.constantLong RX11 115 (461330343027) ∈ gw := gw_6 103 (by decide +kernel) rfl
theorem q_6_104 : Cond.constantLong RX11 117 (123581014175598) ∈ gw := gw_6 104 (by decide +kernel) rfl
theorem q_6_105 : Cond.constantLong RX11 119 (1751215716) ∈ gw := gw_6 105 (by decide +kernel) rfl
theorem q_6_106 : Cond.constantLong RX11 121 (1751474544) ∈ gw := gw_6 106 (by decide +kernel) rfl
theorem q_6_107 : Cond.constantLong RX11 123 (418346264942) ∈ gw := gw_6 107 (by decide +kernel) rfl
theorem q_6_108 : Cond.constantLong RX11 125 (125779835448428) ∈ gw := gw_6 108 (by decide +kernel) rfl
theorem q_6_109 : Cond.constantLong RX11 127 (1634954099) ∈ gw := gw_6 109 (by decide +kernel) rfl
theorem q_6_110 : Cond.constantLong RX11 129 (444150998387) ∈ gw := gw_6 110 (by decide +kernel) rfl
theorem q_6_111 : Cond.constantLong RX11 131 (28271) ∈ gw := gw_6 111 (by decide +kernel) rfl
theorem q_6_112 : Cond.constantLong RX11 133 (28530) ∈ gw := gw_6 112 (by decide +kernel) rfl
theorem q_6_113 : Cond.constantLong RX11 135 (6385252) ∈ gw := gw_6 113 (by decide +kernel) rfl
theorem q_6_114 : Cond.constantLong RX11 137 (7237492) ∈ gw := gw_6 114 (by decide +kernel) rfl
theorem q_6_115 : Cond.constantLong RX11 139 (1651470187) ∈ gw := gw_6 115 (by decide +kernel) rfl
theorem q_6_116 : Cond.constantLong RX11 141 (461414299502) ∈ gw := gw_6 116 (by decide +kernel) rfl
theorem q_6_117 : Cond.constantLong RX11 143 (1751477348) ∈ gw := gw_6 117 (by decide +kernel) rfl
theorem q_6_118 : Cond.constantLong RX11 145 (448311223411) ∈ gw := gw_6 118 (by decide +kernel) rfl
theorem q_6_119 : Cond.constantLong RX11 147 (114784635741540) ∈ gw := gw_6 119 (by decide +kernel) rfl
theorem q_6_120 : Cond.constantLong RX11 149 (1836020596) ∈ gw := gw_6 120 (by decide +kernel) rfl
theorem q_6_121 : Cond.constantLong RX11 151 (482854658917) ∈ gw := gw_6 121 (by decide +kernel) rfl
theorem q_6_122 : Cond.fieldLink RX11 1 "SevenTableModel" "thrown" "I" ∈ gw := gw_6 122 (by decide +kernel) rfl
theorem q_6_123 : Cond.fieldLink RX11 14 "SevenTableModel" "tape" "[B" ∈ gw := gw_6 123 (by decide +kernel) rfl
theorem q_6_124 : Cond.fieldLink RX11 7 "SevenTableModel" "length" "I" ∈ gw := gw_6 124 (by decide +kernel) rfl
theorem q_6_125 : Cond.fieldLink RX11 18 "SevenTableModel" "size" "I" ∈ gw := gw_6 125 (by decide +kernel) rfl
theorem q_6_126 : Cond.fieldLink RX11 21 "SevenTableModel" "p" "I" ∈ gw := gw_6 126 (by decide +kernel) rfl
theorem q_6_127 : Cond.fieldLink RX11 24 "SevenTableModel" "limit" "I" ∈ gw := gw_6 127 (by decide +kernel) rfl
theorem q_6_128 : Cond.fieldLink RX11 33 "SevenTableModel" "s" "[I" ∈ gw := gw_6 128 (by decide +kernel) rfl
theorem q_6_129 : Cond.fieldLink RX11 37 "SevenTableModel" "h" "[I" ∈ gw := gw_6 129 (by decide +kernel) rfl
theorem q_6_130 : Cond.fieldLink RX11 40 "SevenTableModel" "read" "[I" ∈ gw := gw_6 130 (by decide +kernel) rfl
theorem q_6_131 : Cond.fieldLink RX11 43 "SevenTableModel" "names" "[J" ∈ gw := gw_6 131 (by decide +kernel) rfl
theorem q_6_132 : Cond.fieldLink RX11 47 "SevenTableModel" "reserved" "[J" ∈ gw := gw_6 132 (by decide +kernel) rfl
theorem q_6_133 : Cond.fieldLink RX11 163 "SevenTableModel" "token" "I" ∈ gw := gw_6 133 (by decide +kernel) rfl
theorem q_6_134 : Cond.fieldLink RX11 157 "SevenTableModel" "at" "I" ∈ gw := gw_6 134 (by decide +kernel) rfl
theorem q_6_135 : Cond.fieldLink RX11 160 "SevenTableModel" "span" "I" ∈ gw := gw_6 135 (by decide +kernel) rfl
theorem q_6_136 : Cond.fieldLink RX11 173 "SevenTableModel" "number" "I" ∈ gw := gw_6 136 (by decide +kernel) rfl
theorem q_6_137 : Cond.fieldLink RX11 180 "SevenTableModel" "fault" "I" ∈ gw := gw_6 137 (by decide +kernel) rfl
theorem q_6_138 : Cond.fieldLink RX11 183 "SevenTableModel" "faultAt" "I" ∈ gw := gw_6 138 (by decide +kernel) rfl
theorem q_6_139 : Cond.fieldLink RX11 176 "SevenTableModel" "word" "J" ∈ gw := gw_6 139 (by decide +kernel) rfl
theorem q_6_140 : Cond.fieldLink RX11 199 "SevenTableModel" "got" "I" ∈ gw := gw_6 140 (by decide +kernel) rfl
theorem q_6_141 : Cond.fieldLink RX11 237 "SevenTableModel" "lines" "I" ∈ gw := gw_6 141 (by decide +kernel) rfl
theorem q_6_142 : Cond.fieldLink RX11 206 "SevenTableModel" "hasKinds" "Z" ∈ gw := gw_6 142 (by decide +kernel) rfl
theorem q_6_143 : Cond.fieldLink RX11 228 "SevenTableModel" "hasAgain" "Z" ∈ gw := gw_6 143 (by decide +kernel) rfl
theorem q_6_144 : Cond.fieldLink RX11 231 "SevenTableModel" "hasRefill" "Z" ∈ gw := gw_6 144 (by decide +kernel) rfl
theorem q_6_145 : Cond.fieldLink RX11 50 "SevenTableModel" "askedAt" "[I" ∈ gw := gw_6 145 (by decide +kernel) rfl
theorem q_6_146 : Cond.fieldLink RX11 310 "SevenTableModel" "hasAsked" "Z" ∈ gw := gw_6 146 (by decide +kernel) rfl
theorem q_6_147 : Cond.fieldLink RX11 53 "SevenTableModel" "undone" "[I" ∈ gw := gw_6 147 (by decide +kernel) rfl
theorem q_6_148 : Cond.fieldLink RX11 56 "SevenTableModel" "before" "[I" ∈ gw := gw_6 148 (by decide +kernel) rfl
theorem q_6_149 : Cond.fieldLink RX11 246 "SevenTableModel" "undoMany" "I" ∈ gw := gw_6 149 (by decide +kernel) rfl
theorem q_6_150 : Cond.fieldLink RX11 59 "SevenTableModel" "left" "[I" ∈ gw := gw_6 150 (by decide +kernel) rfl
theorem q_6_151 : Cond.fieldLink RX11 62 "SevenTableModel" "kindAt" "[I" ∈ gw := gw_6 151 (by decide +kernel) rfl
theorem q_6_152 : Cond.fieldLink RX11 65 "SevenTableModel" "step" "[I" ∈ gw := gw_6 152 (by decide +kernel) rfl
theorem q_6_153 : Cond.fieldLink RX11 68 "SevenTableModel" "ways" "[J" ∈ gw := gw_6 153 (by decide +kernel) rfl
theorem q_6_154 : Cond.fieldLink RX11 71 "SevenTableModel" "waysOn" "[J" ∈ gw := gw_6 154 (by decide +kernel) rfl
theorem q_6_155 : Cond.fieldLink RX11 320 "SevenTableModel" "leftKinds" "I" ∈ gw := gw_6 155 (by decide +kernel) rfl
theorem q_6_156 : Cond.fieldLink RX11 323 "SevenTableModel" "leftCards" "I" ∈ gw := gw_6 156 (by decide +kernel) rfl
theorem q_6_157 : Cond.fieldLink RX11 326 "SevenTableModel" "slots" "I" ∈ gw := gw_6 157 (by decide +kernel) rfl
theorem q_6_158 : Cond.fieldLink RX11 74 "SevenTableModel" "sweepRow" "[I" ∈ gw := gw_6 158 (by decide +kernel) rfl
theorem q_6_159 : Cond.fieldLink RX11 349 "SevenTableModel" "sweepMany" "I" ∈ gw := gw_6 159 (by decide +kernel) rfl
theorem q_6_160 : Cond.fieldLink RX11 78 "SevenTableModel" "values" "[I" ∈ gw := gw_6 160 (by decide +kernel) rfl
theorem q_6_161 : Cond.fieldLink RX11 81 "SevenTableModel" "path" "[I" ∈ gw := gw_6 161 (by decide +kernel) rfl
theorem q_6_162 : Cond.fieldLink RX11 84 "SevenTableModel" "mine" "[I" ∈ gw := gw_6 162 (by decide +kernel) rfl
theorem q_6_163 : Cond.fieldLink RX11 87 "SevenTableModel" "hers" "[I" ∈ gw := gw_6 163 (by decide +kernel) rfl
theorem q_6_164 : Cond.fieldLink RX11 355 "SevenTableModel" "pos" "I" ∈ gw := gw_6 164 (by decide +kernel) rfl
theorem q_6_165 : Cond.fieldLink RX11 358 "SevenTableModel" "vain" "I" ∈ gw := gw_6 165 (by decide +kernel) rfl
theorem q_6_166 : Cond.fieldLink RX11 375 "SevenTableModel" "toCode" "I" ∈ gw := gw_6 166 (by decide +kernel) rfl
theorem q_6_167 : Cond.fieldLink RX11 372 "SevenTableModel" "toGain" "I" ∈ gw := gw_6 167 (by decide +kernel) rfl
theorem q_6_168 : Cond.fieldLink RX11 378 "SevenTableModel" "toSign" "I" ∈ gw := gw_6 168 (by decide +kernel) rfl
theorem q_6_169 : Cond.fieldLink RX11 391 "SevenTableModel" "openFirst" "I" ∈ gw := gw_6 169 (by decide +kernel) rfl
theorem q_6_170 : Cond.fieldLink RX11 90 "SevenTableModel" "rules" "[I" ∈ gw := gw_6 170 (by decide +kernel) rfl
theorem q_6_171 : Cond.fieldLink RX11 413 "SevenTableModel" "seed" "I" ∈ gw := gw_6 171 (by decide +kernel) rfl
theorem q_6_172 : Cond.fieldLink RX11 93 "SevenTableModel" "pack" "[I" ∈ gw := gw_6 172 (by decide +kernel) rfl
theorem q_6_173 : Cond.fieldLink RX11 426 "SevenTableModel" "askedSum" "I" ∈ gw := gw_6 173 (by decide +kernel) rfl
theorem q_6_174 : Cond.fieldLink RX11 439 "SevenTableModel" "told" "I" ∈ gw := gw_6 174 (by decide +kernel) rfl
theorem q_6_175 : Cond.fieldLink RX11 96 "SevenTableModel" "heardAt" "[I" ∈ gw := gw_6 175 (by decide +kernel) rfl
theorem q_6_176 : Cond.fieldLink RX11 445 "SevenTableModel" "hasHeard" "Z" ∈ gw := gw_6 176 (by decide +kernel) rfl
theorem q_6_177 : Cond.fieldLink RX11 99 "SevenTableModel" "stack" "[I" ∈ gw := gw_6 177 (by decide +kernel) rfl
theorem q_6_178 : Cond.fieldLink RX11 448 "SevenTableModel" "codes" "I" ∈ gw := gw_6 178 (by decide +kernel) rfl
theorem q_6_179 : Cond.fieldLink RX11 464 "SevenTableModel" "ones" "I" ∈ gw := gw_6 179 (by decide +kernel) rfl
theorem q_6_180 : Cond.fieldLink RX11 451 "SevenTableModel" "top" "I" ∈ gw := gw_6 180 (by decide +kernel) rfl
theorem q_6_181 : Cond.fieldLink RX11 458 "SevenTableModel" "deep" "I" ∈ gw := gw_6 181 (by decide +kernel) rfl
theorem q_6_182 : Cond.fieldLink RX11 467 "SevenTableModel" "isWhole" "Z" ∈ gw := gw_6 182 (by decide +kernel) rfl
theorem q_6_183 : Cond.fieldLink RX11 102 "SevenTableModel" "truths" "[Z" ∈ gw := gw_6 183 (by decide +kernel) rfl
theorem q_6_184 : Cond.fieldLink RX11 106 "SevenTableModel" "kept" "[I" ∈ gw := gw_6 184 (by decide +kernel) rfl
theorem q_6_185 : Cond.fieldLink RX11 109 "SevenTableModel" "namesKept" "[J" ∈ gw := gw_6 185 (by decide +kernel) rfl
theorem q_6_186 : Cond.fieldLink RX11 112 "SevenTableModel" "isKept" "[Z" ∈ gw := gw_6 186 (by decide +kernel) rfl
theorem q_6_88 : Cond.methodLink RX11 10 yX11_four ∈ gw := gw_6 88 (by decide +kernel) rfl
theorem q_6_90 : Cond.instanceMethod yX11_four ∈ gw := gw_6 90 (by decide +kernel) rfl
theorem q_6_92 : Cond.code yX11_four cX11_four 3 none ∈ gw := gw_6 92 (by decide +kernel) rfl
theorem q_7_100 : Cond.code yX11_isDigit cX11_isDigit 1 (some .boolean) ∈ gw := gw_7 100 (by decide +kernel) rfl
theorem q_7_101 : Cond.methodLink RX11 240 yX11_line ∈ gw := gw_7 101 (by decide +kernel) rfl
theorem q_7_103 : Cond.instanceMethod yX11_line ∈ gw := gw_7 103 (by decide +kernel) rfl
theorem q_7_104 : Cond.code yX11_line cX11_line 1 (some .boolean) ∈ gw := gw_7 104 (by decide +kernel) rfl
theorem q_7_105 : Cond.methodLink RX11 202 yX11_isWord ∈ gw := gw_7 105 (by decide +kernel) rfl
theorem q_7_107 : Cond.instanceMethod yX11_isWord ∈ gw := gw_7 107 (by decide +kernel) rfl
theorem q_7_108 : Cond.code yX11_isWord cX11_isWord 3 (some .boolean) ∈ gw := gw_7 108 (by decide +kernel) rfl
theorem q_7_109 : Cond.methodLink RX11 189 yX11_bad ∈ gw := gw_7 109 (by decide +kernel) rfl
theorem q_7_111 : Cond.instanceMethod yX11_bad ∈ gw := gw_7 111 (by decide +kernel) rfl
theorem q_7_112 : Cond.code yX11_bad cX11_bad 2 (some .boolean) ∈ gw := gw_7 112 (by decide +kernel) rfl
theorem q_7_113 : Cond.methodLink RX11 210 yX11_takes ∈ gw := gw_7 113 (by decide +kernel) rfl
theorem q_7_115 : Cond.instanceMethod yX11_takes ∈ gw := gw_7 115 (by decide +kernel) rfl
theorem q_7_116 : Cond.code yX11_takes cX11_takes 3 (some .boolean) ∈ gw := gw_7 116 (by decide +kernel) rfl
theorem q_7_117 : Cond.methodLink RX11 195 yX11_isIn ∈ gw := gw_7 117 (by decide +kernel) rfl
theorem q_7_118 : Cond.static yX11_isIn ∈ gw := gw_7 118 (by decide +kernel) rfl
theorem q_7_119 : Cond.code yX11_isIn cX11_isIn 3 (some .boolean) ∈ gw := gw_7 119 (by decide +kernel) rfl
theorem q_7_120 : Cond.methodLink RX11 214 yX11_isName ∈ gw := gw_7 120 (by decide +kernel) rfl
theorem q_7_122 : Cond.instanceMethod yX11_isName ∈ gw := gw_7 122 (by decide +kernel) rfl
theorem q_7_123 : Cond.code yX11_isName cX11_isName 3 (some .boolean) ∈ gw := gw_7 123 (by decide +kernel) rfl
theorem q_7_124 : Cond.methodLink RX11 218 yX11_find ∈ gw := gw_7 124 (by decide +kernel) rfl
theorem q_7_126 : Cond.instanceMethod yX11_find ∈ gw := gw_7 126 (by decide +kernel) rfl
theorem q_7_127 : Cond.code yX11_find cX11_find 4 (some .int) ∈ gw := gw_7 127 (by decide +kernel) rfl
theorem q_7_128 : Cond.methodLink RX11 222 yX11_readHand ∈ gw := gw_7 128 (by decide +kernel) rfl
theorem q_7_130 : Cond.instanceMethod yX11_readHand ∈ gw := gw_7 130 (by decide +kernel) rfl
theorem q_7_131 : Cond.code yX11_readHand cX11_readHand 3 (some .boolean) ∈ gw := gw_7 131 (by decide +kernel) rfl
theorem q_7_132 : Cond.methodLink RX11 225 yX11_readHeap ∈ gw := gw_7 132 (by decide +kernel) rfl
theorem q_7_134 : Cond.instanceMethod yX11_readHeap ∈ gw := gw_7 134 (by decide +kernel) rfl
theorem q_7_135 : Cond.code yX11_readHeap cX11_readHeap 2 (some .boolean) ∈ gw := gw_7 135 (by decide +kernel) rfl
theorem q_7_136 : Cond.methodLink RX11 186 yX11_isSign ∈ gw := gw_7 136 (by decide +kernel) rfl
theorem q_7_138 : Cond.instanceMethod yX11_isSign ∈ gw := gw_7 138 (by decide +kernel) rfl
theorem q_7_139 : Cond.code yX11_isSign cX11_isSign 2 (some .boolean) ∈ gw := gw_7 139 (by decide +kernel) rfl
theorem q_7_140 : Cond.methodLink RX11 243 yX11_sign ∈ gw := gw_7 140 (by decide +kernel) rfl
theorem q_7_142 : Cond.instanceMethod yX11_sign ∈ gw := gw_7 142 (by decide +kernel) rfl
theorem q_7_143 : Cond.code yX11_sign cX11_sign 2 (some .boolean) ∈ gw := gw_7 143 (by decide +kernel) rfl
theorem q_7_144 : Cond.methodLink RX11 249 yX11_begins ∈ gw := gw_7 144 (by decide +kernel) rfl
theorem q_7_146 : Cond.instanceMethod yX11_begins ∈ gw := gw_7 146 (by decide +kernel) rfl
theorem q_7_147 : Cond.code yX11_begins cX11_begins 4 none ∈ gw := gw_7 147 (by decide +kernel) rfl
theorem q_7_148 : Cond.methodLink RX11 263 yX11_cards ∈ gw := gw_7 148 (by decide +kernel) rfl
theorem q_7_150 : Cond.instanceMethod yX11_cards ∈ gw := gw_7 150 (by decide +kernel) rfl
theorem q_7_151 : Cond.code yX11_cards cX11_cards 4 (some .int) ∈ gw := gw_7 151 (by decide +kernel) rfl
theorem q_7_152 : Cond.methodLink RX11 270 yX11_adds ∈ gw := gw_7 152 (by decide +kernel) rfl
theorem q_7_154 : Cond.instanceMethod yX11_adds ∈ gw := gw_7 154 (by decide +kernel) rfl
theorem q_7_155 : Cond.code yX11_adds cX11_adds 3 none ∈ gw := gw_7 155 (by decide +kernel) rfl
theorem q_7_156 : Cond.methodLink RX11 273 yX11_books ∈ gw := gw_7 156 (by decide +kernel) rfl
theorem q_7_158 : Cond.instanceMethod yX11_books ∈ gw := gw_7 158 (by decide +kernel) rfl
theorem q_7_159 : Cond.code yX11_books cX11_books 4 (some .boolean) ∈ gw := gw_7 159 (by decide +kernel) rfl
theorem q_7_160 : Cond.methodLink RX11 255 yX11_handOf ∈ gw := gw_7 160 (by decide +kernel) rfl
theorem q_7_162 : Cond.instanceMethod yX11_handOf ∈ gw := gw_7 162 (by decide +kernel) rfl
theorem q_7_163 : Cond.code yX11_handOf cX11_handOf 4 (some .int) ∈ gw := gw_7 163 (by decide +kernel) rfl
theorem q_7_164 : Cond.methodLink RX11 259 yX11_learns ∈ gw := gw_7 164 (by decide +kernel) rfl
theorem q_7_166 : Cond.instanceMethod yX11_learns ∈ gw := gw_7 166 (by decide +kernel) rfl
theorem q_7_167 : Cond.code yX11_learns cX11_learns 5 none ∈ gw := gw_7 167 (by decide +kernel) rfl
theorem q_7_168 : Cond.methodLink RX11 252 yX11_bitOf ∈ gw := gw_7 168 (by decide +kernel) rfl
theorem q_7_169 : Cond.static yX11_bitOf ∈ gw := gw_7 169 (by decide +kernel) rfl
theorem q_7_170 : Cond.code yX11_bitOf cX11_bitOf 2 (some .boolean) ∈ gw := gw_7 170 (by decide +kernel) rfl
theorem q_7_171 : Cond.methodLink RX11 279 yX11_settles ∈ gw := gw_7 171 (by decide +kernel) rfl
theorem q_7_173 : Cond.instanceMethod yX11_settles ∈ gw := gw_7 173 (by decide +kernel) rfl
theorem q_7_174 : Cond.code yX11_settles cX11_settles 4 none ∈ gw := gw_7 174 (by decide +kernel) rfl
theorem q_7_175 : Cond.methodLink RX11 276 yX11_refills ∈ gw := gw_7 175 (by decide +kernel) rfl
theorem q_7_177 : Cond.instanceMethod yX11_refills ∈ gw := gw_7 177 (by decide +kernel) rfl
theorem q_7_178 : Cond.code yX11_refills cX11_refills 5 none ∈ gw := gw_7 178 (by decide +kernel) rfl
theorem q_7_179 : Cond.methodLink RX11 267 yX11_draws ∈ gw := gw_7 179 (by decide +kernel) rfl
theorem q_7_181 : Cond.instanceMethod yX11_draws ∈ gw := gw_7 181 (by decide +kernel) rfl
theorem q_7_182 : Cond.code yX11_draws cX11_draws 4 (some .int) ∈ gw := gw_7 182 (by decide +kernel) rfl
theorem q_7_191 : Cond.methodLink RX11 282 yX11_isPerson ∈ gw := gw_7 191 (by decide +kernel) rfl
theorem q_7_193 : Cond.instanceMethod yX11_isPerson ∈ gw := gw_7 193 (by decide +kernel) rfl
theorem q_7_194 : Cond.code yX11_isPerson cX11_isPerson 2 (some .boolean) ∈ gw := gw_7 194 (by decide +kernel) rfl
theorem q_7_195 : Cond.methodLink RX11 285 yX11_isKind ∈ gw := gw_7 195 (by decide +kernel) rfl
theorem q_7_197 : Cond.instanceMethod yX11_isKind ∈ gw := gw_7 197 (by decide +kernel) rfl
theorem q_7_198 : Cond.code yX11_isKind cX11_isKind 2 (some .boolean) ∈ gw := gw_7 198 (by decide +kernel) rfl
theorem q_7_199 : Cond.methodLink RX11 288 yX11_throwsIf ∈ gw := gw_7 199 (by decide +kernel) rfl
theorem q_7_201 : Cond.instanceMethod yX11_throwsIf ∈ gw := gw_7 201 (by decide +kernel) rfl
theorem q_7_202 : Cond.code yX11_throwsIf cX11_throwsIf 2 (some .boolean) ∈ gw := gw_7 202 (by decide +kernel) rfl
theorem q_7_207 : Cond.methodLink RX11 292 yX11_booksOf ∈ gw := gw_7 207 (by decide +kernel) rfl
theorem q_7_209 : Cond.instanceMethod yX11_booksOf ∈ gw := gw_7 209 (by decide +kernel) rfl
theorem q_7_210 : Cond.code yX11_booksOf cX11_booksOf 4 (some .int) ∈ gw := gw_7 210 (by decide +kernel) rfl
theorem q_7_223 : Cond.methodLink RX11 295 yX11_allBooks ∈ gw := gw_7 223 (by decide +kernel) rfl
theorem q_7_225 : Cond.instanceMethod yX11_allBooks ∈ gw := gw_7 225 (by decide +kernel) rfl
theorem q_7_226 : Cond.code yX11_allBooks cX11_allBooks 3 (some .int) ∈ gw := gw_7 226 (by decide +kernel) rfl
theorem q_7_231 : Cond.methodLink RX11 298 yX11_areAsked ∈ gw := gw_7 231 (by decide +kernel) rfl
theorem q_7_233 : Cond.instanceMethod yX11_areAsked ∈ gw := gw_7 233 (by decide +kernel) rfl
theorem q_7_234 : Cond.code yX11_areAsked cX11_areAsked 4 (some .boolean) ∈ gw := gw_7 234 (by decide +kernel) rfl
theorem q_7_235 : Cond.methodLink RX11 301 yX11_whyOf ∈ gw := gw_7 235 (by decide +kernel) rfl
theorem q_7_237 : Cond.instanceMethod yX11_whyOf ∈ gw := gw_7 237 (by decide +kernel) rfl
theorem q_7_238 : Cond.code yX11_whyOf cX11_whyOf 4 (some .int) ∈ gw := gw_7 238 (by decide +kernel) rfl
theorem q_7_83 : Cond.methodLink RX11 234 yX11_taken ∈ gw := gw_7 83 (by decide +kernel) rfl
theorem q_7_85 : Cond.instanceMethod yX11_taken ∈ gw := gw_7 85 (by decide +kernel) rfl
theorem q_7_86 : Cond.code yX11_taken cX11_taken 2 none ∈ gw := gw_7 86 (by decide +kernel) rfl
theorem q_7_87 : Cond.methodLink RX11 192 yX11_next ∈ gw := gw_7 87 (by decide +kernel) rfl
theorem q_7_89 : Cond.instanceMethod yX11_next ∈ gw := gw_7 89 (by decide +kernel) rfl
theorem q_7_90 : Cond.code yX11_next cX11_next 4 none ∈ gw := gw_7 90 (by decide +kernel) rfl
theorem q_7_91 : Cond.methodLink RX11 153 yX11_peek ∈ gw := gw_7 91 (by decide +kernel) rfl
theorem q_7_93 : Cond.instanceMethod yX11_peek ∈ gw := gw_7 93 (by decide +kernel) rfl
theorem q_7_94 : Cond.code yX11_peek cX11_peek 1 (some .int) ∈ gw := gw_7 94 (by decide +kernel) rfl
theorem q_7_95 : Cond.methodLink RX11 166 yX11_isSmall ∈ gw := gw_7 95 (by decide +kernel) rfl
theorem q_7_96 : Cond.static yX11_isSmall ∈ gw := gw_7 96 (by decide +kernel) rfl
theorem q_7_97 : Cond.code yX11_isSmall cX11_isSmall 1 (some .boolean) ∈ gw := gw_7 97 (by decide +kernel) rfl
theorem q_7_98 : Cond.methodLink RX11 170 yX11_isDigit ∈ gw := gw_7 98 (by decide +kernel) rfl
theorem q_7_99 : Cond.static yX11_isDigit ∈ gw := gw_7 99 (by decide +kernel) rfl
theorem q_8_10 : Cond.code yX11_asks cX11_asks 14 (some .int) ∈ gw := gw_8 10 (by decide +kernel) rfl
theorem q_8_100 : Cond.code yX11_decode cX11_decode 4 none ∈ gw := gw_8 100 (by decide +kernel) rfl
theorem q_8_101 : Cond.methodLink RX11 388 yX11_goes ∈ gw := gw_8 101 (by decide +kernel) rfl
theorem q_8_103 : Cond.instanceMethod yX11_goes ∈ gw := gw_8 103 (by decide +kernel) rfl
theorem q_8_104 : Cond.code yX11_goes cX11_goes 5 none ∈ gw := gw_8 104 (by decide +kernel) rfl
theorem q_8_105 : Cond.methodLink RX11 365 yX11_laid ∈ gw := gw_8 105 (by decide +kernel) rfl
theorem q_8_106 : Cond.static yX11_laid ∈ gw := gw_8 106 (by decide +kernel) rfl
theorem q_8_107 : Cond.code yX11_laid cX11_laid 2 (some .int) ∈ gw := gw_8 107 (by decide +kernel) rfl
theorem q_8_108 : Cond.methodLink RX11 381 yX11_filled ∈ gw := gw_8 108 (by decide +kernel) rfl
theorem q_8_11 : Cond.methodLink RX11 304 yX11_sureOf ∈ gw := gw_8 11 (by decide +kernel) rfl
theorem q_8_110 : Cond.instanceMethod yX11_filled ∈ gw := gw_8 110 (by decide +kernel) rfl
theorem q_8_111 : Cond.code yX11_filled cX11_filled 6 (some .int) ∈ gw := gw_8 111 (by decide +kernel) rfl
theorem q_8_112 : Cond.methodLink RX11 361 yX11_sumOf ∈ gw := gw_8 112 (by decide +kernel) rfl
theorem q_8_113 : Cond.static yX11_sumOf ∈ gw := gw_8 113 (by decide +kernel) rfl
theorem q_8_114 : Cond.code yX11_sumOf cX11_sumOf 1 (some .int) ∈ gw := gw_8 114 (by decide +kernel) rfl
theorem q_8_123 : Cond.methodLink RX11 403 yX11_bentOf ∈ gw := gw_8 123 (by decide +kernel) rfl
theorem q_8_125 : Cond.instanceMethod yX11_bentOf ∈ gw := gw_8 125 (by decide +kernel) rfl
theorem q_8_126 : Cond.code yX11_bentOf cX11_bentOf 7 (some .int) ∈ gw := gw_8 126 (by decide +kernel) rfl
theorem q_8_127 : Cond.methodLink RX11 400 yX11_nextWithCards ∈ gw := gw_8 127 (by decide +kernel) rfl
theorem q_8_129 : Cond.instanceMethod yX11_nextWithCards ∈ gw := gw_8 129 (by decide +kernel) rfl
theorem q_8_13 : Cond.instanceMethod yX11_sureOf ∈ gw := gw_8 13 (by decide +kernel) rfl
theorem q_8_130 : Cond.code yX11_nextWithCards cX11_nextWithCards 3 (some .int) ∈ gw := gw_8 130 (by decide +kernel) rfl
theorem q_8_135 : Cond.methodLink RX11 406 yX11_octet ∈ gw := gw_8 135 (by decide +kernel) rfl
theorem q_8_137 : Cond.instanceMethod yX11_octet ∈ gw := gw_8 137 (by decide +kernel) rfl
theorem q_8_138 : Cond.code yX11_octet cX11_octet 2 (some .int) ∈ gw := gw_8 138 (by decide +kernel) rfl
theorem q_8_139 : Cond.methodLink RX11 409 yX11_plays ∈ gw := gw_8 139 (by decide +kernel) rfl
theorem q_8_14 : Cond.code yX11_sureOf cX11_sureOf 4 (some .int) ∈ gw := gw_8 14 (by decide +kernel) rfl
theorem q_8_141 : Cond.instanceMethod yX11_plays ∈ gw := gw_8 141 (by decide +kernel) rfl
theorem q_8_142 : Cond.code yX11_plays cX11_plays 6 (some .int) ∈ gw := gw_8 142 (by decide +kernel) rfl
theorem q_8_147 : Cond.methodLink RX11 420 yX11_deals ∈ gw := gw_8 147 (by decide +kernel) rfl
theorem q_8_149 : Cond.instanceMethod yX11_deals ∈ gw := gw_8 149 (by decide +kernel) rfl
theorem q_8_15 : Cond.methodLink RX11 307 yX11_cannot ∈ gw := gw_8 15 (by decide +kernel) rfl
theorem q_8_150 : Cond.code yX11_deals cX11_deals 7 none ∈ gw := gw_8 150 (by decide +kernel) rfl
theorem q_8_151 : Cond.methodLink RX11 417 yX11_draw ∈ gw := gw_8 151 (by decide +kernel) rfl
theorem q_8_153 : Cond.instanceMethod yX11_draw ∈ gw := gw_8 153 (by decide +kernel) rfl
theorem q_8_154 : Cond.code yX11_draw cX11_draw 2 (some .int) ∈ gw := gw_8 154 (by decide +kernel) rfl
theorem q_8_155 : Cond.constant RX11 416 (1103515245) ∈ gw := gw_8 155 (by decide +kernel) rfl
theorem q_8_160 : Cond.methodLink RX11 432 yX11_areGames ∈ gw := gw_8 160 (by decide +kernel) rfl
theorem q_8_162 : Cond.instanceMethod yX11_areGames ∈ gw := gw_8 162 (by decide +kernel) rfl
theorem q_8_163 : Cond.code yX11_areGames cX11_areGames 4 (some .boolean) ∈ gw := gw_8 163 (by decide +kernel) rfl
theorem q_8_164 : Cond.methodLink RX11 435 yX11_gamesOf ∈ gw := gw_8 164 (by decide +kernel) rfl
theorem q_8_166 : Cond.instanceMethod yX11_gamesOf ∈ gw := gw_8 166 (by decide +kernel) rfl
theorem q_8_167 : Cond.code yX11_gamesOf cX11_gamesOf 9 (some .int) ∈ gw := gw_8 167 (by decide +kernel) rfl
theorem q_8_168 : Cond.methodLink RX11 423 yX11_tries ∈ gw := gw_8 168 (by decide +kernel) rfl
theorem q_8_17 : Cond.instanceMethod yX11_cannot ∈ gw := gw_8 17 (by decide +kernel) rfl
theorem q_8_170 : Cond.instanceMethod yX11_tries ∈ gw := gw_8 170 (by decide +kernel) rfl
theorem q_8_171 : Cond.code yX11_tries cX11_tries 2 none ∈ gw := gw_8 171 (by decide +kernel) rfl
theorem q_8_172 : Cond.methodLink RX11 429 yX11_back ∈ gw := gw_8 172 (by decide +kernel) rfl
theorem q_8_174 : Cond.instanceMethod yX11_back ∈ gw := gw_8 174 (by decide +kernel) rfl
theorem q_8_175 : Cond.code yX11_back cX11_back 2 none ∈ gw := gw_8 175 (by decide +kernel) rfl
theorem q_8_18 : Cond.code yX11_cannot cX11_cannot 4 none ∈ gw := gw_8 18 (by decide +kernel) rfl
theorem q_8_192 : Cond.methodLink RX11 442 yX11_eveningLine ∈ gw := gw_8 192 (by decide +kernel) rfl
theorem q_8_194 : Cond.instanceMethod yX11_eveningLine ∈ gw := gw_8 194 (by decide +kernel) rfl
theorem q_8_195 : Cond.code yX11_eveningLine cX11_eveningLine 4 (some .boolean) ∈ gw := gw_8 195 (by decide +kernel) rfl
theorem q_8_204 : Cond.methodLink RX11 470 yX11_nots ∈ gw := gw_8 204 (by decide +kernel) rfl
theorem q_8_206 : Cond.instanceMethod yX11_nots ∈ gw := gw_8 206 (by decide +kernel) rfl
theorem q_8_207 : Cond.code yX11_nots cX11_nots 1 none ∈ gw := gw_8 207 (by decide +kernel) rfl
theorem q_8_208 : Cond.methodLink RX11 454 yX11_code ∈ gw := gw_8 208 (by decide +kernel) rfl
theorem q_8_210 : Cond.instanceMethod yX11_code ∈ gw := gw_8 210 (by decide +kernel) rfl
theorem q_8_211 : Cond.code yX11_code cX11_code 4 none ∈ gw := gw_8 211 (by decide +kernel) rfl
theorem q_8_212 : Cond.methodLink RX11 473 yX11_joins ∈ gw := gw_8 212 (by decide +kernel) rfl
theorem q_8_214 : Cond.instanceMethod yX11_joins ∈ gw := gw_8 214 (by decide +kernel) rfl
theorem q_8_215 : Cond.code yX11_joins cX11_joins 2 none ∈ gw := gw_8 215 (by decide +kernel) rfl
theorem q_8_216 : Cond.methodLink RX11 476 yX11_behind ∈ gw := gw_8 216 (by decide +kernel) rfl
theorem q_8_218 : Cond.instanceMethod yX11_behind ∈ gw := gw_8 218 (by decide +kernel) rfl
theorem q_8_219 : Cond.code yX11_behind cX11_behind 1 (some .boolean) ∈ gw := gw_8 219 (by decide +kernel) rfl
theorem q_8_220 : Cond.methodLink RX11 479 yX11_operand ∈ gw := gw_8 220 (by decide +kernel) rfl
theorem q_8_222 : Cond.instanceMethod yX11_operand ∈ gw := gw_8 222 (by decide +kernel) rfl
theorem q_8_223 : Cond.code yX11_operand cX11_operand 5 (some .boolean) ∈ gw := gw_8 223 (by decide +kernel) rfl
theorem q_8_224 : Cond.methodLink RX11 461 yX11_leafOf ∈ gw := gw_8 224 (by decide +kernel) rfl
theorem q_8_226 : Cond.instanceMethod yX11_leafOf ∈ gw := gw_8 226 (by decide +kernel) rfl
theorem q_8_227 : Cond.code yX11_leafOf cX11_leafOf 1 (some .int) ∈ gw := gw_8 227 (by decide +kernel) rfl
theorem q_8_232 : Cond.methodLink RX11 486 yX11_isSaid ∈ gw := gw_8 232 (by decide +kernel) rfl
theorem q_8_234 : Cond.instanceMethod yX11_isSaid ∈ gw := gw_8 234 (by decide +kernel) rfl
theorem q_8_235 : Cond.code yX11_isSaid cX11_isSaid 5 (some .boolean) ∈ gw := gw_8 235 (by decide +kernel) rfl
theorem q_8_236 : Cond.methodLink RX11 482 yX11_isLeaf ∈ gw := gw_8 236 (by decide +kernel) rfl
theorem q_8_238 : Cond.instanceMethod yX11_isLeaf ∈ gw := gw_8 238 (by decide +kernel) rfl
theorem q_8_239 : Cond.code yX11_isLeaf cX11_isLeaf 8 (some .boolean) ∈ gw := gw_8 239 (by decide +kernel) rfl
theorem q_8_3 : Cond.methodLink RX11 313 yX11_keep ∈ gw := gw_8 3 (by decide +kernel) rfl
theorem q_8_39 : Cond.methodLink RX11 336 yX11_looks ∈ gw := gw_8 39 (by decide +kernel) rfl
theorem q_8_41 : Cond.instanceMethod yX11_looks ∈ gw := gw_8 41 (by decide +kernel) rfl
theorem q_8_42 : Cond.code yX11_looks cX11_looks 4 (some .boolean) ∈ gw := gw_8 42 (by decide +kernel) rfl
theorem q_8_43 : Cond.methodLink RX11 339 yX11_waysOf ∈ gw := gw_8 43 (by decide +kernel) rfl
theorem q_8_45 : Cond.instanceMethod yX11_waysOf ∈ gw := gw_8 45 (by decide +kernel) rfl
theorem q_8_46 : Cond.code yX11_waysOf cX11_waysOf 11 (some .long) ∈ gw := gw_8 46 (by decide +kernel) rfl
theorem q_8_47 : Cond.methodLink RX11 329 yX11_digit ∈ gw := gw_8 47 (by decide +kernel) rfl
theorem q_8_48 : Cond.static yX11_digit ∈ gw := gw_8 48 (by decide +kernel) rfl
theorem q_8_49 : Cond.code yX11_digit cX11_digit 2 (some .int) ∈ gw := gw_8 49 (by decide +kernel) rfl
theorem q_8_5 : Cond.instanceMethod yX11_keep ∈ gw := gw_8 5 (by decide +kernel) rfl
theorem q_8_50 : Cond.methodLink RX11 343 yX11_part ∈ gw := gw_8 50 (by decide +kernel) rfl
theorem q_8_51 : Cond.static yX11_part ∈ gw := gw_8 51 (by decide +kernel) rfl
theorem q_8_52 : Cond.code yX11_part cX11_part 5 (some .long) ∈ gw := gw_8 52 (by decide +kernel) rfl
theorem q_8_53 : Cond.methodLink RX11 332 yX11_common ∈ gw := gw_8 53 (by decide +kernel) rfl
theorem q_8_54 : Cond.static yX11_common ∈ gw := gw_8 54 (by decide +kernel) rfl
theorem q_8_55 : Cond.code yX11_common cX11_common 10 (some .long) ∈ gw := gw_8 55 (by decide +kernel) rfl
theorem q_8_6 : Cond.code yX11_keep cX11_keep 2 none ∈ gw := gw_8 6 (by decide +kernel) rfl
theorem q_8_64 : Cond.constantLong RX11 347 (-1) ∈ gw := gw_8 64 (by decide +kernel) rfl
theorem q_8_7 : Cond.methodLink RX11 316 yX11_asks ∈ gw := gw_8 7 (by decide +kernel) rfl
theorem q_8_77 : Cond.methodLink RX11 352 yX11_inHands ∈ gw := gw_8 77 (by decide +kernel) rfl
theorem q_8_79 : Cond.instanceMethod yX11_inHands ∈ gw := gw_8 79 (by decide +kernel) rfl
theorem q_8_80 : Cond.code yX11_inHands cX11_inHands 4 (some .int) ∈ gw := gw_8 80 (by decide +kernel) rfl
theorem q_8_85 : Cond.methodLink RX11 397 yX11_openOf ∈ gw := gw_8 85 (by decide +kernel) rfl
theorem q_8_87 : Cond.instanceMethod yX11_openOf ∈ gw := gw_8 87 (by decide +kernel) rfl
theorem q_8_88 : Cond.code yX11_openOf cX11_openOf 5 (some .int) ∈ gw := gw_8 88 (by decide +kernel) rfl
theorem q_8_89 : Cond.methodLink RX11 384 yX11_codeOf ∈ gw := gw_8 89 (by decide +kernel) rfl
theorem q_8_9 : Cond.instanceMethod yX11_asks ∈ gw := gw_8 9 (by decide +kernel) rfl
theorem q_8_91 : Cond.instanceMethod yX11_codeOf ∈ gw := gw_8 91 (by decide +kernel) rfl
theorem q_8_92 : Cond.code yX11_codeOf cX11_codeOf 4 (some .int) ∈ gw := gw_8 92 (by decide +kernel) rfl
theorem q_8_93 : Cond.methodLink RX11 394 yX11_lacks ∈ gw := gw_8 93 (by decide +kernel) rfl
theorem q_8_95 : Cond.instanceMethod yX11_lacks ∈ gw := gw_8 95 (by decide +kernel) rfl
theorem q_8_96 : Cond.code yX11_lacks cX11_lacks 5 (some .int) ∈ gw := gw_8 96 (by decide +kernel) rfl
theorem q_8_97 : Cond.methodLink RX11 369 yX11_decode ∈ gw := gw_8 97 (by decide +kernel) rfl
theorem q_8_99 : Cond.instanceMethod yX11_decode ∈ gw := gw_8 99 (by decide +kernel) rfl
theorem inGX11 : ∀ w ∈ u_ws RX11 TX11 65, w ∈ gw := by
  intro w hw
  obtain ⟨k, hk, rfl⟩ := List.mem_map.mp hw
  have hk := List.mem_range.mp hk
  match k, hk with
  | 0, _ => exact gw_6 187 (by decide +kernel) rfl
  | 1, _ => exact gw_6 189 (by decide +kernel) rfl
  | 2, _ => exact gw_6 191 (by decide +kernel) rfl
  | 3, _ => exact gw_6 193 (by decide +kernel) rfl
  | 4, _ => exact gw_6 195 (by decide +kernel) rfl
  | 5, _ => exact gw_6 197 (by decide +kernel) rfl
  | 6, _ => exact gw_6 199 (by decide +kernel) rfl
  | 7, _ => exact gw_6 201 (by decide +kernel) rfl
  | 8, _ => exact gw_6 203 (by decide +kernel) rfl
  | 9, _ => exact gw_6 205 (by decide +kernel) rfl
  | 10, _ => exact gw_6 207 (by decide +kernel) rfl
  | 11, _ => exact gw_6 209 (by decide +kernel) rfl
  | 12, _ => exact gw_6 211 (by decide +kernel) rfl
  | 13, _ => exact gw_6 213 (by decide +kernel) rfl
  | 14, _ => exact gw_6 215 (by decide +kernel) rfl
  | 15, _ => exact gw_6 217 (by decide +kernel) rfl
  | 16, _ => exact gw_6 219 (by decide +kernel) rfl
  | 17, _ => exact gw_6 221 (by decide +kernel) rfl
  | 18, _ => exact gw_6 223 (by decide +kernel) rfl
  | 19, _ => exact gw_6 225 (by decide +kernel) rfl
  | 20, _ => exact gw_6 227 (by decide +kernel) rfl
  | 21, _ => exact gw_6 229 (by decide +kernel) rfl
  | 22, _ => exact gw_6 231 (by decide +kernel) rfl
  | 23, _ => exact gw_6 233 (by decide +kernel) rfl
  | 24, _ => exact gw_6 235 (by decide +kernel) rfl
  | 25, _ => exact gw_6 237 (by decide +kernel) rfl
  | 26, _ => exact gw_6 239 (by decide +kernel) rfl
  | 27, _ => exact gw_7 1 (by decide +kernel) rfl
  | 28, _ => exact gw_7 3 (by decide +kernel) rfl
  | 29, _ => exact gw_7 5 (by decide +kernel) rfl
  | 30, _ => exact gw_7 7 (by decide +kernel) rfl
  | 31, _ => exact gw_7 9 (by decide +kernel) rfl
  | 32, _ => exact gw_7 11 (by decide +kernel) rfl
  | 33, _ => exact gw_7 13 (by decide +kernel) rfl
  | 34, _ => exact gw_7 15 (by decide +kernel) rfl
  | 35, _ => exact gw_7 17 (by decide +kernel) rfl
  | 36, _ => exact gw_7 19 (by decide +kernel) rfl
  | 37, _ => exact gw_7 21 (by decide +kernel) rfl
  | 38, _ => exact gw_7 23 (by decide +kernel) rfl
  | 39, _ => exact gw_7 25 (by decide +kernel) rfl
  | 40, _ => exact gw_7 27 (by decide +kernel) rfl
  | 41, _ => exact gw_7 29 (by decide +kernel) rfl
  | 42, _ => exact gw_7 31 (by decide +kernel) rfl
  | 43, _ => exact gw_7 33 (by decide +kernel) rfl
  | 44, _ => exact gw_7 35 (by decide +kernel) rfl
  | 45, _ => exact gw_7 37 (by decide +kernel) rfl
  | 46, _ => exact gw_7 39 (by decide +kernel) rfl
  | 47, _ => exact gw_7 41 (by decide +kernel) rfl
  | 48, _ => exact gw_7 43 (by decide +kernel) rfl
  | 49, _ => exact gw_7 45 (by decide +kernel) rfl
  | 50, _ => exact gw_7 47 (by decide +kernel) rfl
  | 51, _ => exact gw_7 49 (by decide +kernel) rfl
  | 52, _ => exact gw_7 51 (by decide +kernel) rfl
  | 53, _ => exact gw_7 53 (by decide +kernel) rfl
  | 54, _ => exact gw_7 55 (by decide +kernel) rfl
  | 55, _ => exact gw_7 57 (by decide +kernel) rfl
  | 56, _ => exact gw_7 59 (by decide +kernel) rfl
  | 57, _ => exact gw_7 61 (by decide +kernel) rfl
  | 58, _ => exact gw_7 63 (by decide +kernel) rfl
  | 59, _ => exact gw_7 65 (by decide +kernel) rfl
  | 60, _ => exact gw_7 67 (by decide +kernel) rfl
  | 61, _ => exact gw_7 69 (by decide +kernel) rfl
  | 62, _ => exact gw_7 71 (by decide +kernel) rfl
  | 63, _ => exact gw_7 73 (by decide +kernel) rfl
  | 64, _ => exact gw_7 75 (by decide +kernel) rfl
  | (k + 65), h => exact absurd h (by omega)
