/-! Of which methods two ends hold together. -/
theorem xFill_pj {sh : xH} : xPJ (xFill sh) := by
  intro as σ K1 K2 K3 h1 h2 hK
  match as, h1, h2 with
  | [.inr (.inr (.inl t)), .inl v], h1, h2 =>
    unfold xFill at h1 h2 ⊢
    dsimp only at h1 h2 ⊢
    cases hs : sh t with
    | none => rw [hs] at h1; exact h1.elim
    | some e =>
      rw [hs] at h1 h2
      match e, h1, h2 with
      | (2, n, []), h1, h2 => exact ⟨h1.1, hK _ _ h1.2 h2.2⟩
      | (0, _, _), h1, _ => exact h1.elim
      | (1, _, _), h1, _ => exact h1.elim
      | (2, _, _ :: _), h1, _ => exact h1.elim
      | (k + 3, _, _), h1, _ => exact h1.elim
theorem xFillL_pj {sh : xH} : xPJ (xFillL sh) := by
  intro as σ K1 K2 K3 h1 h2 hK
  match as, h1, h2 with
  | [.inr (.inr (.inl t)), .inl a, .inl b, .inr (.inl v)], h1, h2 =>
    unfold xFillL at h1 h2 ⊢
    dsimp only at h1 h2 ⊢
    cases hs : sh t with
    | none => rw [hs] at h1; exact h1.elim
    | some e =>
      rw [hs] at h1 h2
      match e, h1, h2 with
      | (3, n, []), h1, h2 => exact ⟨h1.1, h1.2.1, hK _ _ h1.2.2 h2.2.2⟩
      | (0, _, _), h1, _ => exact h1.elim
      | (1, _, _), h1, _ => exact h1.elim
      | (2, _, _), h1, _ => exact h1.elim
      | (3, _, _ :: _), h1, _ => exact h1.elim
      | (k + 4, _, _), h1, _ => exact h1.elim
theorem xMax_pj : xPJ xMax := by
  intro as σ K1 K2 K3 h1 h2 hK
  match as, h1, h2 with
  | [.inl a, .inl b], h1, h2 => exact fun r a b c => hK _ _ (h1 r a b c) (h2 r a b c)
theorem xMin_pj : xPJ xMin := by
  intro as σ K1 K2 K3 h1 h2 hK
  match as, h1, h2 with
  | [.inl a, .inl b], h1, h2 => exact fun r a b c => hK _ _ (h1 r a b c) (h2 r a b c)
theorem xCopy_pj {sh : xH} : xPJ (xCopy sh) := by
  intro as σ K1 K2 K3 h1 h2 hK
  match as, h1, h2 with
  | [.inr (.inr (.inl t)), .inl sp, .inr (.inr (.inl u)), .inl dp, .inl n], h1, h2 =>
    unfold xCopy at h1 h2 ⊢
    dsimp only at h1 h2 ⊢
    cases hs : sh t with
    | none => rw [hs] at h1; exact h1.elim
    | some e =>
      cases hu : sh u with
      | none =>
        rw [hs, hu] at h1
        match e, h1 with
        | (0, _, _), h1 => exact h1.elim
        | (k + 1, _, _), h1 => exact h1.elim
      | some e' =>
        rw [hs, hu] at h1 h2
        match e, e', h1, h2 with
        | (k + 1, m, _), (k' + 1, m', _), h1, h2 => exact ⟨h1.1, h1.2.1, h1.2.2.1, hK _ _ h1.2.2.2 h2.2.2.2⟩
        | (0, _, _), _, h1, _ => exact h1.elim
        | (k + 1, _, _), (0, _, _), h1, _ => exact h1.elim
theorem jkX11_throwsIf : xPJ (xT kX11_throwsIf) := xT_and (C := kX11_throwsIf) (xenv_pj (L := eX11_throwsIf) trivial)
theorem jkX11_four : xPJ (xT kX11_four) := xT_and (C := kX11_four) (xenv_pj (L := eX11_four) trivial)
theorem jkX11_feed : xPJ (xT kX11_feed) := xT_and (C := kX11_feed) (xenv_pj (L := eX11_feed) ⟨xIV_pj jkX11_four, trivial⟩)
theorem jkX11_end : xPJ (xT kX11_end) := xT_and (C := kX11_end) (xenv_pj (L := eX11_end) trivial)
theorem jkX11_taken : xPJ (xT kX11_taken) := xT_and (C := kX11_taken) (xenv_pj (L := eX11_taken) trivial)
theorem jkX11_isIn : xPJ (xT kX11_isIn) := xT_and (C := kX11_isIn) (xenv_pj (L := eX11_isIn) trivial)
theorem jkX11_bitOf : xPJ (xT kX11_bitOf) := xT_and (C := kX11_bitOf) (xenv_pj (L := eX11_bitOf) trivial)
theorem jkX11_octet : xPJ (xT kX11_octet) := xT_and (C := kX11_octet) (xenv_pj (L := eX11_octet) trivial)
theorem jkX11_peek : xPJ (xT kX11_peek) := xT_and (C := kX11_peek) (xenv_pj (L := eX11_peek) trivial)
theorem jkX11_isSmall : xPJ (xT kX11_isSmall) := xT_and (C := kX11_isSmall) (xenv_pj (L := eX11_isSmall) trivial)
theorem jkX11_isDigit : xPJ (xT kX11_isDigit) := xT_and (C := kX11_isDigit) (xenv_pj (L := eX11_isDigit) trivial)
theorem jkX11_next : xPJ (xT kX11_next) := xT_and (C := kX11_next) (xenv_pj (L := eX11_next) ⟨xIV_pj jkX11_peek, jkX11_isSmall, jkX11_isDigit, trivial⟩)
theorem jkX11_bad : xPJ (xT kX11_bad) := xT_and (C := kX11_bad) (xenv_pj (L := eX11_bad) trivial)
theorem jkX11_isWord : xPJ (xT kX11_isWord) := xT_and (C := kX11_isWord) (xenv_pj (L := eX11_isWord) trivial)
theorem jkX11_isSign : xPJ (xT kX11_isSign) := xT_and (C := kX11_isSign) (xenv_pj (L := eX11_isSign) trivial)
theorem jkX11_sign : xPJ (xT kX11_sign) := xT_and (C := kX11_sign) (xenv_pj (L := eX11_sign) ⟨xIV_pj jkX11_isSign, xIV_pj jkX11_bad, xIV_pj jkX11_next, trivial⟩)
theorem jkX11_isName : xPJ (xT kX11_isName) := xT_and (C := kX11_isName) (xenv_pj (L := eX11_isName) trivial)
theorem jkX11_takes : xPJ (xT kX11_takes) := xT_and (C := kX11_takes) (xenv_pj (L := eX11_takes) ⟨xIV_pj jkX11_bad, xIV_pj jkX11_next, jkX11_isIn, trivial⟩)
theorem jkX11_find : xPJ (xT kX11_find) := xT_and (C := kX11_find) (xenv_pj (L := eX11_find) trivial)
theorem jkX11_readHand : xPJ (xT kX11_readHand) := xT_and (C := kX11_readHand) (xenv_pj (L := eX11_readHand) ⟨xIV_pj jkX11_bad, xIV_pj jkX11_next, jkX11_isIn, xIV_pj jkX11_isName, xIV_pj jkX11_find, trivial⟩)
theorem jkX11_readHeap : xPJ (xT kX11_readHeap) := xT_and (C := kX11_readHeap) (xenv_pj (L := eX11_readHeap) ⟨xIV_pj jkX11_isSign, xIV_pj jkX11_bad, xIV_pj jkX11_next, trivial⟩)
theorem jkX11_line : xPJ (xT kX11_line) := xT_and (C := kX11_line) (xenv_pj (L := eX11_line) ⟨xIV_pj jkX11_bad, xIV_pj jkX11_next, xIV_pj jkX11_isWord, xIV_pj jkX11_takes, xIV_pj jkX11_isName, xIV_pj jkX11_find, xIV_pj jkX11_readHand, xIV_pj jkX11_readHeap, trivial⟩)
theorem jkX11_cards : xPJ (xT kX11_cards) := xT_and (C := kX11_cards) (xenv_pj (L := eX11_cards) trivial)
theorem jkX11_adds : xPJ (xT kX11_adds) := xT_and (C := kX11_adds) (xenv_pj (L := eX11_adds) trivial)
theorem jkX11_handOf : xPJ (xT kX11_handOf) := xT_and (C := kX11_handOf) (xenv_pj (L := eX11_handOf) trivial)
theorem jkX11_learns : xPJ (xT kX11_learns) := xT_and (C := kX11_learns) (xenv_pj (L := eX11_learns) ⟨jkX11_bitOf, trivial⟩)
theorem jkX11_books : xPJ (xT kX11_books) := xT_and (C := kX11_books) (xenv_pj (L := eX11_books) ⟨xIV_pj jkX11_handOf, xIV_pj jkX11_learns, trivial⟩)
theorem jkX11_draws : xPJ (xT kX11_draws) := xT_and (C := kX11_draws) (xenv_pj (L := eX11_draws) ⟨xIV_pj jkX11_handOf, trivial⟩)
theorem jkX11_refills : xPJ (xT kX11_refills) := xT_and (C := kX11_refills) (xenv_pj (L := eX11_refills) ⟨xIV_pj jkX11_cards, xIV_pj jkX11_draws, xIV_pj jkX11_adds, xIV_pj jkX11_books, trivial⟩)
theorem jkX11_settles : xPJ (xT kX11_settles) := xT_and (C := kX11_settles) (xenv_pj (L := eX11_settles) ⟨xIV_pj jkX11_cards, xIV_pj jkX11_refills, trivial⟩)
theorem jkX11_begins : xPJ (xT kX11_begins) := xT_and (C := kX11_begins) (xenv_pj (L := eX11_begins) ⟨xIV_pj jkX11_cards, xIV_pj jkX11_adds, xIV_pj jkX11_books, xIV_pj jkX11_settles, trivial⟩)
theorem jkX11_table : xPJ (xT kX11_table) := xT_and (C := kX11_table) (xenv_pj (L := eX11_table) ⟨xIV_pj jkX11_next, xIV_pj jkX11_taken, xIV_pj jkX11_line, xIV_pj jkX11_sign, xIV_pj jkX11_begins, trivial⟩)
theorem jkX11_fault : xPJ (xT kX11_fault) := xT_and (C := kX11_fault) (xenv_pj (L := eX11_fault) trivial)
theorem jkX11_cannot : xPJ (xT kX11_cannot) := xT_and (C := kX11_cannot) (xenv_pj (L := eX11_cannot) trivial)
theorem jkX11_isPerson : xPJ (xT kX11_isPerson) := xT_and (C := kX11_isPerson) (xenv_pj (L := eX11_isPerson) ⟨jkX11_isIn, trivial⟩)
theorem jkX11_isKind : xPJ (xT kX11_isKind) := xT_and (C := kX11_isKind) (xenv_pj (L := eX11_isKind) ⟨jkX11_isIn, trivial⟩)
theorem jkX11_hand : xPJ (xT kX11_hand) := xT_and (C := kX11_hand) (xenv_pj (L := eX11_hand) ⟨xIV_pj jkX11_handOf, xIV_pj jkX11_isPerson, xIV_pj jkX11_isKind, xIV_pj jkX11_throwsIf, trivial⟩)
theorem jkX11_booksOf : xPJ (xT kX11_booksOf) := xT_and (C := kX11_booksOf) (xenv_pj (L := eX11_booksOf) trivial)
theorem jkX11_allBooks : xPJ (xT kX11_allBooks) := xT_and (C := kX11_allBooks) (xenv_pj (L := eX11_allBooks) trivial)
theorem jkX11_person : xPJ (xT kX11_person) := xT_and (C := kX11_person) (xenv_pj (L := eX11_person) ⟨xIV_pj jkX11_handOf, xIV_pj jkX11_cards, xIV_pj jkX11_isPerson, xIV_pj jkX11_booksOf, trivial⟩)
theorem jkX11_book : xPJ (xT kX11_book) := xT_and (C := kX11_book) (xenv_pj (L := eX11_book) ⟨xIV_pj jkX11_isKind, trivial⟩)
theorem jkX11_heap : xPJ (xT kX11_heap) := xT_and (C := kX11_heap) (xenv_pj (L := eX11_heap) ⟨jkX11_isIn, trivial⟩)
theorem jkX11_now : xPJ (xT kX11_now) := xT_and (C := kX11_now) (xenv_pj (L := eX11_now) ⟨xIV_pj jkX11_cards, xIV_pj jkX11_allBooks, trivial⟩)
theorem jkX11_whyOf : xPJ (xT kX11_whyOf) := xT_and (C := kX11_whyOf) (xenv_pj (L := eX11_whyOf) ⟨xIV_pj jkX11_handOf, trivial⟩)
theorem jkX11_areAsked : xPJ (xT kX11_areAsked) := xT_and (C := kX11_areAsked) (xenv_pj (L := eX11_areAsked) ⟨xIV_pj jkX11_isPerson, xIV_pj jkX11_isKind, trivial⟩)
theorem jkX11_why : xPJ (xT kX11_why) := xT_and (C := kX11_why) (xenv_pj (L := eX11_why) ⟨xIV_pj jkX11_areAsked, xIV_pj jkX11_whyOf, trivial⟩)
theorem jkX11_sureOf : xPJ (xT kX11_sureOf) := xT_and (C := kX11_sureOf) (xenv_pj (L := eX11_sureOf) ⟨jkX11_bitOf, trivial⟩)
theorem jkX11_asks : xPJ (xT kX11_asks) := xT_and (C := kX11_asks) (xenv_pj (L := eX11_asks) ⟨xIV_pj jkX11_handOf, xIV_pj jkX11_learns, xIV_pj jkX11_draws, xIV_pj jkX11_adds, xIV_pj jkX11_books, xIV_pj jkX11_settles, xIV_pj jkX11_sureOf, xIV_pj jkX11_cannot, trivial⟩)
theorem jkX11_keep : xPJ (xT kX11_keep) := xT_and (C := kX11_keep) (xenv_pj (L := eX11_keep) trivial)
theorem jkX11_ask : xPJ (xT kX11_ask) := xT_and (C := kX11_ask) (xenv_pj (L := eX11_ask) ⟨jkX11_isIn, xIV_pj jkX11_areAsked, xIV_pj jkX11_whyOf, xIV_pj jkX11_keep, xIV_pj jkX11_asks, trivial⟩)
theorem jkX11_asked : xPJ (xT kX11_asked) := xT_and (C := kX11_asked) (xenv_pj (L := eX11_asked) ⟨jkX11_isIn, trivial⟩)
theorem jkX11_undo : xPJ (xT kX11_undo) := xT_and (C := kX11_undo) (xenv_pj (L := eX11_undo) trivial)
theorem jkX11_tries : xPJ (xT kX11_tries) := xT_and (C := kX11_tries) (xenv_pj (L := eX11_tries) trivial)
theorem jkX11_back : xPJ (xT kX11_back) := xT_and (C := kX11_back) (xenv_pj (L := eX11_back) trivial)
theorem jkX11_known : xPJ (xT kX11_known) := xT_and (C := kX11_known) (xenv_pj (L := eX11_known) ⟨xIV_pj jkX11_isPerson, xIV_pj jkX11_isKind, trivial⟩)
theorem jkX11_can : xPJ (xT kX11_can) := xT_and (C := kX11_can) (xenv_pj (L := eX11_can) ⟨jkX11_bitOf, xIV_pj jkX11_isPerson, xIV_pj jkX11_isKind, trivial⟩)
theorem jkX11_looks : xPJ (xT kX11_looks) := xT_and (C := kX11_looks) (xenv_pj (L := eX11_looks) ⟨xIV_pj jkX11_handOf, trivial⟩)
theorem jkX11_digit : xPJ (xT kX11_digit) := xT_and (C := kX11_digit) (xenv_pj (L := eX11_digit) trivial)
theorem jkX11_waysOf : xPJ (xT kX11_waysOf) := xT_and (C := kX11_waysOf) (xenv_pj (L := eX11_waysOf) ⟨jkX11_bitOf, jkX11_digit, trivial⟩)
theorem jkX11_common : xPJ (xT kX11_common) := xT_and (C := kX11_common) (xenv_pj (L := eX11_common) trivial)
theorem jkX11_part : xPJ (xT kX11_part) := xT_and (C := kX11_part) (xenv_pj (L := eX11_part) ⟨jkX11_common, trivial⟩)
theorem jkX11_odds : xPJ (xT kX11_odds) := xT_and (C := kX11_odds) (xenv_pj (L := eX11_odds) ⟨jkX11_isIn, xIV_pj jkX11_isPerson, xIV_pj jkX11_isKind, xIV_pj jkX11_throwsIf, xIV_pj jkX11_looks, xIV_pj jkX11_waysOf, jkX11_part, trivial⟩)
theorem jkX11_next_ : xPJ (xT kX11_next_) := xT_and (C := kX11_next_) (xenv_pj (L := eX11_next_) ⟨jkX11_isIn, xIV_pj jkX11_isPerson, xIV_pj jkX11_isKind, xIV_pj jkX11_throwsIf, jkX11_digit, xIV_pj jkX11_looks, xIV_pj jkX11_waysOf, jkX11_part, trivial⟩)
theorem jkX11_whom : xPJ (xT kX11_whom) := xT_and (C := kX11_whom) (xenv_pj (L := eX11_whom) ⟨xIV_pj jkX11_handOf, xIV_pj jkX11_cards, xIV_pj jkX11_isPerson, xIV_pj jkX11_looks, xIV_pj jkX11_waysOf, trivial⟩)
theorem jkX11_sweep : xPJ (xT kX11_sweep) := xT_and (C := kX11_sweep) (xenv_pj (L := eX11_sweep) ⟨xIV_pj jkX11_handOf, xIV_pj jkX11_isPerson, trivial⟩)
theorem jkX11_swept : xPJ (xT kX11_swept) := xT_and (C := kX11_swept) (xenv_pj (L := eX11_swept) ⟨jkX11_isIn, trivial⟩)
theorem jkX11_inHands : xPJ (xT kX11_inHands) := xT_and (C := kX11_inHands) (xenv_pj (L := eX11_inHands) ⟨xIV_pj jkX11_handOf, trivial⟩)
theorem jkX11_gains : xPJ (xT kX11_gains) := xT_and (C := kX11_gains) (xenv_pj (L := eX11_gains) ⟨xIV_pj jkX11_handOf, xIV_pj jkX11_isPerson, xIV_pj jkX11_booksOf, xIV_pj jkX11_inHands, trivial⟩)
theorem jkX11_codeOf : xPJ (xT kX11_codeOf) := xT_and (C := kX11_codeOf) (xenv_pj (L := eX11_codeOf) trivial)
theorem jkX11_decode : xPJ (xT kX11_decode) := xT_and (C := kX11_decode) (xenv_pj (L := eX11_decode) trivial)
theorem jkX11_sumOf : xPJ (xT kX11_sumOf) := xT_and (C := kX11_sumOf) (xenv_pj (L := eX11_sumOf) trivial)
theorem jkX11_laid : xPJ (xT kX11_laid) := xT_and (C := kX11_laid) (xenv_pj (L := eX11_laid) trivial)
theorem jkX11_filled : xPJ (xT kX11_filled) := xT_and (C := kX11_filled) (xenv_pj (L := eX11_filled) ⟨jkX11_sumOf, jkX11_laid, trivial⟩)
theorem jkX11_goes : xPJ (xT kX11_goes) := xT_and (C := kX11_goes) (xenv_pj (L := eX11_goes) ⟨jkX11_sumOf, jkX11_laid, xIV_pj jkX11_decode, xIV_pj jkX11_filled, xIV_pj jkX11_codeOf, trivial⟩)
theorem jkX11_lacks : xPJ (xT kX11_lacks) := xT_and (C := kX11_lacks) (xenv_pj (L := eX11_lacks) ⟨xIV_pj jkX11_decode, xIV_pj jkX11_goes, trivial⟩)
theorem jkX11_openOf : xPJ (xT kX11_openOf) := xT_and (C := kX11_openOf) (xenv_pj (L := eX11_openOf) ⟨xIV_pj jkX11_handOf, xIV_pj jkX11_booksOf, xIV_pj jkX11_codeOf, xIV_pj jkX11_lacks, trivial⟩)
theorem jkX11_open : xPJ (xT kX11_open) := xT_and (C := kX11_open) (xenv_pj (L := eX11_open) ⟨xIV_pj jkX11_openOf, trivial⟩)
theorem jkX11_first : xPJ (xT kX11_first) := xT_and (C := kX11_first) (xenv_pj (L := eX11_first) ⟨xIV_pj jkX11_openOf, trivial⟩)
theorem jkX11_nextWithCards : xPJ (xT kX11_nextWithCards) := xT_and (C := kX11_nextWithCards) (xenv_pj (L := eX11_nextWithCards) ⟨xIV_pj jkX11_cards, trivial⟩)
theorem jkX11_bentOf : xPJ (xT kX11_bentOf) := xT_and (C := kX11_bentOf) (xenv_pj (L := eX11_bentOf) ⟨xIV_pj jkX11_handOf, xIV_pj jkX11_cards, xIV_pj jkX11_nextWithCards, trivial⟩)
theorem jkX11_bent : xPJ (xT kX11_bent) := xT_and (C := kX11_bent) (xenv_pj (L := eX11_bent) ⟨jkX11_isIn, xIV_pj jkX11_isPerson, xIV_pj jkX11_bentOf, trivial⟩)
