set_option maxHeartbeats 4000000 in
set_option maxRecDepth 100000 in
theorem s_eveningF {σ : xS} {lives : Int} {Q : Option xV → xS → Prop} (hp0 : True) (hp1 : RI σ) (hp2 : BYx (σ 1) (σ 0 2)) (hp3 : ∀ j : Nat, j < 19 → σ 6 j = R8.getD j 0) (hp4 : TV (σ 2)) (hQ : ∀ r : Int, ∀ σ' : xS, Fr [2, 4, 7, 8, 9, 22] [0, 2, 3, 4, 5, 11, 12, 13, 14, 15, 16, 17, 18, 24, 27, 52, 54] σ σ' → (EVR σ σ' lives r) → Q (some (xvi r)) σ') : xT kX11_evening [xvr 0, xvi lives] σ Q := by
  refine ⟨Nat.le_of_ble_eq_true rfl, fun X hX => ?_⟩
  show X 0 [xvr 0, xvi lives, xvu, xvu, xvu, xvu] σ
  have hF : Fr [2, 4, 7, 8, 9, 22] [0, 2, 3, 4, 5, 11, 12, 13, 14, 15, 16, 17, 18, 24, 27, 52, 54] σ σ := Fr.rf
  refine hX 400 0 _ _ ?_
  have hl940 := hp1.len
  have hk0 := hp1.kinds; have hk1 := hp1.persons
  have hF := hF.p (j := 0) (v := 0) (by decide)
  refine s_isIn (σ := (xput σ 0 0 0)) (v := lives) (low := 0) (high := 1) (fun r2 p2 => ?_)
  refine And.intro (fun c3 => ?_) (fun c3 => ?_)
  · refine s_taken (σ := (xput σ 0 0 0)) (most := 500) (fun σ4 f4 p4 => ?_)
    have p4 : σ4 0 3 = σ 0 2 ∧ σ4 0 2 = 0 ∧ σ4 0 4 = 0 ∧ σ4 0 5 = 500 := p4
    have hF := hF.tr f4 (by decide) (by decide)
    have hS : SMx σ σ4 := (SMx.rf.tr (show Fr [] [0] σ (xput σ 0 0 0) from Fr.rf.p (j := 0) (v := 0) (by decide))).tr f4
    have hS0 : σ4 0 2 = 0 := p4.2.1
    have hF := hF.p (j := 15) (v := 0) (by decide)
    have hF := hF.p (j := 52) (v := 0) (by decide)
    refine s_nxG (σ := (xput (xput σ4 0 15 0) 0 52 0)) (b := σ 1) (n := σ 0 2) (m := 500) (p := 0) (show 0 ≤ σ4 0 4 ∧ σ4 0 4 ≤ σ 0 2 ∧ σ 0 2 ≤ 940 from by omega) hp2 (hF.1 1 (by decide) (by decide)) (show σ4 0 3 = σ 0 2 from by omega) (show σ4 0 5 = 500 from by omega) (show σ4 0 4 = 0 from by omega) (fun σ7 f7 p7 => ?_)
    have hF := hF.tr f7 (by decide) (by decide)
    have hS := (hS.tr (show Fr [] [15, 52] σ4 (xput (xput σ4 0 15 0) 0 52 0) from (Fr.rf.p (j := 15) (v := 0) (by decide)).p (j := 52) (v := 0) (by decide))).tr f7
    have hS0 : σ7 0 2 = 0 := (f7.2 2 (by decide)).trans hS0
    have k52 : σ7 0 52 = 0 := f7.2 52 (by decide)
    have k3 : σ7 0 3 = σ 0 2 := (f7.2 3 (by decide)).trans (show σ4 0 3 = σ 0 2 from by omega)
    have k5 : σ7 0 5 = 500 := (f7.2 5 (by decide)).trans (show σ4 0 5 = 500 from by omega)
    have hR : RRv σ7 (σ 1) (σ 0 2) 500 0 := ⟨p7.2, ⟨hF.1 1 (by decide) (by decide), k3, k5⟩, ⟨p7.1.1, p7.1.2, hl940.2⟩, hp2, by rw [hF.1 6 (by decide) (by decide)]; exact hp3⟩
    have lp_39 : ∀ (m39 : Nat) (s1 : xS), ((31 - s1 0 52).toNat) = m39 → (Fr [2, 4, 7, 8, 9, 22] [0, 2, 3, 4, 5, 11, 12, 13, 14, 15, 16, 17, 18, 24, 27, 52, 54] σ s1 ∧ SMx σ s1 ∧ s1 0 2 = 0 ∧ ∃ (i : Nat) (t : EVx), EVN (σ 5) (σ 2 1) (σ 2 0) (σ 1) (σ 0 2) 500 i es0 t ∧ RRv s1 (σ 1) (σ 0 2) 500 t.p ∧ (∀ j : Nat, (j : Int) < 4 * t.l → s1 4 j = t.rd j) ∧ s1 0 52 = t.l ∧ ERW (σ 2 1) (σ 2 0) t) → X 39 [xvr 0, xvi lives, xvu, xvu, xvu, xvu] s1 := by
      intro m39
      induction m39 using Nat.strongRecOn with
      | _ m39 ih_39 =>
      intro s1 hm_39 hv_39
      obtain ⟨hF, hS, hS0, nn, t, hN, hR, hrd, hl, hW⟩ := hv_39
      have hl30 := hW.1
      refine hX 400 39 _ _ ?_
      -- a line
      intro v9 e9 l9 h9
      have e9 : v9 = s1 0 11 := e9
      refine And.intro (fun c10 => ?_) (fun c10 => ?_)
      · have h302 : tkc (σ 1) (σ 0 2) 500 t.p = 302 := by have z := hR.1.tr; omega
        refine s_tries (σ := s1) (fun σ11 f11 p11 => ?_)
        have hF := hF.tr f11 (by decide) (by decide)
        have h9 : ∀ j : Nat, j < 580 → σ11 9 j = σ 2 (4 + j) := fun j hj => by have q := p11.1 j hj; rw [hS.1.1, Nat.zero_add] at q; exact q
        have hS := hS.tr f11
        have hS0 : σ11 0 2 = 0 := (f11.2 2 (by decide)).trans hS0
        have hl : σ11 0 52 = t.l := (f11.2 52 (by decide)).trans hl
        have hrd : ∀ j : Nat, (j : Int) < 4 * t.l → σ11 4 j = t.rd j := fun j hj => (congrFun (f11.1 4 (by decide) (by decide)) j).trans (hrd j hj)
        refine And.intro (Nat.le_of_ble_eq_true rfl) ?_
        show xw _ _ _ _ _ _ _ _ _ _ [xvr 0, xvi lives, xvi 0, xvu, xvu, xvu] _ _
        have lp_89 : ∀ (m89 : Nat) (j : Int) (s2 : xS), ((4 - j).toNat) = m89 → (Fr [2, 4, 7, 8, 9, 22] [0, 2, 3, 4, 5, 11, 12, 13, 14, 15, 16, 17, 18, 24, 27, 52, 54] σ s2 ∧ (∀ j : Nat, j < 580 → s2 9 j = σ 2 (4 + j)) ∧ s2 0 2 = 0 ∧ s2 0 52 = t.l ∧ (∀ j : Nat, (j : Int) < 4 * t.l → s2 4 j = t.rd j) ∧ ((s2 2 = σ 2 ∧ s2 7 = σ 7 ∧ s2 8 = σ 8) ∧ s2 0 24 = σ 0 24 ∧ s2 0 27 = σ 0 27) ∧ (∀ q : Nat, (q : Int) < j → s2 22 q = 0) ∧ (0 ≤ j ∧ j ≤ 4)) → X 89 [xvr 0, xvi lives, xvi j, xvu, xvu, xvu] s2 := by
          intro m89
          induction m89 using Nat.strongRecOn with
          | _ m89 ih_89 =>
          intro j s2 hm_89 hv_89
          obtain ⟨hF, h9, hS0, hl, hrd, hS, hZ, hv_89⟩ := hv_89
          refine hX 400 89 _ _ ?_
          refine And.intro (fun c13 => ?_) (fun c13 => ?_)
          · refine And.intro (Nat.le_of_ble_eq_true rfl) ?_
            show xw _ _ _ _ _ _ _ _ _ _ [xvr 0, xvi lives, xvi (-1), xvu, xvu, xvu] _ _
            refine And.intro (Nat.le_of_ble_eq_true rfl) ?_
            show xw _ _ _ _ _ _ _ _ _ _ [xvr 0, xvi lives, xvi (-1), xvi 0, xvu, xvu] _ _
            have lp_111 : ∀ (m111 : Nat) (wrong : Int) (i : Int) (u14_4 : xV) (u14_5 : xV) (s3 : xS), ((t.l - i).toNat) = m111 → (Fr [2, 4, 7, 8, 9, 22] [0, 2, 3, 4, 5, 11, 12, 13, 14, 15, 16, 17, 18, 24, 27, 52, 54] σ s3 ∧ (∀ j : Nat, j < 580 → s3 9 j = σ 2 (4 + j)) ∧ s3 0 2 = 0 ∧ s3 0 52 = t.l ∧ (∀ j : Nat, (j : Int) < 4 * t.l → s3 4 j = t.rd j) ∧ (0 ≤ i ∧ i ≤ t.l) ∧ ∃ (n : Nat) (wr : Int), (s3 2 = evF (σ 2) t.rd n ∧ s3 22 0 = wr ∧ s3 22 1 = n) ∧ EK σ s3 t.rd lives n ∧ (∀ q : Nat, q < n → evW (σ 2) t.rd q = 0) ∧ ((wrong = -1 ∧ i = n ∧ wr = 0 ∧ (n : Int) ≤ t.l) ∨ (0 ≤ wrong ∧ wrong = n ∧ (n : Int) < t.l ∧ wr = evW (σ 2) t.rd n ∧ ¬ wr = 0))) → X 111 [xvr 0, xvi lives, xvi wrong, xvi i, u14_4, u14_5] s3 := by
              intro m111
              induction m111 using Nat.strongRecOn with
              | _ m111 ih_111 =>
              intro wrong i u14_4 u14_5 s3 hm_111 hv_111
              obtain ⟨hF, h9, hS0, hl, hrd, hi, n, wr, ⟨h2, h220, h221⟩, hK, hq0, hjw⟩ := hv_111
              have hO : EVO (σ 2) t.rd t.l := hW.o rfl rfl
              obtain ⟨hTn, hen⟩ := evF_tv hp4 hO n (by omega) hq0
              have hn1 : s3 2 1 = σ 2 1 := by rw [h2]; exact hen 1 (by omega)
              have hn0 : s3 2 0 = σ 2 0 := by rw [h2]; exact hen 0 (by omega)
              have m0 := hp4.1.1.1.1
              have m1 := hp4.1.1.1.2.1
              have hl30 := hW.1
              refine hX 400 111 _ _ ?_
              intro v15 e15 l15 h15
              have e15 : v15 = s3 0 52 := e15
              refine And.intro (fun c16 => ?_) (fun c16 => ?_)
              · refine hX 400 290 _ _ ?_
                have hJD : JDG (σ 2) t.rd t.l n wr := ⟨by omega, fun q hq => hq0 q (by omega), by
                  rcases hjw with z | z
                  · exact Or.inl ⟨by omega, z.2.2.1⟩
                  · exact Or.inr ⟨z.2.2.1, z.2.2.2.1, z.2.2.2.2⟩⟩
                refine s_allBooksF (σ := s3) (fun r17 p17 => ?_)
                rw [h2] at p17
                refine And.intro (rfl) (And.intro (⟨by omega, by omega⟩) ?_)
                have hF := hF.pt (t := 22) (j := 2) (v := r17) (by decide) (by decide)
                refine And.intro (rfl) (And.intro (⟨by omega, by omega⟩) ?_)
                intro v19 e19 l19 h19
                have e19 : v19 = s3 2 4 := e19
                refine And.intro (rfl) (And.intro (⟨by omega, by omega⟩) ?_)
                have hF := hF.pt (t := 22) (j := 3) (v := v19) (by decide) (by decide)
                refine And.intro (by omega) ?_
                have hF := hF.p (j := 54) (v := 1) (by decide)
                refine And.intro (fun c22 => ?_) (fun c22 => ?_)
                · refine hX 400 325 _ _ ?_
                  refine And.intro rfl ?_
                  exact hQ _ _ hF (Or.inr ⟨by omega, hS0, _, ⟨nn, t, hN, Or.inl ⟨h302, rfl⟩⟩, Or.inr ⟨t, n, wr, rfl, hW, hJD, (by
                    by_cases c : (n : Int) < t.l
                    · rw [if_pos c]; omega
                    · rw [if_neg c]; omega), (show (xput (xput (xput s3 22 2 r17) 22 3 v19) 0 54 1) 22 0 = wr ∧ (xput (xput (xput s3 22 2 r17) 22 3 v19) 0 54 1) 22 1 = n ∧ (xput (xput (xput s3 22 2 r17) 22 3 v19) 0 54 1) 22 2 = alq (evF (σ 2) t.rd n) 13 ∧ (xput (xput (xput s3 22 2 r17) 22 3 v19) 0 54 1) 22 3 = evF (σ 2) t.rd n 4 ∧ (xput (xput (xput s3 22 2 r17) 22 3 v19) 0 54 1) 0 54 = 1 from ⟨(show s3 22 0 = wr from h220), (show s3 22 1 = n from h221), (show r17 = alq (evF (σ 2) t.rd n) 13 from p17), (show v19 = evF (σ 2) t.rd n 4 from by rw [e19, h2]), rfl⟩), hK.tr rfl rfl rfl rfl, (by rw [if_pos (by omega)]; exact h2)⟩⟩)
                · -- back
                  refine s_back (σ := (xput (xput (xput s3 22 2 r17) 22 3 v19) 0 54 1)) (fun σ23 f23 p23 => ?_)
                  have hF := hF.tr f23 (by decide) (by decide)
                  have hB2 : σ23 2 = σ 2 := by
                    funext q
                    by_cases c : q < 4 ∨ 584 ≤ q
                    · rw [p23.2 q c]
                      show s3 2 q = σ 2 q
                      rw [h2]; exact hen q (by omega)
                    · have z := p23.1 (q - 4) (by omega)
                      rw [show 4 + (q - 4) = q from by omega, Nat.zero_add] at z
                      rw [z]
                      show s3 9 _ = _
                      rw [h9 _ (by omega), show 4 + (q - 4) = q from by omega]
                  refine hX 400 325 _ _ ?_
                  refine And.intro rfl ?_
                  exact hQ _ _ hF (Or.inr ⟨by omega, (f23.2 2 (by decide)).trans hS0, _, ⟨nn, t, hN, Or.inl ⟨h302, rfl⟩⟩, Or.inr ⟨t, n, wr, rfl, hW, hJD, (by
                    by_cases c : (n : Int) < t.l
                    · rw [if_pos c]; omega
                    · rw [if_neg c]; omega), (by
                    rw [f23.1 22 (by decide) (by decide), f23.2 54 (by decide)]
                    exact (show (xput (xput (xput s3 22 2 r17) 22 3 v19) 0 54 1) 22 0 = wr ∧ (xput (xput (xput s3 22 2 r17) 22 3 v19) 0 54 1) 22 1 = n ∧ (xput (xput (xput s3 22 2 r17) 22 3 v19) 0 54 1) 22 2 = alq (evF (σ 2) t.rd n) 13 ∧ (xput (xput (xput s3 22 2 r17) 22 3 v19) 0 54 1) 22 3 = evF (σ 2) t.rd n 4 ∧ (xput (xput (xput s3 22 2 r17) 22 3 v19) 0 54 1) 0 54 = 1 from ⟨(show s3 22 0 = wr from h220), (show s3 22 1 = n from h221), (show r17 = alq (evF (σ 2) t.rd n) 13 from p17), (show v19 = evF (σ 2) t.rd n 4 from by rw [e19, h2]), rfl⟩)), hK.tr (f23.1 7 (by decide) (by decide)) (f23.1 8 (by decide) (by decide)) (f23.2 24 (by decide)) (f23.2 27 (by decide)), (by rw [if_neg (by omega)]; exact hB2)⟩⟩)
              · refine And.intro (fun c24 => ?_) (fun c24 => ?_)
                · refine hX 400 290 _ _ ?_
                  have hJD : JDG (σ 2) t.rd t.l n wr := ⟨by omega, fun q hq => hq0 q (by omega), by
                    rcases hjw with z | z
                    · exact Or.inl ⟨by omega, z.2.2.1⟩
                    · exact Or.inr ⟨z.2.2.1, z.2.2.2.1, z.2.2.2.2⟩⟩
                  refine s_allBooksF (σ := s3) (fun r25 p25 => ?_)
                  rw [h2] at p25
                  refine And.intro (rfl) (And.intro (⟨by omega, by omega⟩) ?_)
                  have hF := hF.pt (t := 22) (j := 2) (v := r25) (by decide) (by decide)
                  refine And.intro (rfl) (And.intro (⟨by omega, by omega⟩) ?_)
                  intro v27 e27 l27 h27
                  have e27 : v27 = s3 2 4 := e27
                  refine And.intro (rfl) (And.intro (⟨by omega, by omega⟩) ?_)
                  have hF := hF.pt (t := 22) (j := 3) (v := v27) (by decide) (by decide)
                  refine And.intro (by omega) ?_
                  have hF := hF.p (j := 54) (v := 1) (by decide)
                  refine And.intro (fun c30 => ?_) (fun c30 => ?_)
                  · refine hX 400 325 _ _ ?_
                    refine And.intro rfl ?_
                    exact hQ _ _ hF (Or.inr ⟨by omega, hS0, _, ⟨nn, t, hN, Or.inl ⟨h302, rfl⟩⟩, Or.inr ⟨t, n, wr, rfl, hW, hJD, (by
                      by_cases c : (n : Int) < t.l
                      · rw [if_pos c]; omega
                      · rw [if_neg c]; omega), (show (xput (xput (xput s3 22 2 r25) 22 3 v27) 0 54 1) 22 0 = wr ∧ (xput (xput (xput s3 22 2 r25) 22 3 v27) 0 54 1) 22 1 = n ∧ (xput (xput (xput s3 22 2 r25) 22 3 v27) 0 54 1) 22 2 = alq (evF (σ 2) t.rd n) 13 ∧ (xput (xput (xput s3 22 2 r25) 22 3 v27) 0 54 1) 22 3 = evF (σ 2) t.rd n 4 ∧ (xput (xput (xput s3 22 2 r25) 22 3 v27) 0 54 1) 0 54 = 1 from ⟨(show s3 22 0 = wr from h220), (show s3 22 1 = n from h221), (show r25 = alq (evF (σ 2) t.rd n) 13 from p25), (show v27 = evF (σ 2) t.rd n 4 from by rw [e27, h2]), rfl⟩), hK.tr rfl rfl rfl rfl, (by rw [if_pos (by omega)]; exact h2)⟩⟩)
                  · -- back
                    refine s_back (σ := (xput (xput (xput s3 22 2 r25) 22 3 v27) 0 54 1)) (fun σ31 f31 p31 => ?_)
                    have hF := hF.tr f31 (by decide) (by decide)
                    have hB2 : σ31 2 = σ 2 := by
                      funext q
                      by_cases c : q < 4 ∨ 584 ≤ q
                      · rw [p31.2 q c]
                        show s3 2 q = σ 2 q
                        rw [h2]; exact hen q (by omega)
                      · have z := p31.1 (q - 4) (by omega)
                        rw [show 4 + (q - 4) = q from by omega, Nat.zero_add] at z
                        rw [z]
                        show s3 9 _ = _
                        rw [h9 _ (by omega), show 4 + (q - 4) = q from by omega]
                    refine hX 400 325 _ _ ?_
                    refine And.intro rfl ?_
                    exact hQ _ _ hF (Or.inr ⟨by omega, (f31.2 2 (by decide)).trans hS0, _, ⟨nn, t, hN, Or.inl ⟨h302, rfl⟩⟩, Or.inr ⟨t, n, wr, rfl, hW, hJD, (by
                      by_cases c : (n : Int) < t.l
                      · rw [if_pos c]; omega
                      · rw [if_neg c]; omega), (by
                      rw [f31.1 22 (by decide) (by decide), f31.2 54 (by decide)]
                      exact (show (xput (xput (xput s3 22 2 r25) 22 3 v27) 0 54 1) 22 0 = wr ∧ (xput (xput (xput s3 22 2 r25) 22 3 v27) 0 54 1) 22 1 = n ∧ (xput (xput (xput s3 22 2 r25) 22 3 v27) 0 54 1) 22 2 = alq (evF (σ 2) t.rd n) 13 ∧ (xput (xput (xput s3 22 2 r25) 22 3 v27) 0 54 1) 22 3 = evF (σ 2) t.rd n 4 ∧ (xput (xput (xput s3 22 2 r25) 22 3 v27) 0 54 1) 0 54 = 1 from ⟨(show s3 22 0 = wr from h220), (show s3 22 1 = n from h221), (show r25 = alq (evF (σ 2) t.rd n) 13 from p25), (show v27 = evF (σ 2) t.rd n 4 from by rw [e27, h2]), rfl⟩)), hK.tr (f31.1 7 (by decide) (by decide)) (f31.1 8 (by decide) (by decide)) (f31.2 24 (by decide)) (f31.2 27 (by decide)), (by rw [if_neg (by omega)]; exact hB2)⟩⟩)
                · have hni : i = n := by omega
                  have hwr : wr = 0 := by omega
                  have hor := hO n (by omega)
                  obtain ⟨ho0, ho1, ho2, ho3⟩ := hor
                  intro z32 t32 e32 l32 h32
                  try have w32 : t32 = 0 := by omega
                  refine And.intro (Nat.le_of_ble_eq_true rfl) ?_
                  show xw _ _ _ _ _ _ _ _ _ _ [xvr 0, xvi lives, xvi wrong, xvi i, xvi z32, u14_5] _ _
                  refine And.intro (rfl) (And.intro (⟨by omega, by omega⟩) ?_)
                  intro v33 e33 l33 h33
                  have e33 : v33 = s3 4 z32.toNat := e33
                  replace e33 : v33 = t.rd (4 * n) := by
                    rw [e33, show z32.toNat = 4 * n from by omega]; exact hrd _ (by omega)
                  intro z34 t34 e34 l34 h34
                  try have w34 : t34 = 0 := by omega
                  refine And.intro (rfl) (And.intro (⟨by omega, by omega⟩) ?_)
                  intro v35 e35 l35 h35
                  have e35 : v35 = s3 4 z34.toNat := e35
                  replace e35 : v35 = t.rd (4 * n + 1) := by
                    rw [e35, show z34.toNat = 4 * n + 1 from by omega]; exact hrd _ (by omega)
                  intro z36 t36 e36 l36 h36
                  try have w36 : t36 = 0 := by omega
                  refine And.intro (rfl) (And.intro (⟨by omega, by omega⟩) ?_)
                  intro v37 e37 l37 h37
                  have e37 : v37 = s3 4 z36.toNat := e37
                  replace e37 : v37 = t.rd (4 * n + 2) := by
                    rw [e37, show z36.toNat = 4 * n + 2 from by omega]; exact hrd _ (by omega)
                  refine s_whyOfF (σ := s3) (a := v33) (b := v35) (kind := v37) (by rw [h2]; exact hTn.1.1) (by omega) (by omega) (fun r38 p38 => ?_)
                  replace p38 : r38 = evY (σ 2) t.rd n := by
                    rw [p38, h2, e33, e35, e37]
                    rfl
                  have hyr : 0 ≤ r38 ∧ r38 ≤ 4 := by rw [p38]; exact whyF_r
                  refine And.intro (Nat.le_of_ble_eq_true rfl) ?_
                  show xw _ _ _ _ _ _ _ _ _ _ [xvr 0, xvi lives, xvi wrong, xvi i, xvi z32, xvi r38] _ _
                  have lp_202 : ∀ (why : Int), (why = evW (σ 2) t.rd n) → X 202 [xvr 0, xvi lives, xvi wrong, xvi i, xvi z32, xvi why] s3 := by
                    intro why hv_202
                    refine hX 400 202 _ _ ?_
                    refine And.intro (fun c40 => ?_) (fun c40 => ?_)
                    · have lp_233 : ∀ (s4 : xS), (Fr [2, 4, 7, 8, 9, 22] [0, 2, 3, 4, 5, 11, 12, 13, 14, 15, 16, 17, 18, 24, 27, 52, 54] σ s4 ∧ (s4 2 = s3 2 ∧ s4 4 = s3 4 ∧ s4 9 = s3 9 ∧ s4 22 = s3 22 ∧ s4 7 = s3 7) ∧ (s4 0 52 = s3 0 52 ∧ s4 0 2 = s3 0 2 ∧ s4 0 24 = s3 0 24) ∧ ((lives = 1 ∧ KPT (σ 0 27) (s4 0 27) (σ 8) (s4 8) (σ 2)) ∨ (¬ lives = 1 ∧ s4 8 = σ 8 ∧ s4 0 27 = σ 0 27))) → X 233 [xvr 0, xvi lives, xvi wrong, xvi i, xvi z32, xvi why] s4 := by
                        intro s4 hv_233
                        obtain ⟨hF, ⟨k2, k4, k9, k22, k7⟩, ⟨k52, k02, k24⟩, hkk⟩ := hv_233
                        refine hX 400 233 _ _ ?_
                        refine And.intro (rfl) (And.intro (⟨by omega, by omega⟩) ?_)
                        intro v42 e42 l42 h42
                        have e42 : v42 = s4 4 z32.toNat := e42
                        replace e42 : v42 = t.rd (4 * n) := by
                          rw [e42, k4, show z32.toNat = 4 * n from by omega]; exact hrd _ (by omega)
                        intro z43 t43 e43 l43 h43
                        try have w43 : t43 = 0 := by omega
                        refine And.intro (rfl) (And.intro (⟨by omega, by omega⟩) ?_)
                        intro v44 e44 l44 h44
                        have e44 : v44 = s4 4 z43.toNat := e44
                        replace e44 : v44 = t.rd (4 * n + 1) := by
                          rw [e44, k4, show z43.toNat = 4 * n + 1 from by omega]; exact hrd _ (by omega)
                        intro z45 t45 e45 l45 h45
                        try have w45 : t45 = 0 := by omega
                        refine And.intro (rfl) (And.intro (⟨by omega, by omega⟩) ?_)
                        intro v46 e46 l46 h46
                        have e46 : v46 = s4 4 z45.toNat := e46
                        replace e46 : v46 = t.rd (4 * n + 2) := by
                          rw [e46, k4, show z45.toNat = 4 * n + 2 from by omega]; exact hrd _ (by omega)
                        refine And.intro (fun c47 => ?_) (fun c47 => ?_)
                        · have hwn := evW_nn (f := σ 2) (rd := t.rd) (n := n)
                          have hw0 : evW (σ 2) t.rd n = 0 := by omega
                          obtain ⟨w1, w2⟩ := evW_0 hw0
                          unfold evY at w1
                          obtain ⟨y1, y2, y3, y4⟩ := whyF_0 w1
                          have hh9 := (HH_v hTn.1.1 (p := (t.rd (4 * n)).toNat) (k := (t.rd (4 * n + 2)).toNat) (by omega) (by omega)).1
                          have hT6 := hTn.2.2.1
                          have hT4 := hTn.2.2.2
                          have eS2x : s4 2 = evF (σ 2) t.rd n := k2.trans h2
                          have en1 := hen 1 (by omega)
                          refine s_asksF (σ := s4) (a := v42) (b := v44) (kind := v46) (lies := 0) (told := 0) (by rw [eS2x]; exact hTn.1) (by rw [eS2x]; omega) (by omega) (by omega) (by omega) (by rw [eS2x]; omega) (by rw [eS2x, e42, e46]; show 1 ≤ HH (evF (σ 2) t.rd n) (t.rd (4 * n)).toNat (t.rd (4 * n + 2)).toNat; omega) (by decide) (fun r48 σ48 f48 p48 => ?_)
                          obtain ⟨p48, _, pr48⟩ := p48
                          have q2_48 : σ48 2 = evF (σ 2) t.rd (n + 1) := by
                            rw [p48, eS2x, e42, e44, e46]
                            rfl
                          rw [eS2x, e42, e44, e46] at pr48
                          have hF := hF.tr f48 (by decide) (by decide)
                          have hKn : EK σ σ48 t.rd lives (n + 1) := by
                            have e8 : σ48 8 = s4 8 := f48.1 8 (by decide) (by decide)
                            have e27 : σ48 0 27 = s4 0 27 := f48.2 27 (by decide)
                            unfold EK
                            rw [e8, e27]
                            rcases hkk with ⟨z1, z2⟩ | ⟨z1, z2, z3⟩
                            · rcases pr48 with ⟨w1, _⟩ | ⟨_, w2, w3⟩
                              · exact absurd w1 (by omega)
                              · exact Or.inl ⟨⟨z1, by omega⟩, z2, w2, w3⟩
                            · rcases pr48 with ⟨w1, w2, w3⟩ | ⟨w1, _⟩
                              · have hKz := hK.resolve_left (fun z => z1 z.1.1)
                                exact Or.inr ⟨fun z => z1 z.1, ⟨z2, w2.trans (k7.trans hKz.2.1.2)⟩, z3, w3.trans (k24.trans hKz.2.2.2)⟩
                              · exact absurd w1 (by omega)
                          have x22 : σ48 22 = s3 22 := (f48.1 22 (by decide) (by decide)).trans k22
                          have x9 : σ48 9 = s3 9 := (f48.1 9 (by decide) (by decide)).trans k9
                          have x4 : σ48 4 = s3 4 := (f48.1 4 (by decide) (by decide)).trans k4
                          have x52 : σ48 0 52 = s3 0 52 := (f48.2 52 (by decide)).trans k52
                          have x02 : σ48 0 2 = s3 0 2 := (f48.2 2 (by decide)).trans k02
                          refine And.intro (rfl) (And.intro (⟨by omega, by omega⟩) ?_)
                          intro v49 e49 l49 h49
                          have e49 : v49 = σ48 22 1 := e49
                          have ev49x : v49 = n := by rw [e49, x22]; omega
                          intro z50 t50 e50 l50 h50
                          try have w50 : t50 = 0 := by omega
                          refine And.intro (rfl) (And.intro (⟨by omega, by omega⟩) ?_)
                          have hF := hF.pt (t := 22) (j := 1) (v := z50) (by decide) (by decide)
                          refine hX 400 284 _ _ ?_
                          intro z52 t52 e52 l52 h52
                          try have w52 : t52 = 0 := by omega
                          show xw _ _ _ _ _ _ _ _ _ _ [xvr 0, xvi lives, xvi wrong, xvi z52, xvi z32, xvi why] _ _
                          exact ih_111 _ (show (t.l - z52).toNat < m111 from by omega) wrong z52 (xvi z32) (xvi why) (xput σ48 22 1 z50) rfl ⟨hF, (fun j hj => (congrFun x9 j).trans (h9 j hj)), x02.trans hS0, x52.trans hl, (fun j hj => (congrFun x4 j).trans (hrd j hj)), by omega, n + 1, 0, ⟨q2_48, (by rw [xput_o (by decide), x22]; omega), (by rw [show (1 : Nat) = 1 from rfl, xput_s]; omega)⟩, hKn.tr rfl rfl rfl rfl, (fun q hq => by
                                      by_cases c : q = n
                                      · rw [c]; exact hw0
                                      · exact hq0 q (by omega)), Or.inl ⟨by omega, by omega, rfl, by omega⟩⟩
                        · have hwn := evW_nn (f := σ 2) (rd := t.rd) (n := n)
                          have hw0 : evW (σ 2) t.rd n = 0 := by omega
                          obtain ⟨w1, w2⟩ := evW_0 hw0
                          unfold evY at w1
                          obtain ⟨y1, y2, y3, y4⟩ := whyF_0 w1
                          have hh9 := (HH_v hTn.1.1 (p := (t.rd (4 * n)).toNat) (k := (t.rd (4 * n + 2)).toNat) (by omega) (by omega)).1
                          have hT6 := hTn.2.2.1
                          have hT4 := hTn.2.2.2
                          have eS2x : s4 2 = evF (σ 2) t.rd n := k2.trans h2
                          have en1 := hen 1 (by omega)
                          refine s_asksF (σ := s4) (a := v42) (b := v44) (kind := v46) (lies := 0) (told := 1) (by rw [eS2x]; exact hTn.1) (by rw [eS2x]; omega) (by omega) (by omega) (by omega) (by rw [eS2x]; omega) (by rw [eS2x, e42, e46]; show 1 ≤ HH (evF (σ 2) t.rd n) (t.rd (4 * n)).toNat (t.rd (4 * n + 2)).toNat; omega) (by decide) (fun r53 σ53 f53 p53 => ?_)
                          obtain ⟨p53, _, pr53⟩ := p53
                          have q2_53 : σ53 2 = evF (σ 2) t.rd (n + 1) := by
                            rw [p53, eS2x, e42, e44, e46]
                            rfl
                          rw [eS2x, e42, e44, e46] at pr53
                          have hF := hF.tr f53 (by decide) (by decide)
                          have hKn : EK σ σ53 t.rd lives (n + 1) := by
                            have e8 : σ53 8 = s4 8 := f53.1 8 (by decide) (by decide)
                            have e27 : σ53 0 27 = s4 0 27 := f53.2 27 (by decide)
                            unfold EK
                            rw [e8, e27]
                            rcases hkk with ⟨z1, z2⟩ | ⟨z1, z2, z3⟩
                            · rcases pr53 with ⟨w1, _⟩ | ⟨_, w2, w3⟩
                              · exact absurd w1 (by omega)
                              · exact Or.inl ⟨⟨z1, by omega⟩, z2, w2, w3⟩
                            · rcases pr53 with ⟨w1, w2, w3⟩ | ⟨w1, _⟩
                              · have hKz := hK.resolve_left (fun z => z1 z.1.1)
                                exact Or.inr ⟨fun z => z1 z.1, ⟨z2, w2.trans (k7.trans hKz.2.1.2)⟩, z3, w3.trans (k24.trans hKz.2.2.2)⟩
                              · exact absurd w1 (by omega)
                          have x22 : σ53 22 = s3 22 := (f53.1 22 (by decide) (by decide)).trans k22
                          have x9 : σ53 9 = s3 9 := (f53.1 9 (by decide) (by decide)).trans k9
                          have x4 : σ53 4 = s3 4 := (f53.1 4 (by decide) (by decide)).trans k4
                          have x52 : σ53 0 52 = s3 0 52 := (f53.2 52 (by decide)).trans k52
                          have x02 : σ53 0 2 = s3 0 2 := (f53.2 2 (by decide)).trans k02
                          refine And.intro (rfl) (And.intro (⟨by omega, by omega⟩) ?_)
                          intro v54 e54 l54 h54
                          have e54 : v54 = σ53 22 1 := e54
                          have ev54x : v54 = n := by rw [e54, x22]; omega
                          intro z55 t55 e55 l55 h55
                          try have w55 : t55 = 0 := by omega
                          refine And.intro (rfl) (And.intro (⟨by omega, by omega⟩) ?_)
                          have hF := hF.pt (t := 22) (j := 1) (v := z55) (by decide) (by decide)
                          refine hX 400 284 _ _ ?_
                          intro z57 t57 e57 l57 h57
                          try have w57 : t57 = 0 := by omega
                          show xw _ _ _ _ _ _ _ _ _ _ [xvr 0, xvi lives, xvi wrong, xvi z57, xvi z32, xvi why] _ _
                          exact ih_111 _ (show (t.l - z57).toNat < m111 from by omega) wrong z57 (xvi z32) (xvi why) (xput σ53 22 1 z55) rfl ⟨hF, (fun j hj => (congrFun x9 j).trans (h9 j hj)), x02.trans hS0, x52.trans hl, (fun j hj => (congrFun x4 j).trans (hrd j hj)), by omega, n + 1, 0, ⟨q2_53, (by rw [xput_o (by decide), x22]; omega), (by rw [show (1 : Nat) = 1 from rfl, xput_s]; omega)⟩, hKn.tr rfl rfl rfl rfl, (fun q hq => by
                                      by_cases c : q = n
                                      · rw [c]; exact hw0
                                      · exact hq0 q (by omega)), Or.inl ⟨by omega, by omega, rfl, by omega⟩⟩
                      refine And.intro (fun c58 => ?_) (fun c58 => ?_)
                      · exact lp_233 s3 ⟨hF, ⟨rfl, rfl, rfl, rfl, rfl⟩, ⟨rfl, rfl, rfl⟩, (by
                          rcases hK with ⟨z1, z2, z3⟩ | ⟨z1, ⟨z2, z3⟩, z4, z5⟩
                          · exact Or.inl ⟨z1.1, z2⟩
                          · exact Or.inr ⟨(fun z => z1 ⟨z, by omega⟩), z2, z4⟩)⟩
                      · refine And.intro (fun c59 => ?_) (fun c59 => ?_)
                        · exact lp_233 s3 ⟨hF, ⟨rfl, rfl, rfl, rfl, rfl⟩, ⟨rfl, rfl, rfl⟩, (by
                            rcases hK with ⟨z1, z2, z3⟩ | ⟨z1, ⟨z2, z3⟩, z4, z5⟩
                            · exact Or.inl ⟨z1.1, z2⟩
                            · exact Or.inr ⟨(fun z => z1 ⟨z, by omega⟩), z2, z4⟩)⟩
                        · have hn00 : n = 0 := by omega
                          subst hn00
                          have hKz := hK.resolve_left (fun z => absurd z.1.2 (by decide))
                          obtain ⟨z1, ⟨z8, z7⟩, z27, z24⟩ := hKz
                          refine s_keepF (σ := s3) (by rw [z27]; exact hp1.um) (fun σ60 f60 p60 => ?_)
                          have hF := hF.tr f60 (by decide) (by decide)
                          rw [z27, z8, h2] at p60
                          have x233 : Fr [2, 4, 7, 8, 9, 22] [0, 2, 3, 4, 5, 11, 12, 13, 14, 15, 16, 17, 18, 24, 27, 52, 54] σ σ60 ∧ (σ60 2 = s3 2 ∧ σ60 4 = s3 4 ∧ σ60 9 = s3 9 ∧ σ60 22 = s3 22 ∧ σ60 7 = s3 7) ∧ (σ60 0 52 = s3 0 52 ∧ σ60 0 2 = s3 0 2 ∧ σ60 0 24 = s3 0 24) ∧ ((lives = 1 ∧ KPT (σ 0 27) (σ60 0 27) (σ 8) (σ60 8) (σ 2)) ∨ (¬ lives = 1 ∧ σ60 8 = σ 8 ∧ σ60 0 27 = σ 0 27)) := ⟨hF, ⟨f60.1 2 (by decide) (by decide), f60.1 4 (by decide) (by decide), f60.1 9 (by decide) (by decide), f60.1 22 (by decide) (by decide), f60.1 7 (by decide) (by decide)⟩, ⟨f60.2 52 (by decide), f60.2 2 (by decide), f60.2 24 (by decide)⟩, Or.inl ⟨by omega, p60⟩⟩
                          exact lp_233 σ60 x233
                    · refine And.intro (rfl) (And.intro (⟨by omega, by omega⟩) ?_)
                      have hF := hF.pt (t := 22) (j := 0) (v := why) (by decide) (by decide)
                      refine And.intro (Nat.le_of_ble_eq_true rfl) ?_
                      show xw _ _ _ _ _ _ _ _ _ _ [xvr 0, xvi lives, xvi i, xvi i, xvi z32, xvi why] _ _
                      refine hX 400 284 _ _ ?_
                      intro z62 t62 e62 l62 h62
                      try have w62 : t62 = 0 := by omega
                      show xw _ _ _ _ _ _ _ _ _ _ [xvr 0, xvi lives, xvi i, xvi z62, xvi z32, xvi why] _ _
                      exact ih_111 _ (show (t.l - z62).toNat < m111 from by omega) i z62 (xvi z32) (xvi why) (xput s3 22 0 why) rfl ⟨hF, h9, hS0, hl, hrd, by omega, n, why, ⟨h2, (by rw [show 0 = 0 from rfl, xput_s]), (by rw [xput_o (by decide)]; exact h221)⟩, hK.tr rfl rfl rfl rfl, hq0, Or.inr ⟨by omega, by omega, by omega, by omega, by omega⟩⟩
                  refine And.intro (fun c63 => ?_) (fun c63 => ?_)
                  · exact lp_202 r38 (show r38 = evW (σ 2) t.rd n from by first | (rw [evW_z (by omega) (by omega)]; omega) | (rw [evW_y (by omega)]; omega))
                  · intro z64 t64 e64 l64 h64
                    try have w64 : t64 = 0 := by omega
                    refine And.intro (rfl) (And.intro (⟨by omega, by omega⟩) ?_)
                    intro v65 e65 l65 h65
                    have e65 : v65 = s3 4 z64.toNat := e65
                    replace e65 : v65 = t.rd (4 * n + 1) := by
                      rw [e65, show z64.toNat = 4 * n + 1 from by omega]; exact hrd _ (by omega)
                    intro z66 t66 e66 l66 h66
                    try have w66 : t66 = 0 := by omega
                    refine And.intro (rfl) (And.intro (⟨by omega, by omega⟩) ?_)
                    intro v67 e67 l67 h67
                    have e67 : v67 = s3 4 z66.toNat := e67
                    replace e67 : v67 = t.rd (4 * n + 2) := by
                      rw [e67, show z66.toNat = 4 * n + 2 from by omega]; exact hrd _ (by omega)
                    have hhv : s3 2 (60 + 13 * v65.toNat + v67.toNat) = HH (evF (σ 2) t.rd n) (t.rd (4 * n + 1)).toNat (t.rd (4 * n + 2)).toNat := by rw [h2, e65, e67]; rfl
                    have hhr := (HH_v hTn.1.1 (p := (t.rd (4 * n + 1)).toNat) (k := (t.rd (4 * n + 2)).toNat) (by omega) (by omega)).1
                    refine s_handMF (σ := s3) (k := v65) (kind := v67) (more := 0) (by omega) (by omega) (by omega) (fun r68 σ68 f68 p68 => ?_)
                    obtain ⟨p68, g68⟩ := p68
                    have he68 : σ68 = s3 := by
                      funext z
                      by_cases c : z = 2
                      · subst c; rw [g68]; funext q; unfold up; split
                        · rename_i c; rw [c]; omega
                        · rfl
                      · by_cases c0 : z = 0
                        · subst c0; exact funext (fun j => f68.2 j (by simp))
                        · exact f68.1 z c0 (by simp; omega)
                    replace he68 := he68.symm
                    subst he68
                    have hrh : r68 = HH (evF (σ 2) t.rd n) (t.rd (4 * n + 1)).toNat (t.rd (4 * n + 2)).toNat := by omega
                    intro z69 t69 e69 l69 h69
                    try have w69 : t69 = 0 := by omega
                    refine And.intro (rfl) (And.intro (⟨by omega, by omega⟩) ?_)
                    intro v70 e70 l70 h70
                    have e70 : v70 = s3 4 z69.toNat := e70
                    replace e70 : v70 = t.rd (4 * n + 3) := by
                      rw [e70, show z69.toNat = 4 * n + 3 from by omega]; exact hrd _ (by omega)
                    refine And.intro (fun c71 => ?_) (fun c71 => ?_)
                    · exact lp_202 r38 (show r38 = evW (σ 2) t.rd n from by first | (rw [evW_z (by omega) (by omega)]; omega) | (rw [evW_y (by omega)]; omega))
                    · refine And.intro (Nat.le_of_ble_eq_true rfl) ?_
                      show xw _ _ _ _ _ _ _ _ _ _ [xvr 0, xvi lives, xvi wrong, xvi i, xvi z32, xvi 5] _ _
                      exact lp_202 5 (show (5 : Int) = evW (σ 2) t.rd n from (evW_5 (by omega) (by omega)).symm)
            exact lp_111 _ (-1) 0 (xvu) (xvu) s2 rfl ⟨hF, h9, hS0, hl, hrd, by omega, 0, 0, ⟨hS.1.1, hZ 0 (by omega), hZ 1 (by omega)⟩, Or.inr ⟨fun z => absurd z.2 (by decide), ⟨hS.1.2.2, hS.1.2.1⟩, hS.2.2, hS.2.1⟩, (fun q hq => absurd hq (by omega)), Or.inl ⟨rfl, rfl, rfl, by omega⟩⟩
          · refine And.intro (rfl) (And.intro (⟨by omega, by omega⟩) ?_)
            have hF := hF.pt (t := 22) (j := j.toNat) (v := 0) (by decide) (by decide)
            intro z73 t73 e73 l73 h73
            try have w73 : t73 = 0 := by omega
            show xw _ _ _ _ _ _ _ _ _ _ [xvr 0, xvi lives, xvi z73, xvu, xvu, xvu] _ _
            exact ih_89 _ (show (4 - z73).toNat < m89 from by omega) z73 (xput s2 22 j.toNat 0) rfl ⟨hF, h9, hS0, hl, hrd, hS, (fun q hq => by
                      by_cases e : q = j.toNat
                      · rw [show q = j.toNat from by omega, xput_s]
                      · rw [xput_o (by omega)]; exact hZ q (by omega)), by omega⟩
        exact lp_89 _ 0 σ11 rfl ⟨hF, h9, hS0, hl, hrd, ⟨⟨hS.1.1, hS.1.2.1, hS.1.2.2.1⟩, hS.2.1, hS.2.2.1⟩, (fun q hq => absurd hq (by omega)), by omega⟩
      · have hne : ¬ tkc (σ 1) (σ 0 2) 500 t.p = 302 := by have z := hR.1.tr; omega
        refine s_eveningLineF (σ := s1) (b := σ 1) (nm := σ 5) (n := σ 0 2) (m := 500) (ps := σ 2 1) (kd := σ 2 0) (s := t) hR hW.1 ⟨hp1.persons, congrFun hS.1.1 1⟩ ⟨hp1.kinds, congrFun hS.1.1 0⟩ hrd hl (fun q _ => congrFun (hF.1 5 (by decide) (by decide)) q) (fun r74 σ74 f74 p74 => ?_)
        have hF := hF.tr f74 (by decide) (by decide)
        have hS := hS.tr f74
        have hS0 : σ74 0 2 = 0 := (f74.2 2 (by decide)).trans hS0
        have kl : σ74 0 52 = t.l := (f74.2 52 (by decide)).trans hl
        refine And.intro (fun c75 => ?_) (fun c75 => ?_)
        · refine hX 400 62 _ _ ?_
          have hb0 : 0 ≤ σ 0 2 := hp1.len.1
          have htp := EVN.p hb0 nn t hN
          have hb16 : 0 ≤ σ74 0 16 ∧ σ74 0 16 ≤ σ 0 2 := by
            rcases p74 with q | q
            · exact absurd q.1 (by omega)
            · exact evl_pl htp.1 htp.2 (by decide) q.2
          intro v76 e76 l76 h76
          have e76 : v76 = σ74 0 16 := e76
          intro z77 t77 e77 l77 h77
          try have w77 : t77 = 0 := by omega
          refine And.intro rfl ?_
          exact hQ _ _ hF (Or.inr ⟨by omega, hS0, _, ⟨nn, t, hN, Or.inr ⟨hne, (σ74 0 15, σ74 0 16), (by
            rcases p74 with q | q
            · exact absurd q.1 (by omega)
            · exact est_l q.2), rfl⟩⟩, Or.inl ⟨_, rfl, (show z77 = -2 - σ74 0 16 from by omega), rfl, hS⟩⟩)
        · obtain ⟨u, hu, hR, hru⟩ : ∃ u, evl (σ 5) (σ 2 1) (σ 2 0) (σ 1) (σ 0 2) 500 t = .inr u ∧ RRv σ74 (σ 1) (σ 0 2) 500 u.p ∧ ∀ j : Nat, (j : Int) < 4 * t.l + 4 → σ74 4 j = u.rd j := by
            rcases p74 with q | q
            · exact q.2
            · exact absurd q.1 (by omega)
          have hul := (evl_r hu).2.1
          refine rSign (σ := σ74) hR (by decide) (fun c78 σ78 f78 hR => ?_) (fun c78 σ78 f78 hE => ?_)
          · have _ := c78
            have hF := hF.tr f78 (by decide) (by decide)
            have hS := hS.tr f78
            have hS0 : σ78 0 2 = 0 := (f78.2 2 (by decide)).trans hS0
            have k52_78 : σ78 0 52 = t.l := (f78.2 52 (by decide)).trans kl
            have k4_78 : σ78 4 = σ74 4 := f78.1 4 (by decide) (by decide)
            refine And.intro (fun _ => ?_) (fun c79 => absurd c79 (by decide))
            intro v80 e80 l80 h80
            have e80 : v80 = σ78 0 52 := e80
            intro z81 t81 e81 l81 h81
            try have w81 : t81 = 0 := by omega
            have hF := hF.p (j := 52) (v := z81) (by decide)
            exact ih_39 _ (show (31 - (z81)).toNat < m39 from by have z := hW.1; omega) (xput σ78 0 52 z81) rfl ⟨hF, hS.tr (show Fr [] [52] σ78 (xput σ78 0 52 z81) from Fr.rf.p (j := 52) (v := z81) (by decide)), hS0, nn + 1, evx (tkp (σ 1) (σ 0 2) 500 u.p) (u.l + 1) u.rd, ⟨t, hN, hne, est_1 hu (by omega)⟩, hR.fr (show Fr [] [52] σ78 (xput σ78 0 52 z81) from Fr.rf.p (j := 52) (v := z81) (by decide)), (fun j hj => by
                        have hj : (j : Int) < 4 * (u.l + 1) := hj
                        show σ78 4 j = u.rd j
                        rw [k4_78]
                        exact hru j (by omega)), (show z81 = u.l + 1 from by omega), hW.s hp1.persons.1 (est_1 hu (by omega))⟩
          · have _ := c78
            have hF := hF.tr f78 (by decide) (by decide)
            have hS := hS.tr f78
            have hS0 : σ78 0 2 = 0 := (f78.2 2 (by decide)).trans hS0
            have k52_78 : σ78 0 52 = t.l := (f78.2 52 (by decide)).trans kl
            have k4_78 : σ78 4 = σ74 4 := f78.1 4 (by decide) (by decide)
            refine And.intro (fun c83 => absurd (by decide) c83) (fun _ => ?_)
            refine hX 400 62 _ _ ?_
            have hb0 : 0 ≤ σ 0 2 := hp1.len.1
            have htp := EVN.p hb0 nn t hN
            have hup := evl_p htp.1 htp.2 hu
            have hb16 : 0 ≤ σ78 0 16 ∧ σ78 0 16 ≤ σ 0 2 := by rw [hE.2]; exact tka_r hup.1 hup.2 (by decide)
            intro v84 e84 l84 h84
            have e84 : v84 = σ78 0 16 := e84
            intro z85 t85 e85 l85 h85
            try have w85 : t85 = 0 := by omega
            refine And.intro rfl ?_
            exact hQ _ _ hF (Or.inr ⟨by omega, hS0, _, ⟨nn, t, hN, Or.inr ⟨hne, (σ78 0 15, σ78 0 16), (by
              rw [est_0 hu (by omega), show (1, tka (σ 1) (σ 0 2) 500 u.p) = (σ78 0 15, σ78 0 16) from by rw [hE.1, hE.2]]), rfl⟩⟩, Or.inl ⟨_, rfl, (show z85 = -2 - σ78 0 16 from by omega), rfl, hS⟩⟩)
    exact lp_39 _ σ7 rfl ⟨hF, hS, hS0, 0, es0, rfl, hR, (fun j hj => absurd hj (by show ¬ (j : Int) < 4 * 0; omega)), k52, ERW.z⟩
  · refine And.intro rfl ?_
    exact hQ _ _ hF (Or.inl ⟨by omega, rfl, SMx.rf.tr (show Fr [] [0] σ (xput σ 0 0 0) from Fr.rf.p (j := 0) (v := 0) (by decide)), rfl⟩)

