/-- what the class's judge leaves -/
def JPX (f rd : Nat → Int) (l : Int) (σ σ' : xS) (r : Int) (n : Nat) (wr : Int) : Prop := r = n ∧ JDG f rd l n wr ∧ (σ' 45 0 = wr ∧ σ' 45 1 = n ∧ σ' 45 2 = alq (evF f rd n) 13 ∧ σ' 45 3 = evF f rd n 4) ∧ gmC 15 σ' (evF f rd n) ∧ (∀ i : Nat, i < 6 → σ' 16 i = σ 3 i) ∧ (∀ i : Nat, i < 8 → σ' 44 i = evG (σ 44) f rd n i)
theorem JPX.to {f rd : Nat → Int} {l : Int} {s s' σ σ' : xS} {r : Int} {n : Nat} {wr : Int} (h : JPX f rd l s s' r n wr) (e3 : σ 3 = s 3) (e44 : σ 44 = s 44) (e : ∀ t, 15 ≤ t → t < 28 → σ' t = s' t) (e44' : σ' 44 = s' 44) (e45 : σ' 45 = s' 45) : JPX f rd l σ σ' r n wr := by
  obtain ⟨h1, h2, h3, h4, h5, h6⟩ := h
  refine ⟨h1, h2, by rw [e45]; exact h3, h4.eq (fun t a b => e t a (by omega)), fun i hi => ?_, fun i hi => ?_⟩
  · rw [e 16 (by omega) (by omega), e3]; exact h5 i hi
  · rw [e44', e44]; exact h6 i hi
set_option maxHeartbeats 4000000 in
set_option maxRecDepth 100000 in
theorem sX10_judgeF {f rd : Nat → Int} {l : Int} {σ : xS} {Q : Option xV → xS → Prop} (hp0 : gmC 2 σ f) (hp1 : TV f) (hp2 : PZ f) (hp3 : EVO f rd l) (hp4 : ∀ j : Nat, (j : Int) < 4 * l → σ 35 j = rd j) (hp5 : σ 34 2 = l ∧ (0 ≤ l ∧ l ≤ 30)) (hQ : ∀ r : Int, ∀ σ' : xS, Fr [15, 16, 17, 18, 19, 20, 21, 22, 23, 24, 25, 26, 27, 44, 45] [] σ σ' → (∃ (n : Nat) (wr : Int), JPX f rd l σ σ' r n wr) → Q (some (xvi r)) σ') : xT kX10_judge [xvr 0] σ Q := by
  refine ⟨Nat.le_of_ble_eq_true rfl, fun X hX => ?_⟩
  show X 0 [xvr 0, xvu, xvu, xvu, xvu, xvu] σ
  have hF : Fr [15, 16, 17, 18, 19, 20, 21, 22, 23, 24, 25, 26, 27, 44, 45] [] σ σ := Fr.rf
  refine hX 400 0 _ _ ?_
  refine gx_copy15 (sh := shB1) (f := f) (σ := σ) rfl hp0 hp1.2.1 (fun σ1 f1 hG1 hN1 => ?_)
  have hF := hF.tr f1 (by decide) (by decide)
  refine And.intro (Nat.le_of_ble_eq_true rfl) ?_
  show xw _ _ _ _ _ _ _ _ _ _ [xvr 0, xvi 0, xvu, xvu, xvu, xvu] _ _
  refine And.intro (Nat.le_of_ble_eq_true rfl) ?_
  show xw _ _ _ _ _ _ _ _ _ _ [xvr 0, xvi 0, xvi 0, xvu, xvu, xvu] _ _
  have lp_15 : ∀ (m15 : Nat) (ri : Int) (wr : Int) (u2_3 : xV) (u2_4 : xV) (u2_5 : xV) (s1 : xS), ((2 * (σ 34 2 - ri) + (if wr = 0 then 1 else 0)).toNat) = m15 → (Fr [15, 16, 17, 18, 19, 20, 21, 22, 23, 24, 25, 26, 27, 44, 45] [] σ s1 ∧ ∃ n : Nat, (gmC 15 s1 (evF f rd n) ∧ (∀ i : Nat, i < 6 → s1 16 i = σ 3 i) ∧ (∀ i : Nat, i < 8 → s1 44 i = evG (σ 44) f rd n i)) ∧ ri = n ∧ (n : Int) ≤ l ∧ (∀ q : Nat, q < n → evW f rd q = 0) ∧ (wr = 0 ∨ ((n : Int) < l ∧ wr = evW f rd n ∧ ¬ wr = 0))) → X 15 [xvr 0, xvi ri, xvi wr, u2_3, u2_4, u2_5] s1 := by
    intro m15
    induction m15 using Nat.strongRecOn with
    | _ m15 ih_15 =>
    intro ri wr u2_3 u2_4 u2_5 s1 hm_15 hv_15
    obtain ⟨hF, n, ⟨hG, hNm, hRp⟩, hri, hnl, hq0, hwr⟩ := hv_15
    obtain ⟨hTn, hen⟩ := evF_tv hp1 hp3 n hnl hq0
    have hZn : PZ (evF f rd n) := hp2.q (fun i hi => hen i (by omega))
    have m0 := hp1.1.1.1.1
    have m1 := hp1.1.1.1.2.1
    have e35 : s1 35 = σ 35 := hF.1 35 (by decide) (by decide)
    have e342 : s1 34 2 = σ 34 2 := congrFun (hF.1 34 (by decide) (by decide)) 2
    have en1 := hen 1 (by omega)
    have en2 := hen 2 (by omega)
    refine hX 400 15 _ _ ?_
    have lp_128 : ∀ (_ : Unit), (l ≤ ri ∨ ¬ wr = 0) → X 128 [xvr 0, xvi ri, xvi wr, u2_3, u2_4, u2_5] s1 := by
      intro _ hv_128
      refine hX 400 128 _ _ ?_
      refine And.intro (rfl) (And.intro (⟨by omega, by omega⟩) ?_)
      have hF := hF.pt (t := 45) (j := 0) (v := wr) (by decide) (by decide)
      refine And.intro (rfl) (And.intro (⟨by omega, by omega⟩) ?_)
      have hF := hF.pt (t := 45) (j := 1) (v := ri) (by decide) (by decide)
      have hGx : gmC 15 (xput (xput s1 45 0 wr) 45 1 ri) (evF f rd n) := hG.eq (fun t _ _ => (xput_ne (by omega)).trans (xput_ne (by omega)))
      refine gx_allBooks15 (sh := shB1) (f := evF f rd n) (σ := (xput (xput s1 45 0 wr) 45 1 ri)) rfl hGx hTn.1 hZn (fun r6 p6 => ?_)
      refine And.intro (rfl) (And.intro (⟨by omega, by omega⟩) ?_)
      have hF := hF.pt (t := 45) (j := 2) (v := r6) (by decide) (by decide)
      intro v8 e8 l8 h8
      have e8 : v8 = s1 15 14 := e8
      refine And.intro (rfl) (And.intro (⟨by omega, by omega⟩) ?_)
      have hF := hF.pt (t := 45) (j := 3) (v := v8) (by decide) (by decide)
      refine And.intro rfl ?_
      refine hQ _ _ hF ⟨n, wr, hri, ⟨by omega, fun q hq => hq0 q (by omega), ?_⟩, ⟨?_, ?_, ?_, ?_⟩, hG.eq (fun t h1 h2 => by rw [xput_ne (show t ≠ 45 by omega), xput_ne (show t ≠ 45 by omega), xput_ne (show t ≠ 45 by omega), xput_ne (show t ≠ 45 by omega)]), hNm, hRp⟩
      · rcases hwr with z | z
        · exact Or.inl ⟨by omega, z⟩
        · exact Or.inr ⟨z.1, by rw [show ((n : Int)).toNat = n from by omega]; exact z.2.1, z.2.2⟩
      · exact (show wr = wr from rfl)
      · exact (show ri = n from hri)
      · exact (show r6 = alq (evF f rd n) 13 from p6)
      · exact (show v8 = evF f rd n 4 from by rw [e8]; exact hG.2)
    intro v10 e10 l10 h10
    have e10 : v10 = s1 34 2 := e10
    refine And.intro (fun c11 => ?_) (fun c11 => ?_)
    · exact lp_128 () (show l ≤ ri ∨ ¬ wr = 0 from by first | trivial | omega | (refine ⟨by assumption, ?_⟩; omega) | (refine ⟨?_, ?_⟩ <;> omega))
    · refine And.intro (fun c12 => ?_) (fun c12 => ?_)
      · exact lp_128 () (show l ≤ ri ∨ ¬ wr = 0 from by first | trivial | omega | (refine ⟨by assumption, ?_⟩; omega) | (refine ⟨?_, ?_⟩ <;> omega))
      · have hlt : (n : Int) < l := by omega
        have hwr0 : wr = 0 := by omega
        obtain ⟨ho0, ho1, ho2, ho3⟩ := hp3 n hlt
        refine xMVp (sh := shB1) (ci := 1) (τ := [34, 35, 30, 31, 1, 2, 3, 4, 5, 6, 7, 8, 9, 10, 11, 12, 13, 14]) (E := xT kX1_askerOf) (t := 34) (r := [xvi ri]) (σ := s1) rfl rfl xbk_sel (fun Q13 hQ13 => sX1_askerOf (σ := xsel [34, 35, 30, 31, 1, 2, 3, 4, 5, 6, 7, 8, 9, 10, 11, 12, 13, 14] s1) (line := ri) (show 0 ≤ ri ∧ ri ≤ 29 from by omega) (fun r13 p13 => hQ13 _ ?_))
        have p13 : r13 = s1 35 (4 * ri).toNat := p13
        replace p13 : r13 = rd (4 * n) := by
          rw [p13, e35, show (4 * ri).toNat = 4 * n from by omega]; exact hp4 _ (by omega)
        refine And.intro (Nat.le_of_ble_eq_true rfl) ?_
        show xw _ _ _ _ _ _ _ _ _ _ [xvr 0, xvi ri, xvi wr, xvi r13, u2_4, u2_5] _ _
        refine xMVp (sh := shB1) (ci := 1) (τ := [34, 35, 30, 31, 1, 2, 3, 4, 5, 6, 7, 8, 9, 10, 11, 12, 13, 14]) (E := xT kX1_otherOf) (t := 34) (r := [xvi ri]) (σ := s1) rfl rfl xbk_sel (fun Q14 hQ14 => sX1_otherOf (σ := xsel [34, 35, 30, 31, 1, 2, 3, 4, 5, 6, 7, 8, 9, 10, 11, 12, 13, 14] s1) (line := ri) (show 0 ≤ ri ∧ ri ≤ 29 from by omega) (fun r14 p14 => hQ14 _ ?_))
        have p14 : r14 = s1 35 (4 * ri + 1).toNat := p14
        replace p14 : r14 = rd (4 * n + 1) := by
          rw [p14, e35, show (4 * ri + 1).toNat = 4 * n + 1 from by omega]; exact hp4 _ (by omega)
        refine And.intro (Nat.le_of_ble_eq_true rfl) ?_
        show xw _ _ _ _ _ _ _ _ _ _ [xvr 0, xvi ri, xvi wr, xvi r13, xvi r14, u2_5] _ _
        refine xMVp (sh := shB1) (ci := 1) (τ := [34, 35, 30, 31, 1, 2, 3, 4, 5, 6, 7, 8, 9, 10, 11, 12, 13, 14]) (E := xT kX1_kindOf) (t := 34) (r := [xvi ri]) (σ := s1) rfl rfl xbk_sel (fun Q15 hQ15 => sX1_kindOf (σ := xsel [34, 35, 30, 31, 1, 2, 3, 4, 5, 6, 7, 8, 9, 10, 11, 12, 13, 14] s1) (line := ri) (show 0 ≤ ri ∧ ri ≤ 29 from by omega) (fun r15 p15 => hQ15 _ ?_))
        have p15 : r15 = s1 35 (4 * ri + 2).toNat := p15
        replace p15 : r15 = rd (4 * n + 2) := by
          rw [p15, e35, show (4 * ri + 2).toNat = 4 * n + 2 from by omega]; exact hp4 _ (by omega)
        refine And.intro (Nat.le_of_ble_eq_true rfl) ?_
        show xw _ _ _ _ _ _ _ _ _ _ [xvr 0, xvi ri, xvi wr, xvi r13, xvi r14, xvi r15] _ _
        refine gx_whyNot15 (sh := shB1) (f := evF f rd n) (σ := s1) (p := r13) (q := r14) (kind := r15) rfl hG (by omega) (by omega) (fun r16 p16 => ?_)
        replace p16 : r16 = evY f rd n := by
          rw [p16, p13, p14, p15]
          rfl
        refine And.intro (Nat.le_of_ble_eq_true rfl) ?_
        show xw _ _ _ _ _ _ _ _ _ _ [xvr 0, xvi ri, xvi r16, xvi r13, xvi r14, xvi r15] _ _
        have lp_100 : ∀ (wr2 : Int), (wr2 = evW f rd n) → X 100 [xvr 0, xvi ri, xvi wr2, xvi r13, xvi r14, xvi r15] s1 := by
          intro wr2 hv_100
          refine hX 400 100 _ _ ?_
          have lp_125 : ∀ (ri2 : Int) (s2 : xS), (Fr [15, 16, 17, 18, 19, 20, 21, 22, 23, 24, 25, 26, 27, 44, 45] [] σ s2 ∧ ((wr2 = 0 ∧ ri2 = ri + 1 ∧ gmC 15 s2 (evF f rd (n + 1)) ∧ (∀ i : Nat, i < 6 → s2 16 i = σ 3 i) ∧ (∀ i : Nat, i < 8 → s2 44 i = evG (σ 44) f rd (n + 1) i)) ∨ (¬ wr2 = 0 ∧ ri2 = ri ∧ gmC 15 s2 (evF f rd n) ∧ (∀ i : Nat, i < 6 → s2 16 i = σ 3 i) ∧ (∀ i : Nat, i < 8 → s2 44 i = evG (σ 44) f rd n i)))) → X 125 [xvr 0, xvi ri2, xvi wr2, xvi r13, xvi r14, xvi r15] s2 := by
            intro ri2 s2 hv_125
            obtain ⟨hF, hv_125⟩ := hv_125
            refine hX 400 125 _ _ ?_
            exact ih_15 _ (show (2 * (σ 34 2 - ri2) + (if wr2 = 0 then 1 else 0)).toNat < m15 from by omega) ri2 wr2 (xvi r13) (xvi r14) (xvi r15) s2 rfl (by
                    rcases hv_125 with ⟨u1, u2, u3⟩ | ⟨u1, u2, u3⟩
                    · exact ⟨hF, n + 1, u3, by omega, by omega, (fun q hq => by
                        by_cases c : q = n
                        · rw [c]; omega
                        · exact hq0 q (by omega)), Or.inl u1⟩
                    · exact ⟨hF, n, u3, by omega, by omega, hq0, Or.inr ⟨by omega, by omega, u1⟩⟩)
          refine And.intro (fun c19 => ?_) (fun c19 => ?_)
          · exact lp_125 ri s1 ⟨hF, Or.inr ⟨by omega, rfl, hG, hNm, hRp⟩⟩
          · have hw0 : evW f rd n = 0 := by omega
            obtain ⟨w1, w2⟩ := evW_0 hw0
            unfold evY at w1
            obtain ⟨y1, y2, y3, y4⟩ := whyF_0 w1
            have hh9 := (HH_v hTn.1.1 (p := (rd (4 * n)).toNat) (k := (rd (4 * n + 2)).toNat) (by omega) (by omega)).1
            have hT6 := hTn.2.2.1
            have hT4 := hTn.2.2.2
            refine gx_doAsking15 (sh := shB1) (f := evF f rd n) (σ := s1) (p := r13) (q := r14) (kind := r15) (lies := 0) rfl hG hTn.1 (by omega) (by omega) (by omega) (by omega) (by omega) (by have := hTn.2.1; omega) (by omega) (by rw [p13, p15]; show 1 ≤ HH (evF f rd n) (rd (4 * n)).toNat (rd (4 * n + 2)).toNat; omega) (Or.inl rfl) (fun r20 σ20 f20 g20 _ q20 _ => ?_)
            rw [p13, p14, p15] at g20 q20
            have hF := hF.tr f20 (by decide) (by decide)
            have x125 : gmC 15 σ20 (evF f rd (n + 1)) ∧ (∀ i : Nat, i < 6 → σ20 16 i = σ 3 i) ∧ (∀ i : Nat, i < 8 → σ20 44 i = evG (σ 44) f rd (n + 1) i) := ⟨g20, (fun i hi => (congrFun (f20.1 16 (by decide) (by decide)) i).trans (hNm i hi)), q20⟩
            intro z21 t21 e21 l21 h21
            try have w21 : t21 = 0 := by omega
            show xw _ _ _ _ _ _ _ _ _ _ [xvr 0, xvi z21, xvi wr2, xvi r13, xvi r14, xvi r15] _ _
            exact lp_125 z21 σ20 ⟨hF, Or.inl ⟨by omega, by omega, x125⟩⟩
        refine And.intro (fun c22 => ?_) (fun c22 => ?_)
        · exact lp_100 r16 (show r16 = evW f rd n from by first | (rw [evW_z (by omega) (by omega)]; omega) | (rw [evW_y (by omega)]; omega))
        · refine gx_held15 (sh := shB1) (f := evF f rd n) (σ := s1) (p := r14) (kind := r15) rfl hG (by omega) (by omega) (fun r23 p23 => ?_)
          rw [p14, p15] at p23
          refine xMVp (sh := shB1) (ci := 1) (τ := [34, 35, 30, 31, 1, 2, 3, 4, 5, 6, 7, 8, 9, 10, 11, 12, 13, 14]) (E := xT kX1_givenOf) (t := 34) (r := [xvi ri]) (σ := s1) rfl rfl xbk_sel (fun Q24 hQ24 => sX1_givenOf (σ := xsel [34, 35, 30, 31, 1, 2, 3, 4, 5, 6, 7, 8, 9, 10, 11, 12, 13, 14] s1) (line := ri) (show 0 ≤ ri ∧ ri ≤ 29 from by omega) (fun r24 p24 => hQ24 _ ?_))
          have p24 : r24 = s1 35 (4 * ri + 3).toNat := p24
          replace p24 : r24 = rd (4 * n + 3) := by
            rw [p24, e35, show (4 * ri + 3).toNat = 4 * n + 3 from by omega]; exact hp4 _ (by omega)
          refine And.intro (fun c25 => ?_) (fun c25 => ?_)
          · exact lp_100 r16 (show r16 = evW f rd n from by first | (rw [evW_z (by omega) (by omega)]; omega) | (rw [evW_y (by omega)]; omega))
          · refine And.intro (Nat.le_of_ble_eq_true rfl) ?_
            show xw _ _ _ _ _ _ _ _ _ _ [xvr 0, xvi ri, xvi 5, xvi r13, xvi r14, xvi r15] _ _
            exact lp_100 5 (show (5 : Int) = evW f rd n from (evW_5 (by omega) (by omega)).symm)
  exact lp_15 _ 0 0 (xvu) (xvu) (xvu) σ1 rfl ⟨hF, 0, ⟨hG1, hN1, fun i hi => (congrFun (f1.1 44 (by decide) (by decide)) i)⟩, rfl, by omega, (fun q hq => absurd hq (by omega)), Or.inl rfl⟩

