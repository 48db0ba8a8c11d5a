set_option maxHeartbeats 4000000 in
set_option maxRecDepth 100000 in
theorem sX10_judge {σ : xS} {Q : Option xV → xS → Prop} (hp0 : JG (xsel [2, 3, 4, 5, 6, 7, 8, 9, 10, 11, 12, 13, 14] σ)) (hp1 : RWx (σ 35) (σ 34 2)) (hp2 : 0 ≤ σ 34 2 ∧ σ 34 2 ≤ 30) (hQ : ∀ r : Int, ∀ σ' : xS, Fr [15, 16, 17, 18, 19, 20, 21, 22, 23, 24, 25, 26, 27, 44, 45] [] σ σ' → ((0 ≤ r ∧ r ≤ σ 34 2) ∧ JG (xsel [15, 16, 17, 18, 19, 20, 21, 22, 23, 24, 25, 26, 27] σ')) → Q (some (xvi r)) σ') : xT kX10_judge [xvr 0] σ Q := by
  refine ⟨Nat.le_of_ble_eq_true rfl, fun X hX => ?_⟩
  show X 0 [xvr 0, xvu, xvu, xvu, xvu, xvu] σ
  have hF : Fr [15, 16, 17, 18, 19, 20, 21, 22, 23, 24, 25, 26, 27, 44, 45] [] σ σ := Fr.rf
  refine hX 400 0 _ _ ?_
  have hb0 : 0 ≤ σ 2 0 ∧ σ 2 0 ≤ 13 := hp0.1.1.1
  have hb1 : 0 ≤ σ 2 1 ∧ σ 2 1 ≤ 6 := hp0.1.1.2.1
  have hb8 : 0 ≤ σ 2 8 ∧ σ 2 8 ≤ σ 2 9 ∧ σ 2 9 ≤ 52 := hp0.1.1.2.2.1
  have hb9 : 0 ≤ σ 11 2 ∧ σ 11 2 ≤ 52 := hp0.1.2.2.2
  have hb2 : σ 2 2 = 0 ∨ σ 2 2 = 1 := hp0.2.1
  refine xMVf (sh := shB1) (ci := 2) (τ := [15, 16, 17, 18, 19, 20, 21, 22, 23, 24, 25, 26, 27, 2, 3, 4, 5, 6, 7, 8, 9, 10, 11, 12, 13, 14]) (E := xT kX2_copyFrom) (t := 15) (r := [xvr 2]) (σ := σ) rfl rfl (fun Q1 hQ1 => sX2_copyFrom (σ := xsel [15, 16, 17, 18, 19, 20, 21, 22, 23, 24, 25, 26, 27, 2, 3, 4, 5, 6, 7, 8, 9, 10, 11, 12, 13, 14] σ)  (show 0 ≤ (σ 11 2) ∧ (σ 11 2) ≤ 52 from by omega) (show (σ 2 2) = 0 ∨ (σ 2 2) = 1 from by omega) (fun ς1 f1 p1 => hQ1 _ _ ?_))
  replace f1 : Fr [15, 16, 17, 18, 19, 20, 21, 22, 23, 24, 25, 26, 27] [] σ (xbk [15, 16, 17, 18, 19, 20, 21, 22, 23, 24, 25, 26, 27, 2, 3, 4, 5, 6, 7, 8, 9, 10, 11, 12, 13, 14] σ ς1) := f1.bk (by decide) (by decide)
  replace p1 : (∀ i : Nat, (i : Int) < 78 → (xbk [15, 16, 17, 18, 19, 20, 21, 22, 23, 24, 25, 26, 27, 2, 3, 4, 5, 6, 7, 8, 9, 10, 11, 12, 13, 14] σ ς1) 17 i = σ 4 i) ∧ (∀ i : Nat, (i : Int) < 52 → (xbk [15, 16, 17, 18, 19, 20, 21, 22, 23, 24, 25, 26, 27, 2, 3, 4, 5, 6, 7, 8, 9, 10, 11, 12, 13, 14] σ ς1) 19 i = σ 6 i) ∧ (∀ i : Nat, (i : Int) < 78 → (xbk [15, 16, 17, 18, 19, 20, 21, 22, 23, 24, 25, 26, 27, 2, 3, 4, 5, 6, 7, 8, 9, 10, 11, 12, 13, 14] σ ς1) 25 i = σ 12 i) ∧ ((xbk [15, 16, 17, 18, 19, 20, 21, 22, 23, 24, 25, 26, 27, 2, 3, 4, 5, 6, 7, 8, 9, 10, 11, 12, 13, 14] σ ς1) 15 0 = (σ 2 0) ∧ (xbk [15, 16, 17, 18, 19, 20, 21, 22, 23, 24, 25, 26, 27, 2, 3, 4, 5, 6, 7, 8, 9, 10, 11, 12, 13, 14] σ ς1) 15 1 = (σ 2 1) ∧ (xbk [15, 16, 17, 18, 19, 20, 21, 22, 23, 24, 25, 26, 27, 2, 3, 4, 5, 6, 7, 8, 9, 10, 11, 12, 13, 14] σ ς1) 15 2 = (σ 2 2) ∧ (xbk [15, 16, 17, 18, 19, 20, 21, 22, 23, 24, 25, 26, 27, 2, 3, 4, 5, 6, 7, 8, 9, 10, 11, 12, 13, 14] σ ς1) 15 8 = (σ 2 8) ∧ (xbk [15, 16, 17, 18, 19, 20, 21, 22, 23, 24, 25, 26, 27, 2, 3, 4, 5, 6, 7, 8, 9, 10, 11, 12, 13, 14] σ ς1) 15 9 = (σ 2 9)) ∧ (xbk [15, 16, 17, 18, 19, 20, 21, 22, 23, 24, 25, 26, 27, 2, 3, 4, 5, 6, 7, 8, 9, 10, 11, 12, 13, 14] σ ς1) 24 2 = (σ 11 2) := p1
  generalize xbk [15, 16, 17, 18, 19, 20, 21, 22, 23, 24, 25, 26, 27, 2, 3, 4, 5, 6, 7, 8, 9, 10, 11, 12, 13, 14] σ ς1 = σ1 at f1  p1 ⊢
  have hF := hF.tr f1 (by decide) (by decide)
  have hJ : JG (xsel [15, 16, 17, 18, 19, 20, 21, 22, 23, 24, 25, 26, 27] σ1) := by
    obtain ⟨c1, c2, c3, c4, c5⟩ := p1
    exact JG.cp (f := xsel [2, 3, 4, 5, 6, 7, 8, 9, 10, 11, 12, 13, 14] σ) hp0 c1 c2 c3 c4 c5
  have hC := hJ.1
  clear p1
  refine And.intro (Nat.le_of_ble_eq_true rfl) ?_
  show xw _ _ _ _ _ _ _ _ _ _ [xvr 0, xvi 0, xvu, xvu, xvu, xvu] _ _
  refine And.intro (Nat.le_of_ble_eq_true rfl) ?_
  show xw _ _ _ _ _ _ _ _ _ _ [xvr 0, xvi 0, xvi 0, xvu, xvu, xvu] _ _
  have lp_15 : ∀ (m15 : Nat) (ri : Int) (wr : Int) (u2_3 : xV) (u2_4 : xV) (u2_5 : xV) (s1 : xS), ((2 * (σ 34 2 - ri) + (if wr = 0 then 1 else 0)).toNat) = m15 → (Fr [15, 16, 17, 18, 19, 20, 21, 22, 23, 24, 25, 26, 27, 44, 45] [] σ s1 ∧ JG (xsel [15, 16, 17, 18, 19, 20, 21, 22, 23, 24, 25, 26, 27] s1) ∧ (0 ≤ ri ∧ ri ≤ σ 34 2 ∧ (wr = 0 ∨ 0 < wr))) → X 15 [xvr 0, xvi ri, xvi wr, u2_3, u2_4, u2_5] s1 := by
    intro m15
    induction m15 using Nat.strongRecOn with
    | _ m15 ih_15 =>
    intro ri wr u2_3 u2_4 u2_5 s1 hm_15 hv_15
    obtain ⟨hF, hJ, hv_15⟩ := hv_15
    have hC := hJ.1
    have e35 : s1 35 = σ 35 := hF.1 35 (by decide) (by decide)
    have e342 : s1 34 2 = σ 34 2 := congrFun (hF.1 34 (by decide) (by decide)) 2
    have c0 : 0 ≤ s1 15 0 ∧ s1 15 0 ≤ 13 := hC.1.1
    refine hX 400 15 _ _ ?_
    have lp_128 : ∀ (_ : Unit), (True) → X 128 [xvr 0, xvi ri, xvi wr, u2_3, u2_4, u2_5] s1 := by
      intro _ hv_128
      refine hX 400 128 _ _ ?_
      refine And.intro (rfl) (And.intro (⟨by omega, by omega⟩) ?_)
      have hF := hF.pt (t := 45) (j := 0) (v := wr) (by decide) (by decide)
      refine And.intro (rfl) (And.intro (⟨by omega, by omega⟩) ?_)
      have hF := hF.pt (t := 45) (j := 1) (v := ri) (by decide) (by decide)
      refine xMVp (sh := shB1) (ci := 2) (τ := [15, 16, 17, 18, 19, 20, 21, 22, 23, 24, 25, 26, 27]) (E := xT kX2_allBooks) (t := 15) (r := []) (σ := (xput (xput s1 45 0 wr) 45 1 ri)) rfl rfl xbk_sel (fun Q6 hQ6 => sX2_allBooks (σ := xsel [15, 16, 17, 18, 19, 20, 21, 22, 23, 24, 25, 26, 27] (xput (xput s1 45 0 wr) 45 1 ri))  (show 0 ≤ (s1 15 0) ∧ (s1 15 0) ≤ 13 from by omega) (fun r6 => hQ6 _ ?_))
      refine And.intro (rfl) (And.intro (⟨by omega, by omega⟩) ?_)
      have hF := hF.pt (t := 45) (j := 2) (v := r6) (by decide) (by decide)
      intro v8 e8 l8 h8
      have e8 : v8 = s1 15 14 := e8
      refine And.intro (rfl) (And.intro (⟨by omega, by omega⟩) ?_)
      have hF := hF.pt (t := 45) (j := 3) (v := v8) (by decide) (by decide)
      refine And.intro rfl ?_
      exact hQ _ _ hF ⟨by omega, (by first | exact hJ | exact JG.of hJ (fun _ => rfl) rfl rfl rfl rfl)⟩
    intro v10 e10 l10 h10
    have e10 : v10 = s1 34 2 := e10
    refine And.intro (fun c11 => ?_) (fun c11 => ?_)
    · exact lp_128 () (show True from by first | trivial | omega | (refine ⟨by assumption, ?_⟩; omega) | (refine ⟨?_, ?_⟩ <;> omega))
    · refine And.intro (fun c12 => ?_) (fun c12 => ?_)
      · exact lp_128 () (show True from by first | trivial | omega | (refine ⟨by assumption, ?_⟩; omega) | (refine ⟨?_, ?_⟩ <;> omega))
      · refine xMVp (sh := shB1) (ci := 1) (τ := [34, 35, 30, 31, 1, 2, 3, 4, 5, 6, 7, 8, 9, 10, 11, 12, 13, 14]) (E := xT kX1_askerOf) (t := 34) (r := [xvi ri]) (σ := s1) rfl rfl xbk_sel (fun Q13 hQ13 => sX1_askerOf (σ := xsel [34, 35, 30, 31, 1, 2, 3, 4, 5, 6, 7, 8, 9, 10, 11, 12, 13, 14] s1) (line := ri) (show 0 ≤ ri ∧ ri ≤ 29 from by omega) (fun r13 p13 => hQ13 _ ?_))
        have p13 : r13 = s1 35 (4 * ri).toNat := p13
        have g1 : 0 ≤ r13 ∧ r13 ≤ 5 := by
          have q := (hp1 ri.toNat (by omega)).1
          rw [show (4 * ri.toNat) = (4 * ri).toNat from by omega] at q
          rw [p13, e35]; exact q
        refine And.intro (Nat.le_of_ble_eq_true rfl) ?_
        show xw _ _ _ _ _ _ _ _ _ _ [xvr 0, xvi ri, xvi wr, xvi r13, u2_4, u2_5] _ _
        refine xMVp (sh := shB1) (ci := 1) (τ := [34, 35, 30, 31, 1, 2, 3, 4, 5, 6, 7, 8, 9, 10, 11, 12, 13, 14]) (E := xT kX1_otherOf) (t := 34) (r := [xvi ri]) (σ := s1) rfl rfl xbk_sel (fun Q14 hQ14 => sX1_otherOf (σ := xsel [34, 35, 30, 31, 1, 2, 3, 4, 5, 6, 7, 8, 9, 10, 11, 12, 13, 14] s1) (line := ri) (show 0 ≤ ri ∧ ri ≤ 29 from by omega) (fun r14 p14 => hQ14 _ ?_))
        have p14 : r14 = s1 35 (4 * ri + 1).toNat := p14
        have g2 : 0 ≤ r14 ∧ r14 ≤ 5 := by
          have q := (hp1 ri.toNat (by omega)).2.1
          rw [show (4 * ri.toNat + 1) = (4 * ri + 1).toNat from by omega] at q
          rw [p14, e35]; exact q
        refine And.intro (Nat.le_of_ble_eq_true rfl) ?_
        show xw _ _ _ _ _ _ _ _ _ _ [xvr 0, xvi ri, xvi wr, xvi r13, xvi r14, u2_5] _ _
        refine xMVp (sh := shB1) (ci := 1) (τ := [34, 35, 30, 31, 1, 2, 3, 4, 5, 6, 7, 8, 9, 10, 11, 12, 13, 14]) (E := xT kX1_kindOf) (t := 34) (r := [xvi ri]) (σ := s1) rfl rfl xbk_sel (fun Q15 hQ15 => sX1_kindOf (σ := xsel [34, 35, 30, 31, 1, 2, 3, 4, 5, 6, 7, 8, 9, 10, 11, 12, 13, 14] s1) (line := ri) (show 0 ≤ ri ∧ ri ≤ 29 from by omega) (fun r15 p15 => hQ15 _ ?_))
        have p15 : r15 = s1 35 (4 * ri + 2).toNat := p15
        have g3 : 0 ≤ r15 ∧ r15 ≤ 12 := by
          have q := (hp1 ri.toNat (by omega)).2.2
          rw [show (4 * ri.toNat + 2) = (4 * ri + 2).toNat from by omega] at q
          rw [p15, e35]; exact q
        refine And.intro (Nat.le_of_ble_eq_true rfl) ?_
        show xw _ _ _ _ _ _ _ _ _ _ [xvr 0, xvi ri, xvi wr, xvi r13, xvi r14, xvi r15] _ _
        refine xMVp (sh := shB1) (ci := 2) (τ := [15, 16, 17, 18, 19, 20, 21, 22, 23, 24, 25, 26, 27]) (E := xT kX2_whyNot) (t := 15) (r := [xvi r13, xvi r14, xvi r15]) (σ := s1) rfl rfl xbk_sel (fun Q16 hQ16 => sX2_whyNot (σ := xsel [15, 16, 17, 18, 19, 20, 21, 22, 23, 24, 25, 26, 27] s1) (p := r13) (q := r14) (kind := r15) (show 0 ≤ r13 ∧ r13 ≤ 5 from by omega) (show 0 ≤ r15 ∧ r15 ≤ 12 from by omega) (fun r16 p16 => hQ16 _ ?_))
        have p16 : 0 ≤ r16 ∧ r16 ≤ 4 := p16
        refine And.intro (Nat.le_of_ble_eq_true rfl) ?_
        show xw _ _ _ _ _ _ _ _ _ _ [xvr 0, xvi ri, xvi r16, xvi r13, xvi r14, xvi r15] _ _
        have lp_100 : ∀ (wr2 : Int), (0 ≤ wr2) → X 100 [xvr 0, xvi ri, xvi wr2, xvi r13, xvi r14, xvi r15] s1 := by
          intro wr2 hv_100
          refine hX 400 100 _ _ ?_
          have lp_125 : ∀ (ri2 : Int) (s2 : xS), (Fr [15, 16, 17, 18, 19, 20, 21, 22, 23, 24, 25, 26, 27, 44, 45] [] σ s2 ∧ JG (xsel [15, 16, 17, 18, 19, 20, 21, 22, 23, 24, 25, 26, 27] s2) ∧ (wr2 = 0 ∧ ri2 = ri + 1 ∨ ¬ wr2 = 0 ∧ ri2 = ri)) → X 125 [xvr 0, xvi ri2, xvi wr2, xvi r13, xvi r14, xvi r15] s2 := by
            intro ri2 s2 hv_125
            obtain ⟨hF, hJ, hv_125⟩ := hv_125
            refine hX 400 125 _ _ ?_
            exact ih_15 _ (show (2 * (σ 34 2 - ri2) + (if wr2 = 0 then 1 else 0)).toNat < m15 from by omega) ri2 wr2 (xvi r13) (xvi r14) (xvi r15) s2 rfl ⟨hF, hJ, by omega⟩
          refine And.intro (fun c19 => ?_) (fun c19 => ?_)
          · exact lp_125 ri s1 ⟨hF, (by first | exact hJ2 | exact hJ), by omega⟩
          · refine xMVf (sh := shB1) (ci := 2) (τ := [15, 16, 17, 18, 19, 20, 21, 22, 23, 24, 25, 26, 27, 44]) (E := xT kX2_doAsking) (t := 15) (r := [xvi r13, xvi r14, xvi r15, xvi 0, xvr 44]) (σ := s1) rfl rfl (fun Q20 hQ20 => sX2_doAsking (σ := xsel [15, 16, 17, 18, 19, 20, 21, 22, 23, 24, 25, 26, 27, 44] s1) (p := r13) (q := r14) (kind := r15) (lies := 0) (show CG (xsel [15, 16, 17, 18, 19, 20, 21, 22, 23, 24, 25, 26, 27, 44] s1) from hC) (show 0 ≤ r13 ∧ r13 ≤ 5 from by omega) (show 0 ≤ r14 ∧ r14 ≤ 5 from by omega) (show 0 ≤ r15 ∧ r15 ≤ 12 from by omega) (fun r20 ς20 f20 p20 => hQ20 _ _ ?_))
            have kq20_0 : (xbk [15, 16, 17, 18, 19, 20, 21, 22, 23, 24, 25, 26, 27, 44] s1 ς20) 15 0 = s1 15 0 := f20.2 0 (by decide)
            have kq20_1 : (xbk [15, 16, 17, 18, 19, 20, 21, 22, 23, 24, 25, 26, 27, 44] s1 ς20) 15 1 = s1 15 1 := f20.2 1 (by decide)
            have kq20_2 : (xbk [15, 16, 17, 18, 19, 20, 21, 22, 23, 24, 25, 26, 27, 44] s1 ς20) 15 2 = s1 15 2 := f20.2 2 (by decide)
            have kq20_9 : (xbk [15, 16, 17, 18, 19, 20, 21, 22, 23, 24, 25, 26, 27, 44] s1 ς20) 15 9 = s1 15 9 := f20.2 9 (by decide)
            replace f20 : Fr [15, 17, 18, 20, 21, 22, 23, 24, 25, 26, 27, 44] [] s1 (xbk [15, 16, 17, 18, 19, 20, 21, 22, 23, 24, 25, 26, 27, 44] s1 ς20) := f20.bk (by decide) (by decide)
            replace p20 : CG (xsel [15, 16, 17, 18, 19, 20, 21, 22, 23, 24, 25, 26, 27, 44] (xbk [15, 16, 17, 18, 19, 20, 21, 22, 23, 24, 25, 26, 27, 44] s1 ς20)) := p20
            generalize xbk [15, 16, 17, 18, 19, 20, 21, 22, 23, 24, 25, 26, 27, 44] s1 ς20 = σ20 at f20 kq20_0 kq20_1 kq20_2 kq20_9 p20 ⊢
            have hF := hF.tr f20 (by decide) (by decide)
            have hJ2 : JG (xsel [15, 16, 17, 18, 19, 20, 21, 22, 23, 24, 25, 26, 27] σ20) := by
              refine ⟨(show CG (xsel [15, 16, 17, 18, 19, 20, 21, 22, 23, 24, 25, 26, 27] σ20) from p20), ?_, fun i hi => ?_⟩
              · show σ20 15 2 = 0 ∨ σ20 15 2 = 1
                rw [kq20_2]; exact hJ.2.1
              · have hi : (i : Int) < σ20 15 9 := hi
                show σ20 19 i < σ20 15 0
                rw [kq20_9] at hi
                rw [kq20_0, f20.1 19 (by decide) (by decide)]; exact hJ.2.2 i hi
            intro z21 t21 e21 l21 h21
            try have w21 : t21 = 0 := by omega
            show xw _ _ _ _ _ _ _ _ _ _ [xvr 0, xvi z21, xvi wr2, xvi r13, xvi r14, xvi r15] _ _
            exact lp_125 z21 σ20 ⟨hF, (by first | exact hJ2 | exact hJ), by omega⟩
        refine And.intro (fun c22 => ?_) (fun c22 => ?_)
        · exact lp_100 r16 (show 0 ≤ r16 from by first | trivial | omega | (refine ⟨by assumption, ?_⟩; omega) | (refine ⟨?_, ?_⟩ <;> omega))
        · refine xMVp (sh := shB1) (ci := 2) (τ := [15, 16, 17, 18, 19, 20, 21, 22, 23, 24, 25, 26, 27]) (E := xT kX2_held) (t := 15) (r := [xvi r14, xvi r15]) (σ := s1) rfl rfl xbk_sel (fun Q23 hQ23 => sX2_held (σ := xsel [15, 16, 17, 18, 19, 20, 21, 22, 23, 24, 25, 26, 27] s1) (p := r14) (kind := r15) (show 0 ≤ r14 ∧ r14 ≤ 5 from by omega) (show 0 ≤ r15 ∧ r15 ≤ 12 from by omega) (fun r23 p23 => hQ23 _ ?_))
          have p23 : r23 = s1 17 (13 * r14 + r15).toNat := p23
          refine xMVp (sh := shB1) (ci := 1) (τ := [34, 35, 30, 31, 1, 2, 3, 4, 5, 6, 7, 8, 9, 10, 11, 12, 13, 14]) (E := xT kX1_givenOf) (t := 34) (r := [xvi ri]) (σ := s1) rfl rfl xbk_sel (fun Q24 hQ24 => sX1_givenOf (σ := xsel [34, 35, 30, 31, 1, 2, 3, 4, 5, 6, 7, 8, 9, 10, 11, 12, 13, 14] s1) (line := ri) (show 0 ≤ ri ∧ ri ≤ 29 from by omega) (fun r24 p24 => hQ24 _ ?_))
          have p24 : r24 = s1 35 (4 * ri + 3).toNat := p24
          refine And.intro (fun c25 => ?_) (fun c25 => ?_)
          · exact lp_100 r16 (show 0 ≤ r16 from by first | trivial | omega | (refine ⟨by assumption, ?_⟩; omega) | (refine ⟨?_, ?_⟩ <;> omega))
          · refine And.intro (Nat.le_of_ble_eq_true rfl) ?_
            show xw _ _ _ _ _ _ _ _ _ _ [xvr 0, xvi ri, xvi 5, xvi r13, xvi r14, xvi r15] _ _
            exact lp_100 5 (show 0 ≤ 5 from by first | trivial | omega | (refine ⟨by assumption, ?_⟩; omega) | (refine ⟨?_, ?_⟩ <;> omega))
  exact lp_15 _ 0 0 (xvu) (xvu) (xvu) σ1 rfl ⟨hF, hJ, by omega⟩
