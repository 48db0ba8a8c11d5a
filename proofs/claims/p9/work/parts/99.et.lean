set_option maxHeartbeats 4000000 in
set_option maxRecDepth 100000 in
theorem pX10_deal_b {w : Nat → Bool} {σ : xS} {n seed : Int} {Q : Option xV → xS → Prop} {Z : Nat → List xV → xS → Prop} (hp0 : JG (xsel [2, 3, 4, 5, 6, 7, 8, 9, 10, 11, 12, 13, 14] σ)) (hQ : ∀ r : Int, ∀ σ' : xS, Fr [2, 3, 4, 5, 6, 7, 8, 9, 10, 11, 12, 13, 14] [] σ σ' → (r = 1 ∧ JG (xsel [2, 3, 4, 5, 6, 7, 8, 9, 10, 11, 12, 13, 14] σ')) → Q (some (xvi r)) σ') : xTE (kX10_deal_b w) Q Z 35 [xvr 0, xvi n, xvi seed] σ := by
  intro X hX hZZ
  have hF : Fr [2, 3, 4, 5, 6, 7, 8, 9, 10, 11, 12, 13, 14] [] σ σ := Fr.rf
  refine hX 400 35 _ _ ?_
  have hb0 : 0 ≤ σ 2 0 ∧ σ 2 0 ≤ 13 := hp0.1.1.1
  have hb1 : 0 ≤ σ 2 1 ∧ σ 2 1 ≤ 6 := hp0.1.1.2.1
  have hb8 : 0 ≤ σ 2 8 ∧ σ 2 8 ≤ σ 2 9 ∧ σ 2 9 ≤ 52 := hp0.1.1.2.2.1
  have hb9 : 0 ≤ σ 11 2 ∧ σ 11 2 ≤ 52 := hp0.1.2.2.2
  refine xMVf (sh := (shW wlVF0 w)) (ci := 2) (τ := [2, 3, 4, 5, 6, 7, 8, 9, 10, 11, 12, 13, 14]) (E := xT kX2_dealOut) (t := 2) (r := [xvi n, xvi seed]) (σ := σ) rfl rfl (fun Q1 hQ1 => sX2_dealOutK (σ := xsel [2, 3, 4, 5, 6, 7, 8, 9, 10, 11, 12, 13, 14] σ) (n := n) (seed := seed) (show 0 ≤ (σ 2 0) ∧ (σ 2 0) ≤ 13 from by omega) (show 0 ≤ (σ 2 1) ∧ (σ 2 1) ≤ 6 from by omega) (fun ς1 f1 p1 => hQ1 _ _ ?_))
  have kq1_0 : (xbk [2, 3, 4, 5, 6, 7, 8, 9, 10, 11, 12, 13, 14] σ ς1) 2 0 = σ 2 0 := f1.2 0 (by decide)
  have kq1_1 : (xbk [2, 3, 4, 5, 6, 7, 8, 9, 10, 11, 12, 13, 14] σ ς1) 2 1 = σ 2 1 := f1.2 1 (by decide)
  have kq1_2 : (xbk [2, 3, 4, 5, 6, 7, 8, 9, 10, 11, 12, 13, 14] σ ς1) 2 2 = σ 2 2 := f1.2 2 (by decide)
  replace f1 : Fr [2, 4, 5, 6] [] σ (xbk [2, 3, 4, 5, 6, 7, 8, 9, 10, 11, 12, 13, 14] σ ς1) := f1.bk (by decide) (by decide)
  replace p1 : C0x (xsel [2, 3, 4, 5, 6, 7, 8, 9, 10, 11, 12, 13, 14] (xbk [2, 3, 4, 5, 6, 7, 8, 9, 10, 11, 12, 13, 14] σ ς1)) ∧ ∀ i : Nat, (i : Int) < (xbk [2, 3, 4, 5, 6, 7, 8, 9, 10, 11, 12, 13, 14] σ ς1) 2 9 → (xbk [2, 3, 4, 5, 6, 7, 8, 9, 10, 11, 12, 13, 14] σ ς1) 6 i < (xbk [2, 3, 4, 5, 6, 7, 8, 9, 10, 11, 12, 13, 14] σ ς1) 2 0 := p1
  generalize xbk [2, 3, 4, 5, 6, 7, 8, 9, 10, 11, 12, 13, 14] σ ς1 = σ1 at f1 kq1_0 kq1_1 kq1_2 p1 ⊢
  have hF := hF.tr f1 (by decide) (by decide)
  have hag : σ1 2 2 = 0 ∨ σ1 2 2 = 1 := by rw [kq1_2]; exact hp0.2.1
  have hC0 := p1.1
  have hck := p1.2
  refine xMVf (sh := (shW wlVF0 w)) (ci := 2) (τ := [2, 3, 4, 5, 6, 7, 8, 9, 10, 11, 12, 13, 14]) (E := xT kX2_start) (t := 2) (r := []) (σ := σ1) rfl rfl (fun Q2 hQ2 => sX2_start (σ := xsel [2, 3, 4, 5, 6, 7, 8, 9, 10, 11, 12, 13, 14] σ1)  (show C0x (xsel [2, 3, 4, 5, 6, 7, 8, 9, 10, 11, 12, 13, 14] σ1) from hC0) (fun ς2 f2 p2 => hQ2 _ _ ?_))
  have kq2_0 : (xbk [2, 3, 4, 5, 6, 7, 8, 9, 10, 11, 12, 13, 14] σ1 ς2) 2 0 = σ1 2 0 := f2.2 0 (by decide)
  have kq2_1 : (xbk [2, 3, 4, 5, 6, 7, 8, 9, 10, 11, 12, 13, 14] σ1 ς2) 2 1 = σ1 2 1 := f2.2 1 (by decide)
  have kq2_2 : (xbk [2, 3, 4, 5, 6, 7, 8, 9, 10, 11, 12, 13, 14] σ1 ς2) 2 2 = σ1 2 2 := f2.2 2 (by decide)
  have kq2_9 : (xbk [2, 3, 4, 5, 6, 7, 8, 9, 10, 11, 12, 13, 14] σ1 ς2) 2 9 = σ1 2 9 := f2.2 9 (by decide)
  replace f2 : Fr [2, 4, 5, 7, 8, 9, 10, 11, 12, 13, 14] [] σ1 (xbk [2, 3, 4, 5, 6, 7, 8, 9, 10, 11, 12, 13, 14] σ1 ς2) := f2.bk (by decide) (by decide)
  replace p2 : CG (xsel [2, 3, 4, 5, 6, 7, 8, 9, 10, 11, 12, 13, 14] (xbk [2, 3, 4, 5, 6, 7, 8, 9, 10, 11, 12, 13, 14] σ1 ς2)) := p2
  generalize xbk [2, 3, 4, 5, 6, 7, 8, 9, 10, 11, 12, 13, 14] σ1 ς2 = σ2 at f2 kq2_0 kq2_1 kq2_2 kq2_9 p2 ⊢
  have hF := hF.tr f2 (by decide) (by decide)
  have hJ : JG (xsel [2, 3, 4, 5, 6, 7, 8, 9, 10, 11, 12, 13, 14] σ2) := by
    refine ⟨(show CG (xsel [2, 3, 4, 5, 6, 7, 8, 9, 10, 11, 12, 13, 14] σ2) from p2), ?_, fun i hi => ?_⟩
    · show σ2 2 2 = 0 ∨ σ2 2 2 = 1
      rw [kq2_2]; exact hag
    · have hi : (i : Int) < σ2 2 9 := hi
      show σ2 6 i < σ2 2 0
      rw [kq2_9] at hi
      rw [kq2_0, f2.1 6 (by decide) (by decide)]; exact hck i hi
  refine And.intro rfl ?_
  refine And.intro (by omega) ?_
  exact hQ _ _ hF ⟨rfl, hJ⟩
set_option maxHeartbeats 4000000 in
set_option maxRecDepth 100000 in
theorem pX10_play_a {w : Nat → Bool} {σ : xS} {n : Int} {Q : Option xV → xS → Prop} {Z : Nat → List xV → xS → Prop} (hp0 : JG (xsel [2, 3, 4, 5, 6, 7, 8, 9, 10, 11, 12, 13, 14] σ)) (hp1 : 0 ≤ σ 0 1 ∧ σ 0 1 ≤ 940) (hQ : ∀ r : Int, ∀ σ' : xS, Fr [2, 3, 4, 5, 6, 7, 8, 9, 10, 11, 12, 13, 14, 15, 16, 17, 18, 19, 20, 21, 22, 23, 24, 25, 26, 27, 43] [1] σ σ' → (JG (xsel [2, 3, 4, 5, 6, 7, 8, 9, 10, 11, 12, 13, 14] σ') ∧ σ' 0 1 = 0) → Q (some (xvi r)) σ')(hZ : ∀ (done : Int) (u : xV) (σ' : xS), Fr [2, 3, 4, 5, 6, 7, 8, 9, 10, 11, 12, 13, 14, 15, 16, 17, 18, 19, 20, 21, 22, 23, 24, 25, 26, 27, 43] [1] σ σ' → JG (xsel [2, 3, 4, 5, 6, 7, 8, 9, 10, 11, 12, 13, 14] σ') → JG (xsel [15, 16, 17, 18, 19, 20, 21, 22, 23, 24, 25, 26, 27] σ') → σ' 0 1 = 0 → Z 147 [xvr 0, xvi n, xvi 1, xvi done, u] σ') : xTE (kX10_play_a w) Q Z 0 [xvr 0, xvi n, xvu, xvu, xvu] σ := by
  intro X hX hZZ
  have hF : Fr [2, 3, 4, 5, 6, 7, 8, 9, 10, 11, 12, 13, 14, 15, 16, 17, 18, 19, 20, 21, 22, 23, 24, 25, 26, 27, 43] [1] σ σ := Fr.rf
  refine hX 400 0 _ _ ?_
  have hb0 : 0 ≤ σ 2 0 ∧ σ 2 0 ≤ 13 := hp0.1.1.1
  have hb1 : 0 ≤ σ 2 1 ∧ σ 2 1 ≤ 6 := hp0.1.1.2.1
  have hb8 : 0 ≤ σ 2 8 ∧ σ 2 8 ≤ σ 2 9 ∧ σ 2 9 ≤ 52 := hp0.1.1.2.2.1
  have hb9 : 0 ≤ σ 11 2 ∧ σ 11 2 ≤ 52 := hp0.1.2.2.2
  have hag : σ 2 2 = 0 ∨ σ 2 2 = 1 := hp0.2.1
  refine And.intro (fun c1 => ?_) (fun c1 => ?_)
  · refine hX 400 23 _ _ ?_
    refine And.intro (Nat.le_of_ble_eq_true rfl) ?_
    show xw _ _ _ _ _ _ _ _ _ _ [xvr 0, xvi n, xvi 0, xvu, xvu] _ _
    have hF := hF.p (j := 1) (v := 0) (by decide)
    refine And.intro (fun c3 => absurd (by decide) c3) (fun _ => ?_)
    refine And.intro rfl ?_
    exact hQ _ _ hF ⟨(show JG (xsel [2, 3, 4, 5, 6, 7, 8, 9, 10, 11, 12, 13, 14] (xput σ 0 1 0)) from hp0), (show 0 = 0 from by omega)⟩
  · refine And.intro (fun c4 => ?_) (fun c4 => ?_)
    · refine hX 400 23 _ _ ?_
      refine And.intro (Nat.le_of_ble_eq_true rfl) ?_
      show xw _ _ _ _ _ _ _ _ _ _ [xvr 0, xvi n, xvi 0, xvu, xvu] _ _
      have hF := hF.p (j := 1) (v := 0) (by decide)
      refine And.intro (fun c6 => absurd (by decide) c6) (fun _ => ?_)
      refine And.intro rfl ?_
      exact hQ _ _ hF ⟨(show JG (xsel [2, 3, 4, 5, 6, 7, 8, 9, 10, 11, 12, 13, 14] (xput σ 0 1 0)) from hp0), (show 0 = 0 from by omega)⟩
    · refine xMVp (sh := (shW wlVF0 w)) (ci := 10) (τ := [0, 1, 2, 3, 4, 5, 6, 7, 8, 9, 10, 11, 12, 13, 14, 15, 16, 17, 18, 19, 20, 21, 22, 23, 24, 25, 26, 27, 28, 29, 30, 31, 32, 33, 34, 35, 36, 37, 38, 39, 40, 41, 42, 43, 44, 45, 46]) (E := xT kX10_hasRulesOnTape) (t := 0) (r := []) (σ := σ) rfl rfl xbk_sel (fun Q7 hQ7 => sX10_hasRulesOnTape (σ := xsel [0, 1, 2, 3, 4, 5, 6, 7, 8, 9, 10, 11, 12, 13, 14, 15, 16, 17, 18, 19, 20, 21, 22, 23, 24, 25, 26, 27, 28, 29, 30, 31, 32, 33, 34, 35, 36, 37, 38, 39, 40, 41, 42, 43, 44, 45, 46] σ)  (show JG (xsel [2, 3, 4, 5, 6, 7, 8, 9, 10, 11, 12, 13, 14] (xsel [0, 1, 2, 3, 4, 5, 6, 7, 8, 9, 10, 11, 12, 13, 14, 15, 16, 17, 18, 19, 20, 21, 22, 23, 24, 25, 26, 27, 28, 29, 30, 31, 32, 33, 34, 35, 36, 37, 38, 39, 40, 41, 42, 43, 44, 45, 46] σ)) from by exact hp0) (show 0 ≤ (σ 0 1) ∧ (σ 0 1) ≤ 940 from by omega) (fun r7 p7 => hQ7 _ ?_))
      have p7 : (r7 = 1 ∧ (σ 0 1) = (σ 2 1)) ∨ (r7 = 0 ∧ (0 : Int) ≤ 0) := p7
      refine And.intro (fun c8 => ?_) (fun c8 => ?_)
      · replace p7 : (0 : Int) ≤ 0 := by
          rcases p7 with q | q
          · exact absurd q.1 (by omega)
          · exact q.2
        refine hX 400 23 _ _ ?_
        refine And.intro (Nat.le_of_ble_eq_true rfl) ?_
        show xw _ _ _ _ _ _ _ _ _ _ [xvr 0, xvi n, xvi 0, xvu, xvu] _ _
        have hF := hF.p (j := 1) (v := 0) (by decide)
        refine And.intro (fun c10 => absurd (by decide) c10) (fun _ => ?_)
        refine And.intro rfl ?_
        exact hQ _ _ hF ⟨(show JG (xsel [2, 3, 4, 5, 6, 7, 8, 9, 10, 11, 12, 13, 14] (xput σ 0 1 0)) from hp0), (show 0 = 0 from by omega)⟩
      · replace p7 : (σ 0 1) = (σ 2 1) := by
          rcases p7 with q | q
          · exact q.2
          · exact absurd q.1 (by omega)
        refine And.intro (Nat.le_of_ble_eq_true rfl) ?_
        show xw _ _ _ _ _ _ _ _ _ _ [xvr 0, xvi n, xvi 1, xvu, xvu] _ _
        have hF := hF.p (j := 1) (v := 0) (by decide)
        refine And.intro (fun _ => ?_) (fun c12 => absurd c12 (by decide))
        refine xMVf (sh := (shW wlVF0 w)) (ci := 2) (τ := [15, 16, 17, 18, 19, 20, 21, 22, 23, 24, 25, 26, 27, 2, 3, 4, 5, 6, 7, 8, 9, 10, 11, 12, 13, 14]) (E := xT kX2_copyFrom) (t := 15) (r := [xvr 2]) (σ := (xput σ 0 1 0)) rfl rfl (fun Q13 hQ13 => sX2_copyFrom (σ := xsel [15, 16, 17, 18, 19, 20, 21, 22, 23, 24, 25, 26, 27, 2, 3, 4, 5, 6, 7, 8, 9, 10, 11, 12, 13, 14] (xput σ 0 1 0))  (show 0 ≤ (σ 11 2) ∧ (σ 11 2) ≤ 52 from by omega) (show (σ 2 2) = 0 ∨ (σ 2 2) = 1 from by omega) (fun ς13 f13 p13 => hQ13 _ _ ?_))
        replace f13 : Fr [15, 16, 17, 18, 19, 20, 21, 22, 23, 24, 25, 26, 27] [] (xput σ 0 1 0) (xbk [15, 16, 17, 18, 19, 20, 21, 22, 23, 24, 25, 26, 27, 2, 3, 4, 5, 6, 7, 8, 9, 10, 11, 12, 13, 14] (xput σ 0 1 0) ς13) := f13.bk (by decide) (by decide)
        replace p13 : (∀ i : Nat, (i : Int) < 78 → (xbk [15, 16, 17, 18, 19, 20, 21, 22, 23, 24, 25, 26, 27, 2, 3, 4, 5, 6, 7, 8, 9, 10, 11, 12, 13, 14] (xput σ 0 1 0) ς13) 17 i = σ 4 i) ∧ (∀ i : Nat, (i : Int) < 52 → (xbk [15, 16, 17, 18, 19, 20, 21, 22, 23, 24, 25, 26, 27, 2, 3, 4, 5, 6, 7, 8, 9, 10, 11, 12, 13, 14] (xput σ 0 1 0) ς13) 19 i = σ 6 i) ∧ (∀ i : Nat, (i : Int) < 78 → (xbk [15, 16, 17, 18, 19, 20, 21, 22, 23, 24, 25, 26, 27, 2, 3, 4, 5, 6, 7, 8, 9, 10, 11, 12, 13, 14] (xput σ 0 1 0) ς13) 25 i = σ 12 i) ∧ ((xbk [15, 16, 17, 18, 19, 20, 21, 22, 23, 24, 25, 26, 27, 2, 3, 4, 5, 6, 7, 8, 9, 10, 11, 12, 13, 14] (xput σ 0 1 0) ς13) 15 0 = (σ 2 0) ∧ (xbk [15, 16, 17, 18, 19, 20, 21, 22, 23, 24, 25, 26, 27, 2, 3, 4, 5, 6, 7, 8, 9, 10, 11, 12, 13, 14] (xput σ 0 1 0) ς13) 15 1 = (σ 2 1) ∧ (xbk [15, 16, 17, 18, 19, 20, 21, 22, 23, 24, 25, 26, 27, 2, 3, 4, 5, 6, 7, 8, 9, 10, 11, 12, 13, 14] (xput σ 0 1 0) ς13) 15 2 = (σ 2 2) ∧ (xbk [15, 16, 17, 18, 19, 20, 21, 22, 23, 24, 25, 26, 27, 2, 3, 4, 5, 6, 7, 8, 9, 10, 11, 12, 13, 14] (xput σ 0 1 0) ς13) 15 8 = (σ 2 8) ∧ (xbk [15, 16, 17, 18, 19, 20, 21, 22, 23, 24, 25, 26, 27, 2, 3, 4, 5, 6, 7, 8, 9, 10, 11, 12, 13, 14] (xput σ 0 1 0) ς13) 15 9 = (σ 2 9)) ∧ (xbk [15, 16, 17, 18, 19, 20, 21, 22, 23, 24, 25, 26, 27, 2, 3, 4, 5, 6, 7, 8, 9, 10, 11, 12, 13, 14] (xput σ 0 1 0) ς13) 24 2 = (σ 11 2) := p13
        generalize xbk [15, 16, 17, 18, 19, 20, 21, 22, 23, 24, 25, 26, 27, 2, 3, 4, 5, 6, 7, 8, 9, 10, 11, 12, 13, 14] (xput σ 0 1 0) ς13 = σ13 at f13  p13 ⊢
        have hF := hF.tr f13 (by decide) (by decide)
        have hJT : JG (xsel [15, 16, 17, 18, 19, 20, 21, 22, 23, 24, 25, 26, 27] σ13) := by
          obtain ⟨c1, c2, c3, c4, c5⟩ := p13
          exact JG.cp (f := xsel [2, 3, 4, 5, 6, 7, 8, 9, 10, 11, 12, 13, 14] σ) hp0 c1 c2 c3 c4 c5
        have hJ : JG (xsel [2, 3, 4, 5, 6, 7, 8, 9, 10, 11, 12, 13, 14] σ13) := JG.fr2 (show JG (xsel [2, 3, 4, 5, 6, 7, 8, 9, 10, 11, 12, 13, 14] (xput σ 0 1 0)) from hp0) f13 (by decide)
        clear p13
        have hz1 : σ13 0 1 = 0 := f13.2 1 (by decide)
        refine And.intro (Nat.le_of_ble_eq_true rfl) ?_
        show xw _ _ _ _ _ _ _ _ _ _ [xvr 0, xvi n, xvi 1, xvi 0, xvu] _ _
        have lp_49 : ∀ (m49 : Nat) (done : Int) (u14_4 : xV) (s1 : xS), ((n - done).toNat) = m49 → (Fr [2, 3, 4, 5, 6, 7, 8, 9, 10, 11, 12, 13, 14, 15, 16, 17, 18, 19, 20, 21, 22, 23, 24, 25, 26, 27, 43] [1] σ s1 ∧ JG (xsel [2, 3, 4, 5, 6, 7, 8, 9, 10, 11, 12, 13, 14] s1) ∧ JG (xsel [15, 16, 17, 18, 19, 20, 21, 22, 23, 24, 25, 26, 27] s1) ∧ s1 0 1 = 0 ∧ (0 ≤ done)) → X 49 [xvr 0, xvi n, xvi 1, xvi done, u14_4] s1 := by
          intro m49
          induction m49 using Nat.strongRecOn with
          | _ m49 ih_49 =>
          intro done u14_4 s1 hm_49 hv_49
          obtain ⟨hF, hJ, hJT, hz1, hv_49⟩ := hv_49
          have hC := hJ.1
          have hc0 : 0 ≤ s1 2 0 ∧ s1 2 0 ≤ 13 := hC.1.1
          have hc1 : 0 ≤ s1 2 1 ∧ s1 2 1 ≤ 6 := hC.1.2.1
          refine hX 400 49 _ _ ?_
          have lp_143 : ∀ (u15_4 : xV), (True) → X 143 [xvr 0, xvi n, xvi 1, xvi done, u15_4] s1 := by
            intro u15_4 hv_143
            refine hX 400 143 _ _ ?_
            refine And.intro (fun c16 => ?_) (fun c16 => ?_)
            · refine hX 400 158 _ _ ?_
              refine And.intro rfl ?_
              exact hQ _ _ hF ⟨hJ, hz1⟩
            · exact hZZ _ _ _ (hZ _ _ _ hF hJ hJT hz1)
          refine And.intro (fun c17 => ?_) (fun c17 => ?_)
          · exact lp_143 (u14_4) (show True from by first | trivial | omega | (refine ⟨by assumption, ?_⟩; omega) | (refine ⟨?_, ?_⟩ <;> omega))
          · intro v18 e18 l18 h18
            have e18 : v18 = s1 2 14 := e18
            refine xMVp (sh := (shW wlVF0 w)) (ci := 2) (τ := [2, 3, 4, 5, 6, 7, 8, 9, 10, 11, 12, 13, 14]) (E := xT kX2_hasPerson) (t := 2) (r := [xvi v18]) (σ := s1) rfl rfl xbk_sel (fun Q19 hQ19 => sX2_hasPerson (σ := xsel [2, 3, 4, 5, 6, 7, 8, 9, 10, 11, 12, 13, 14] s1) (p := v18)  (fun r19 p19 => hQ19 _ ?_))
            have p19 : (r19 = 1 ∧ 0 ≤ v18 ∧ v18 < (s1 2 1)) ∨ (r19 = 0 ∧ (v18 < 0 ∨ (s1 2 1) ≤ v18)) := p19
            refine And.intro (fun c20 => ?_) (fun c20 => ?_)
            · replace p19 : (v18 < 0 ∨ (s1 2 1) ≤ v18) := by
                rcases p19 with q | q
                · exact absurd q.1 (by omega)
                · exact q.2
              exact lp_143 (u14_4) (show True from by first | trivial | omega | (refine ⟨by assumption, ?_⟩; omega) | (refine ⟨?_, ?_⟩ <;> omega))
            · replace p19 : 0 ≤ v18 ∧ v18 < (s1 2 1) := by
                rcases p19 with q | q
                · exact q.2
                · exact absurd q.1 (by omega)
              intro v21 e21 l21 h21
              have e21 : v21 = s1 2 14 := e21
              intro v22 e22 l22 h22
              have e22 : v22 = s1 2 14 := e22
              refine And.intro (Or.inl rfl) (And.intro (⟨by omega, by omega⟩) ?_)
              intro v23 e23 l23 h23
              have e23 : v23 = s1 1 v22.toNat := e23
              refine xMVp (sh := (shW wlVF0 w)) (ci := 2) (τ := [2, 3, 4, 5, 6, 7, 8, 9, 10, 11, 12, 13, 14]) (E := xT kX2_choice) (t := 2) (r := [xvi v21, xvi v23]) (σ := s1) rfl rfl xbk_sel (fun Q24 hQ24 => sX2_choice (σ := xsel [2, 3, 4, 5, 6, 7, 8, 9, 10, 11, 12, 13, 14] s1) (p := v21) (rule := v23) (show 0 ≤ (s1 2 0) ∧ (s1 2 0) ≤ 13 from by omega) (show 0 ≤ (s1 2 1) ∧ (s1 2 1) ≤ 6 from by omega) (show 0 ≤ v21 ∧ v21 ≤ 5 from by omega) (fun r24 p24 => hQ24 _ ?_))
              have p24 : r24 = -1 ∨ (0 ≤ r24 ∧ r24 / 100 ≤ 5 ∧ r24 % 100 ≤ 12) := p24
              refine And.intro (Nat.le_of_ble_eq_true rfl) ?_
              show xw _ _ _ _ _ _ _ _ _ _ [xvr 0, xvi n, xvi 1, xvi done, xvi r24] _ _
              refine And.intro (fun c25 => ?_) (fun c25 => ?_)
              · intro v26 e26 l26 h26
                have e26 : v26 = s1 2 14 := e26
                refine And.intro (by omega) ?_
                intro z27 e27 f27 l27 h27
                replace f27 := f27 (by omega) (by omega)
                refine And.intro (by omega) ?_
                intro z28 e28 f28 l28 h28
                replace f28 := f28 (by omega) (by omega)
                refine xMVf (sh := (shW wlVF0 w)) (ci := 2) (τ := [2, 3, 4, 5, 6, 7, 8, 9, 10, 11, 12, 13, 14, 43]) (E := xT kX2_doAsking) (t := 2) (r := [xvi v26, xvi z27, xvi z28, xvi 0, xvr 43]) (σ := s1) rfl rfl (fun Q29 hQ29 => sX2_doAsking (σ := xsel [2, 3, 4, 5, 6, 7, 8, 9, 10, 11, 12, 13, 14, 43] s1) (p := v26) (q := z27) (kind := z28) (lies := 0) (show CG (xsel [2, 3, 4, 5, 6, 7, 8, 9, 10, 11, 12, 13, 14, 43] s1) from hC) (show 0 ≤ v26 ∧ v26 ≤ 5 from by omega) (show 0 ≤ z27 ∧ z27 ≤ 5 from by omega) (show 0 ≤ z28 ∧ z28 ≤ 12 from by omega) (fun r29 ς29 f29 p29 => hQ29 _ _ ?_))
                have kq29_0 : (xbk [2, 3, 4, 5, 6, 7, 8, 9, 10, 11, 12, 13, 14, 43] s1 ς29) 2 0 = s1 2 0 := f29.2 0 (by decide)
                have kq29_1 : (xbk [2, 3, 4, 5, 6, 7, 8, 9, 10, 11, 12, 13, 14, 43] s1 ς29) 2 1 = s1 2 1 := f29.2 1 (by decide)
                have kq29_2 : (xbk [2, 3, 4, 5, 6, 7, 8, 9, 10, 11, 12, 13, 14, 43] s1 ς29) 2 2 = s1 2 2 := f29.2 2 (by decide)
                have kq29_9 : (xbk [2, 3, 4, 5, 6, 7, 8, 9, 10, 11, 12, 13, 14, 43] s1 ς29) 2 9 = s1 2 9 := f29.2 9 (by decide)
                replace f29 : Fr [2, 4, 5, 7, 8, 9, 10, 11, 12, 13, 14, 43] [] s1 (xbk [2, 3, 4, 5, 6, 7, 8, 9, 10, 11, 12, 13, 14, 43] s1 ς29) := f29.bk (by decide) (by decide)
                replace p29 : CG (xsel [2, 3, 4, 5, 6, 7, 8, 9, 10, 11, 12, 13, 14, 43] (xbk [2, 3, 4, 5, 6, 7, 8, 9, 10, 11, 12, 13, 14, 43] s1 ς29)) := p29
                generalize xbk [2, 3, 4, 5, 6, 7, 8, 9, 10, 11, 12, 13, 14, 43] s1 ς29 = σ29 at f29 kq29_0 kq29_1 kq29_2 kq29_9 p29 ⊢
                have hF := hF.tr f29 (by decide) (by decide)
                have hJ29 : JG (xsel [2, 3, 4, 5, 6, 7, 8, 9, 10, 11, 12, 13, 14] σ29) := by
                  refine ⟨(show CG (xsel [2, 3, 4, 5, 6, 7, 8, 9, 10, 11, 12, 13, 14] σ29) from p29), ?_, fun i hi => ?_⟩
                  · show σ29 2 2 = 0 ∨ σ29 2 2 = 1
                    rw [kq29_2]; exact hJ.2.1
                  · have hi : (i : Int) < σ29 2 9 := hi
                    show σ29 6 i < σ29 2 0
                    rw [kq29_9] at hi
                    rw [kq29_0, f29.1 6 (by decide) (by decide)]; exact hJ.2.2 i hi
                have hJT29 : JG (xsel [15, 16, 17, 18, 19, 20, 21, 22, 23, 24, 25, 26, 27] σ29) := jg_sel (tb := 15) hJT (fun j hj => f29.1 _ (by omega) (by simp only [List.mem_cons, List.not_mem_nil, or_false]; omega))
                have hz29 : σ29 0 1 = 0 := (f29.2 1 (by decide)).trans hz1
                intro z30 t30 e30 l30 h30
                try have w30 : t30 = 0 := by omega
                show xw _ _ _ _ _ _ _ _ _ _ [xvr 0, xvi n, xvi 1, xvi z30, xvi r24] _ _
                exact ih_49 _ (show (n - z30).toNat < m49 from by omega) z30 (xvi r24) σ29 rfl ⟨hF, hJ29, hJT29, hz29, by omega⟩
              · exact lp_143 (xvi r24) (show True from by first | trivial | omega | (refine ⟨by assumption, ?_⟩; omega) | (refine ⟨?_, ?_⟩ <;> omega))
        exact lp_49 _ 0 (xvu) σ13 rfl ⟨hF, hJ, hJT, hz1, by omega⟩
set_option maxHeartbeats 4000000 in
set_option maxRecDepth 100000 in
theorem pX10_evening_b {w : Nat → Bool} {σ : xS} {lives fine : Int} {Q : Option xV → xS → Prop} {Z : Nat → List xV → xS → Prop} (hp0 : JG (xsel [2, 3, 4, 5, 6, 7, 8, 9, 10, 11, 12, 13, 14] σ)) (hp1 : RWx (σ 35) (σ 34 2)) (hp2 : 0 ≤ σ 34 2 ∧ σ 34 2 ≤ 30) (hZ1 : ∀ (f : Int) (σ' : xS), Fr [15, 16, 17, 18, 19, 20, 21, 22, 23, 24, 25, 26, 27, 44, 45] [1, 2] σ σ' → JG (xsel [2, 3, 4, 5, 6, 7, 8, 9, 10, 11, 12, 13, 14] σ') → σ' 0 1 = 0 → Z 53 [xvr 0, xvi lives, xvi f, xvu] σ') (hZ2 : ∀ (f r : Int) (σ' : xS), Fr [15, 16, 17, 18, 19, 20, 21, 22, 23, 24, 25, 26, 27, 44, 45] [1, 2] σ σ' → JG (xsel [2, 3, 4, 5, 6, 7, 8, 9, 10, 11, 12, 13, 14] σ') → JG (xsel [15, 16, 17, 18, 19, 20, 21, 22, 23, 24, 25, 26, 27] σ') → σ' 0 1 = 0 → Z 78 [xvr 0, xvi lives, xvi f, xvi r] σ') (hZ3 : ∀ (f r : Int) (σ' : xS), Fr [15, 16, 17, 18, 19, 20, 21, 22, 23, 24, 25, 26, 27, 44, 45] [1, 2] σ σ' → JG (xsel [2, 3, 4, 5, 6, 7, 8, 9, 10, 11, 12, 13, 14] σ') → σ' 0 1 = 0 → Z 115 [xvr 0, xvi lives, xvi f, xvi r] σ') : xTS (kX10_evening_b w) Q Z 32 [xvr 0, xvi lives, xvu, xvu] [xvi fine] σ := by
  intro X hX hZZ
  have hF : Fr [15, 16, 17, 18, 19, 20, 21, 22, 23, 24, 25, 26, 27, 44, 45] [1, 2] σ σ := Fr.rf
  refine ⟨400, ?_⟩
  show xw _ _ _ _ _ _ _ _ _ _ [xvr 0, xvi lives, xvu, xvu] [xvi fine] _
  have hb0 : 0 ≤ σ 2 0 ∧ σ 2 0 ≤ 13 := hp0.1.1.1
  have hb1 : 0 ≤ σ 2 1 ∧ σ 2 1 ≤ 6 := hp0.1.1.2.1
  have hb8 : 0 ≤ σ 2 8 ∧ σ 2 8 ≤ σ 2 9 ∧ σ 2 9 ≤ 52 := hp0.1.1.2.2.1
  have hb9 : 0 ≤ σ 11 2 ∧ σ 11 2 ≤ 52 := hp0.1.2.2.2
  refine And.intro (Nat.le_of_ble_eq_true rfl) ?_
  show xw _ _ _ _ _ _ _ _ _ _ [xvr 0, xvi lives, xvi fine, xvu] _ _
  have hF := hF.p (j := 1) (v := 0) (by decide)
  intro v2 e2 l2 h2
  have e2 : v2 = σ 30 9 := e2
  have hF := hF.p (j := 2) (v := v2) (by decide)
  refine And.intro (fun c4 => ?_) (fun c4 => ?_)
  · refine hX 400 64 _ _ ?_
    refine xMVf (sh := (shW wlVF1 w)) (ci := 10) (τ := [0, 1, 2, 3, 4, 5, 6, 7, 8, 9, 10, 11, 12, 13, 14, 15, 16, 17, 18, 19, 20, 21, 22, 23, 24, 25, 26, 27, 28, 29, 30, 31, 32, 33, 34, 35, 36, 37, 38, 39, 40, 41, 42, 43, 44, 45, 46]) (E := xT kX10_judge) (t := 0) (r := []) (σ := (xput (xput σ 0 1 0) 0 2 v2)) rfl rfl (fun Q5 hQ5 => sX10_judge (σ := xsel [0, 1, 2, 3, 4, 5, 6, 7, 8, 9, 10, 11, 12, 13, 14, 15, 16, 17, 18, 19, 20, 21, 22, 23, 24, 25, 26, 27, 28, 29, 30, 31, 32, 33, 34, 35, 36, 37, 38, 39, 40, 41, 42, 43, 44, 45, 46] (xput (xput σ 0 1 0) 0 2 v2))  (show JG (xsel [2, 3, 4, 5, 6, 7, 8, 9, 10, 11, 12, 13, 14] (xsel [0, 1, 2, 3, 4, 5, 6, 7, 8, 9, 10, 11, 12, 13, 14, 15, 16, 17, 18, 19, 20, 21, 22, 23, 24, 25, 26, 27, 28, 29, 30, 31, 32, 33, 34, 35, 36, 37, 38, 39, 40, 41, 42, 43, 44, 45, 46] (xput (xput σ 0 1 0) 0 2 v2))) from by exact hp0) (show RWx ((xput (xput σ 0 1 0) 0 2 v2) 35) ((σ 34 2)) from hp1) (show 0 ≤ (σ 34 2) ∧ (σ 34 2) ≤ 30 from by omega) (fun r5 ς5 f5 p5 => hQ5 _ _ ?_))
    replace f5 : Fr [15, 16, 17, 18, 19, 20, 21, 22, 23, 24, 25, 26, 27, 44, 45] [] (xput (xput σ 0 1 0) 0 2 v2) (xbk [0, 1, 2, 3, 4, 5, 6, 7, 8, 9, 10, 11, 12, 13, 14, 15, 16, 17, 18, 19, 20, 21, 22, 23, 24, 25, 26, 27, 28, 29, 30, 31, 32, 33, 34, 35, 36, 37, 38, 39, 40, 41, 42, 43, 44, 45, 46] (xput (xput σ 0 1 0) 0 2 v2) ς5) := f5.bk0 (by decide) (by decide) (by decide)
    replace p5 : (0 ≤ r5 ∧ r5 ≤ (σ 34 2)) ∧ JG (xsel [15, 16, 17, 18, 19, 20, 21, 22, 23, 24, 25, 26, 27] (xsel [0, 1, 2, 3, 4, 5, 6, 7, 8, 9, 10, 11, 12, 13, 14, 15, 16, 17, 18, 19, 20, 21, 22, 23, 24, 25, 26, 27, 28, 29, 30, 31, 32, 33, 34, 35, 36, 37, 38, 39, 40, 41, 42, 43, 44, 45, 46] (xbk [0, 1, 2, 3, 4, 5, 6, 7, 8, 9, 10, 11, 12, 13, 14, 15, 16, 17, 18, 19, 20, 21, 22, 23, 24, 25, 26, 27, 28, 29, 30, 31, 32, 33, 34, 35, 36, 37, 38, 39, 40, 41, 42, 43, 44, 45, 46] (xput (xput σ 0 1 0) 0 2 v2) ς5))) := p5
    generalize xbk [0, 1, 2, 3, 4, 5, 6, 7, 8, 9, 10, 11, 12, 13, 14, 15, 16, 17, 18, 19, 20, 21, 22, 23, 24, 25, 26, 27, 28, 29, 30, 31, 32, 33, 34, 35, 36, 37, 38, 39, 40, 41, 42, 43, 44, 45, 46] (xput (xput σ 0 1 0) 0 2 v2) ς5 = σ5 at f5  p5 ⊢
    have hF := hF.tr f5 (by decide) (by decide)
    have hJT := p5.2
    have hJ := JG.fr2 hp0 hF (by decide)
    have hz1 : σ5 0 1 = 0 := f5.2 1 (by decide)
    refine And.intro (Nat.le_of_ble_eq_true rfl) ?_
    show xw _ _ _ _ _ _ _ _ _ _ [xvr 0, xvi lives, xvi fine, xvi r5] _ _
    refine And.intro (fun c6 => ?_) (fun c6 => ?_)
    · exact hZZ _ _ _ (hZ3 _ _ _ hF hJ hz1)
    · refine And.intro (fun c7 => ?_) (fun c7 => ?_)
      · exact hZZ _ _ _ (hZ3 _ _ _ hF hJ hz1)
      · exact hZZ _ _ _ (hZ2 _ _ _ hF hJ hJT hz1)
  · exact hZZ _ _ _ (hZ1 _ _ hF (show JG (xsel [2, 3, 4, 5, 6, 7, 8, 9, 10, 11, 12, 13, 14] (xput (xput σ 0 1 0) 0 2 v2)) from hp0) (show 0 = 0 from by omega))
set_option maxHeartbeats 4000000 in
set_option maxRecDepth 100000 in
theorem pX10_evening_c {w : Nat → Bool} {σ : xS} {lives f : Int} {Q : Option xV → xS → Prop} {Z : Nat → List xV → xS → Prop} (hQ : ∀ r : Int, ∀ σ' : xS, Fr [] [] σ σ' → Q (some (xvi r)) σ') : xTE (kX10_evening_c w) Q Z 53 [xvr 0, xvi lives, xvi f, xvu] σ := by
  intro X hX hZZ
  have hF : Fr [] [] σ σ := Fr.rf
  refine hX 400 53 _ _ ?_
  intro v1 e1 l1 h1
  have e1 : v1 = σ 30 10 := e1
  intro z2 t2 e2 l2 h2
  refine And.intro rfl ?_
  exact hQ _ _ hF
set_option maxHeartbeats 4000000 in
set_option maxRecDepth 100000 in
theorem pX10_evening_d {w : Nat → Bool} {σ : xS} {lives f rt : Int} {Q : Option xV → xS → Prop} {Z : Nat → List xV → xS → Prop} (hp0 : JG (xsel [15, 16, 17, 18, 19, 20, 21, 22, 23, 24, 25, 26, 27] σ)) (hQ : ∀ r : Int, ∀ σ' : xS, Fr [2, 3, 4, 5, 6, 7, 8, 9, 10, 11, 12, 13, 14, 43] [] σ σ' → (JG (xsel [2, 3, 4, 5, 6, 7, 8, 9, 10, 11, 12, 13, 14] σ')) → Q (some (xvi r)) σ') : xTE (kX10_evening_d w) Q Z 89 [xvr 0, xvi lives, xvi f, xvi rt] σ := by
  intro X hX hZZ
  have hF : Fr [2, 3, 4, 5, 6, 7, 8, 9, 10, 11, 12, 13, 14, 43] [] σ σ := Fr.rf
  refine hX 400 89 _ _ ?_
  refine xMVf (sh := (shW wlVF0 w)) (ci := 2) (τ := [2, 3, 4, 5, 6, 7, 8, 9, 10, 11, 12, 13, 14, 15, 16, 17, 18, 19, 20, 21, 22, 23, 24, 25, 26, 27]) (E := xT kX2_copyFrom) (t := 2) (r := [xvr 15]) (σ := σ) rfl rfl (fun Q1 hQ1 => sX2_copyFrom (σ := xsel [2, 3, 4, 5, 6, 7, 8, 9, 10, 11, 12, 13, 14, 15, 16, 17, 18, 19, 20, 21, 22, 23, 24, 25, 26, 27] σ)  (show 0 ≤ (σ 24 2) ∧ (σ 24 2) ≤ 52 from hp0.1.2.2.2) (show (σ 15 2) = 0 ∨ (σ 15 2) = 1 from hp0.2.1) (fun ς1 f1 p1 => hQ1 _ _ ?_))
  replace f1 : Fr [2, 3, 4, 5, 6, 7, 8, 9, 10, 11, 12, 13, 14] [] σ (xbk [2, 3, 4, 5, 6, 7, 8, 9, 10, 11, 12, 13, 14, 15, 16, 17, 18, 19, 20, 21, 22, 23, 24, 25, 26, 27] σ ς1) := f1.bk (by decide) (by decide)
  replace p1 : (∀ i : Nat, (i : Int) < 78 → (xbk [2, 3, 4, 5, 6, 7, 8, 9, 10, 11, 12, 13, 14, 15, 16, 17, 18, 19, 20, 21, 22, 23, 24, 25, 26, 27] σ ς1) 4 i = σ 17 i) ∧ (∀ i : Nat, (i : Int) < 52 → (xbk [2, 3, 4, 5, 6, 7, 8, 9, 10, 11, 12, 13, 14, 15, 16, 17, 18, 19, 20, 21, 22, 23, 24, 25, 26, 27] σ ς1) 6 i = σ 19 i) ∧ (∀ i : Nat, (i : Int) < 78 → (xbk [2, 3, 4, 5, 6, 7, 8, 9, 10, 11, 12, 13, 14, 15, 16, 17, 18, 19, 20, 21, 22, 23, 24, 25, 26, 27] σ ς1) 12 i = σ 25 i) ∧ ((xbk [2, 3, 4, 5, 6, 7, 8, 9, 10, 11, 12, 13, 14, 15, 16, 17, 18, 19, 20, 21, 22, 23, 24, 25, 26, 27] σ ς1) 2 0 = (σ 15 0) ∧ (xbk [2, 3, 4, 5, 6, 7, 8, 9, 10, 11, 12, 13, 14, 15, 16, 17, 18, 19, 20, 21, 22, 23, 24, 25, 26, 27] σ ς1) 2 1 = (σ 15 1) ∧ (xbk [2, 3, 4, 5, 6, 7, 8, 9, 10, 11, 12, 13, 14, 15, 16, 17, 18, 19, 20, 21, 22, 23, 24, 25, 26, 27] σ ς1) 2 2 = (σ 15 2) ∧ (xbk [2, 3, 4, 5, 6, 7, 8, 9, 10, 11, 12, 13, 14, 15, 16, 17, 18, 19, 20, 21, 22, 23, 24, 25, 26, 27] σ ς1) 2 8 = (σ 15 8) ∧ (xbk [2, 3, 4, 5, 6, 7, 8, 9, 10, 11, 12, 13, 14, 15, 16, 17, 18, 19, 20, 21, 22, 23, 24, 25, 26, 27] σ ς1) 2 9 = (σ 15 9)) ∧ (xbk [2, 3, 4, 5, 6, 7, 8, 9, 10, 11, 12, 13, 14, 15, 16, 17, 18, 19, 20, 21, 22, 23, 24, 25, 26, 27] σ ς1) 11 2 = (σ 24 2) := p1
  generalize xbk [2, 3, 4, 5, 6, 7, 8, 9, 10, 11, 12, 13, 14, 15, 16, 17, 18, 19, 20, 21, 22, 23, 24, 25, 26, 27] σ ς1 = σ1 at f1  p1 ⊢
  have hF := hF.tr f1 (by decide) (by decide)
  have hJ : JG (xsel [2, 3, 4, 5, 6, 7, 8, 9, 10, 11, 12, 13, 14] σ1) := by
    obtain ⟨c1, c2, c3, c4, c5⟩ := p1
    exact JG.cp (f := xsel [15, 16, 17, 18, 19, 20, 21, 22, 23, 24, 25, 26, 27] σ) hp0 c1 c2 c3 c4 c5
  clear p1
  refine And.intro (Or.inl rfl) (And.intro rfl (And.intro ⟨by omega, by omega, by omega, by omega, by omega⟩ ?_))
  generalize hx2 : xcp σ1 44 _ 43 _ _ = σ2
  have f2 : Fr [43] [] σ1 σ2 := by
    rw [← hx2]
    exact ⟨fun t h0 hn => by funext j; unfold xcp; rw [if_neg (fun e => hn (by simp [e]))], fun j _ => by unfold xcp; rw [if_neg (by decide)]⟩
  have hF := hF.tr f2 (by decide) (by decide)
  have hJ := JG.fr2 hJ f2 (by decide)
  refine hX 400 115 _ _ ?_
  intro v3 e3 l3 h3
  have e3 : v3 = σ2 34 2 := e3
  refine And.intro (fun c4 => ?_) (fun c4 => ?_)
  · refine And.intro rfl ?_
    exact hQ _ _ hF hJ
  · refine And.intro rfl ?_
    exact hQ _ _ hF hJ
set_option maxHeartbeats 4000000 in
set_option maxRecDepth 100000 in
theorem pX10_evening_e {w : Nat → Bool} {σ : xS} {lives f rt : Int} {Q : Option xV → xS → Prop} {Z : Nat → List xV → xS → Prop} (hQ : ∀ r : Int, ∀ σ' : xS, Fr [] [] σ σ' → Q (some (xvi r)) σ') : xTE (kX10_evening_e w) Q Z 115 [xvr 0, xvi lives, xvi f, xvi rt] σ := by
  intro X hX hZZ
  have hF : Fr [] [] σ σ := Fr.rf
  refine hX 400 115 _ _ ?_
  intro v1 e1 l1 h1
  have e1 : v1 = σ 34 2 := e1
  refine And.intro (fun c2 => ?_) (fun c2 => ?_)
  · refine And.intro rfl ?_
    exact hQ _ _ hF
  · refine And.intro rfl ?_
    exact hQ _ _ hF
