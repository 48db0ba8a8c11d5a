set_option maxHeartbeats 4000000 in
set_option maxRecDepth 100000 in
theorem sX0_difference {σ : xS} {Q : Option xV → xS → Prop} (hp0 : CG (xsel [5, 6, 7, 8, 9, 10, 11, 12, 13, 14, 15, 16, 17] σ)) (hp1 : ∀ i : Nat, (i : Int) < σ 5 9 → σ 9 i ≤ 2) (hp2 : σ 5 2 = 0 ∨ σ 5 2 = 1) (hQ : ∀ r : Int, ∀ σ' : xS, Fr [1, 2, 3, 4] [3, 4, 5, 6, 8, 9, 10, 11, 12] σ σ' → Q (some (xvi r)) σ') : xT kX0_difference [xvr 0, xvr 5] σ Q := by
  refine ⟨Nat.le_of_ble_eq_true rfl, fun X hX => ?_⟩
  show X 0 [xvr 0, xvr 5, xvu, xvu, xvu] σ
  have hF : Fr [1, 2, 3, 4] [3, 4, 5, 6, 8, 9, 10, 11, 12] σ σ := Fr.rf
  refine hX 400 0 _ _ ?_
  refine sX0_take (σ := σ)  (show CG (xsel [5, 6, 7, 8, 9, 10, 11, 12, 13, 14, 15, 16, 17] σ) from hp0) (show ∀ i : Nat, (i : Int) < (σ 5 9) → σ 9 i ≤ 2 from hp1) (show (σ 5 2) = 0 ∨ (σ 5 2) = 1 from hp2) (fun r1 σ1 f1 p1 => ?_)
  have hF := hF.tr f1 (by decide) (by decide)
  have p1 : (0 ≤ σ1 0 3 ∧ σ1 0 3 ≤ 4) ∧ σ1 0 8 = 0 ∧ (0 ≤ σ1 0 4 ∧ σ1 0 4 ≤ 3) ∧ (∀ j : Nat, (j : Int) < σ1 0 3 → 0 ≤ σ1 3 j ∧ σ1 3 j ≤ 2) := p1
  have hb0 : 0 ≤ σ 5 0 ∧ σ 5 0 ≤ 13 := hp0.1.1
  have k50 : σ1 5 0 = σ 5 0 := congrFun (hF.1 5 (by decide) (by decide)) 0
  obtain ⟨h03, h08, h04, hH3⟩ := p1
  refine And.intro (Nat.le_of_ble_eq_true rfl) ?_
  show xw _ _ _ _ _ _ _ _ _ _ [xvr 0, xvr 5, xvi r1, xvu, xvu] _ _
  refine xMVp (sh := shU) (ci := 2) (τ := [5, 6, 7, 8, 9, 10, 11, 12, 13, 14, 15, 16, 17]) (E := xT kX2_booksOf) (t := 5) (r := [xvi 0]) (σ := σ1) rfl rfl xbk_sel (fun Q2 hQ2 => sX2_booksOf (σ := xsel [5, 6, 7, 8, 9, 10, 11, 12, 13, 14, 15, 16, 17] σ1) (p := 0) (show 0 ≤ (σ1 5 0) ∧ (σ1 5 0) ≤ 13 from by omega) (fun r2 p2 => hQ2 _ ?_))
  have p2 : 0 ≤ r2 ∧ r2 ≤ 13 := p2
  refine xMVp (sh := shU) (ci := 2) (τ := [5, 6, 7, 8, 9, 10, 11, 12, 13, 14, 15, 16, 17]) (E := xT kX2_booksOf) (t := 5) (r := [xvi 1]) (σ := σ1) rfl rfl xbk_sel (fun Q3 hQ3 => sX2_booksOf (σ := xsel [5, 6, 7, 8, 9, 10, 11, 12, 13, 14, 15, 16, 17] σ1) (p := 1) (show 0 ≤ (σ1 5 0) ∧ (σ1 5 0) ≤ 13 from by omega) (fun r3 p3 => hQ3 _ ?_))
  have p3 : 0 ≤ r3 ∧ r3 ≤ 13 := p3
  intro z4 t4 e4 l4 h4
  try have w4 : t4 = 0 := by omega
  refine And.intro (Nat.le_of_ble_eq_true rfl) ?_
  show xw _ _ _ _ _ _ _ _ _ _ [xvr 0, xvr 5, xvi r1, xvi z4, xvu] _ _
  refine xMVf (sh := shU) (ci := 0) (τ := [0, 1, 2, 3, 4]) (E := VE 42) (t := 0) (r := [xvi r1, xvi 0]) (σ := σ1) rfl rfl (fun Q5 hQ5 => VE_i (n := 42) (state := r1) (depth := 0) (σ := xsel [0, 1, 2, 3, 4] σ1) (by omega) (show 0 ≤ σ1 0 3 ∧ σ1 0 3 ≤ 4 from by omega) (by exact hH3) (show 0 ≤ σ1 0 4 ∧ σ1 0 4 ≤ 3 from by omega) (fun r5 ς5 f5 => hQ5 _ _ ?_))
  replace f5 : Fr [1, 4] [8, 9, 10, 11, 12] σ1 (xbk [0, 1, 2, 3, 4] σ1 ς5) := f5.bk0 (by decide) (by decide) (by decide)
  generalize xbk [0, 1, 2, 3, 4] σ1 ς5 = σ5 at f5 ⊢
  have hF := hF.tr f5 (by decide) (by decide)
  refine And.intro (Nat.le_of_ble_eq_true rfl) ?_
  show xw _ _ _ _ _ _ _ _ _ _ [xvr 0, xvr 5, xvi r1, xvi z4, xvi r5] _ _
  intro v6 e6 l6 h6
  have e6 : v6 = σ5 5 14 := e6
  refine And.intro (fun c7 => ?_) (fun c7 => ?_)
  · intro z8 t8 e8 l8 h8
    try have w8 : t8 = 0 := by omega
    intro z9 t9 e9 l9 h9
    try have w9 : t9 = 0 := by omega
    refine And.intro rfl ?_
    exact hQ _ _ hF
  · intro z10 t10 e10 l10 h10
    try have w10 : t10 = 0 := by omega
    refine And.intro rfl ?_
    exact hQ _ _ hF
set_option maxHeartbeats 4000000 in
set_option maxRecDepth 100000 in
theorem sX0_bestKind {σ : xS} {Q : Option xV → xS → Prop} (hp0 : CG (xsel [5, 6, 7, 8, 9, 10, 11, 12, 13, 14, 15, 16, 17] σ)) (hp1 : ∀ i : Nat, (i : Int) < σ 5 9 → σ 9 i ≤ 2) (hp2 : σ 5 2 = 0 ∨ σ 5 2 = 1) (hQ : ∀ r : Int, ∀ σ' : xS, Fr [1, 2, 3, 4] [3, 4, 5, 6, 8, 9, 10, 11, 12] σ σ' → Q (some (xvi r)) σ') : xT kX0_bestKind [xvr 0, xvr 5] σ Q := by
  refine ⟨Nat.le_of_ble_eq_true rfl, fun X hX => ?_⟩
  show X 0 [xvr 0, xvr 5, xvu] σ
  have hF : Fr [1, 2, 3, 4] [3, 4, 5, 6, 8, 9, 10, 11, 12] σ σ := Fr.rf
  refine hX 400 0 _ _ ?_
  refine sX0_take (σ := σ)  (show CG (xsel [5, 6, 7, 8, 9, 10, 11, 12, 13, 14, 15, 16, 17] σ) from hp0) (show ∀ i : Nat, (i : Int) < (σ 5 9) → σ 9 i ≤ 2 from hp1) (show (σ 5 2) = 0 ∨ (σ 5 2) = 1 from hp2) (fun r1 σ1 f1 p1 => ?_)
  have hF := hF.tr f1 (by decide) (by decide)
  have p1 : (0 ≤ σ1 0 3 ∧ σ1 0 3 ≤ 4) ∧ σ1 0 8 = 0 ∧ (0 ≤ σ1 0 4 ∧ σ1 0 4 ≤ 3) ∧ (∀ j : Nat, (j : Int) < σ1 0 3 → 0 ≤ σ1 3 j ∧ σ1 3 j ≤ 2) := p1
  have hb0 : 0 ≤ σ 5 0 ∧ σ 5 0 ≤ 13 := hp0.1.1
  have k50 : σ1 5 0 = σ 5 0 := congrFun (hF.1 5 (by decide) (by decide)) 0
  obtain ⟨h03, h08, h04, hH3⟩ := p1
  refine And.intro (Nat.le_of_ble_eq_true rfl) ?_
  show xw _ _ _ _ _ _ _ _ _ _ [xvr 0, xvr 5, xvi r1] _ _
  refine xMVf (sh := shU) (ci := 0) (τ := [0, 1, 2, 3, 4]) (E := VE 42) (t := 0) (r := [xvi r1, xvi 0]) (σ := σ1) rfl rfl (fun Q2 hQ2 => VE_i (n := 42) (state := r1) (depth := 0) (σ := xsel [0, 1, 2, 3, 4] σ1) (by omega) (show 0 ≤ σ1 0 3 ∧ σ1 0 3 ≤ 4 from by omega) (by exact hH3) (show 0 ≤ σ1 0 4 ∧ σ1 0 4 ≤ 3 from by omega) (fun r2 ς2 f2 => hQ2 _ _ ?_))
  replace f2 : Fr [1, 4] [8, 9, 10, 11, 12] σ1 (xbk [0, 1, 2, 3, 4] σ1 ς2) := f2.bk0 (by decide) (by decide) (by decide)
  generalize xbk [0, 1, 2, 3, 4] σ1 ς2 = σ2 at f2 ⊢
  have hF := hF.tr f2 (by decide) (by decide)
  intro v3 e3 l3 h3
  have e3 : v3 = σ2 0 12 := e3
  refine And.intro rfl ?_
  exact hQ _ _ hF
