set_option maxHeartbeats 4000000 in
set_option maxRecDepth 100000 in
theorem sX1_askerOf {σ : xS} {line : Int} {Q : Option xV → xS → Prop} (hp0 : 0 ≤ line ∧ line ≤ 29) (hQ : ∀ r : Int, (r = σ 1 (4 * line).toNat) → Q (some (xvi r)) σ) : xT kX1_askerOf [xvr 0, xvi line] σ Q := by
  refine ⟨Nat.le_of_ble_eq_true rfl, fun X hX => ?_⟩
  show X 0 [xvr 0, xvi line] σ
  refine hX 400 0 _ _ ?_
  intro z1 t1 e1 l1 h1
  try have w1 : t1 = 0 := by omega
  refine And.intro (rfl) (And.intro (⟨by omega, by omega⟩) ?_)
  intro v2 e2 l2 h2
  have e2 : v2 = σ 1 z1.toNat := e2
  rw [show z1 = 4 * line from by omega] at e2
  refine And.intro rfl ?_
  exact hQ _ (show v2 = σ 1 (4 * line).toNat from by first | trivial | omega)
set_option maxHeartbeats 4000000 in
set_option maxRecDepth 100000 in
theorem sX1_otherOf {σ : xS} {line : Int} {Q : Option xV → xS → Prop} (hp0 : 0 ≤ line ∧ line ≤ 29) (hQ : ∀ r : Int, (r = σ 1 (4 * line + 1).toNat) → Q (some (xvi r)) σ) : xT kX1_otherOf [xvr 0, xvi line] σ Q := by
  refine ⟨Nat.le_of_ble_eq_true rfl, fun X hX => ?_⟩
  show X 0 [xvr 0, xvi line] σ
  refine hX 400 0 _ _ ?_
  intro z1 t1 e1 l1 h1
  try have w1 : t1 = 0 := by omega
  intro z2 t2 e2 l2 h2
  try have w2 : t2 = 0 := by omega
  refine And.intro (rfl) (And.intro (⟨by omega, by omega⟩) ?_)
  intro v3 e3 l3 h3
  have e3 : v3 = σ 1 z2.toNat := e3
  rw [show z2 = 4 * line + 1 from by omega] at e3
  refine And.intro rfl ?_
  exact hQ _ (show v3 = σ 1 (4 * line + 1).toNat from by first | trivial | omega)
set_option maxHeartbeats 4000000 in
set_option maxRecDepth 100000 in
theorem sX1_kindOf {σ : xS} {line : Int} {Q : Option xV → xS → Prop} (hp0 : 0 ≤ line ∧ line ≤ 29) (hQ : ∀ r : Int, (r = σ 1 (4 * line + 2).toNat) → Q (some (xvi r)) σ) : xT kX1_kindOf [xvr 0, xvi line] σ Q := by
  refine ⟨Nat.le_of_ble_eq_true rfl, fun X hX => ?_⟩
  show X 0 [xvr 0, xvi line] σ
  refine hX 400 0 _ _ ?_
  intro z1 t1 e1 l1 h1
  try have w1 : t1 = 0 := by omega
  intro z2 t2 e2 l2 h2
  try have w2 : t2 = 0 := by omega
  refine And.intro (rfl) (And.intro (⟨by omega, by omega⟩) ?_)
  intro v3 e3 l3 h3
  have e3 : v3 = σ 1 z2.toNat := e3
  rw [show z2 = 4 * line + 2 from by omega] at e3
  refine And.intro rfl ?_
  exact hQ _ (show v3 = σ 1 (4 * line + 2).toNat from by first | trivial | omega)
set_option maxHeartbeats 4000000 in
set_option maxRecDepth 100000 in
theorem sX1_givenOf {σ : xS} {line : Int} {Q : Option xV → xS → Prop} (hp0 : 0 ≤ line ∧ line ≤ 29) (hQ : ∀ r : Int, (r = σ 1 (4 * line + 3).toNat) → Q (some (xvi r)) σ) : xT kX1_givenOf [xvr 0, xvi line] σ Q := by
  refine ⟨Nat.le_of_ble_eq_true rfl, fun X hX => ?_⟩
  show X 0 [xvr 0, xvi line] σ
  refine hX 400 0 _ _ ?_
  intro z1 t1 e1 l1 h1
  try have w1 : t1 = 0 := by omega
  intro z2 t2 e2 l2 h2
  try have w2 : t2 = 0 := by omega
  refine And.intro (rfl) (And.intro (⟨by omega, by omega⟩) ?_)
  intro v3 e3 l3 h3
  have e3 : v3 = σ 1 z2.toNat := e3
  rw [show z2 = 4 * line + 3 from by omega] at e3
  refine And.intro rfl ?_
  exact hQ _ (show v3 = σ 1 (4 * line + 3).toNat from by first | trivial | omega)
set_option maxHeartbeats 4000000 in
set_option maxRecDepth 100000 in
theorem sX1_readAnswer {σ : xS} {Q : Option xV → xS → Prop} (hp0 : 0 ≤ σ 0 2 ∧ σ 0 2 ≤ 29) (hp1 : (0 ≤ σ 2 4 ∧ σ 2 4 ≤ σ 2 2 ∧ σ 2 2 ≤ 940)) (hQ : ∀ r : Int, ∀ σ' : xS, Fr [1, 2] [] σ σ' → ((∀ j : Nat, ((j : Int) ≠ 4 * σ 0 2 + 3) → σ' 1 j = σ 1 j) ∧ (0 ≤ σ' 2 4 ∧ σ' 2 4 ≤ σ' 2 2 ∧ σ' 2 2 ≤ 940) ∧ (r = 0 ∨ r = 1)) → Q (some (xvi r)) σ') : xT kX1_readAnswer [xvr 0] σ Q := by
  refine ⟨Nat.le_of_ble_eq_true rfl, fun X hX => ?_⟩
  show X 0 [xvr 0] σ
  have hF : Fr [1, 2] [] σ σ := Fr.rf
  refine hX 400 0 _ _ ?_
  have hO : ∀ j : Nat, ((j : Int) ≠ 4 * σ 0 2 + 3) → σ 1 j = σ 1 j := fun _ _ => rfl
  intro v1 e1 l1 h1
  have e1 : v1 = σ 0 2 := e1
  intro z2 t2 e2 l2 h2
  try have w2 : t2 = 0 := by omega
  intro z3 t3 e3 l3 h3
  try have w3 : t3 = 0 := by omega
  refine And.intro (rfl) (And.intro (⟨by omega, by omega⟩) ?_)
  have hF := hF.pt (t := 1) (j := z3.toNat) (v := 0) (by decide) (by decide)
  have hO : ∀ j : Nat, ((j : Int) ≠ 4 * σ 0 2 + 3) → (xput σ 1 z3.toNat 0) 1 j = σ 1 j := fun j hj => by
    show xput σ 1 z3.toNat 0 1 j = σ 1 j
    refine Eq.trans (b := σ 1 j) ?_ (hO j hj)
    rw [xput_up, up_n (by omega)]
  refine xMVp (sh := shE) (ci := 6) (τ := [2, 3, 4]) (E := xT kX6_isAt) (t := 2) (r := [xvi 8]) (σ := (xput σ 1 z3.toNat 0)) rfl rfl xbk_sel (fun Q5 hQ5 => sX6_isAt (σ := xsel [2, 3, 4] (xput σ 1 z3.toNat 0)) (wanted := 8)  (fun r5 p5 => hQ5 _ ?_))
  have p5 : (r5 = 1 ∧ (σ 2 5) = 8) ∨ (r5 = 0 ∧ ¬ (σ 2 5) = 8) := p5
  refine And.intro (fun c6 => ?_) (fun c6 => ?_)
  · replace p5 : ¬ (σ 2 5) = 8 := by
      rcases p5 with q | q
      · exact absurd q.1 (by omega)
      · exact q.2
    refine xMVf (sh := shE) (ci := 6) (τ := [2, 3, 4]) (E := xT kX6_pass) (t := 2) (r := [xvi 7]) (σ := (xput σ 1 z3.toNat 0)) rfl rfl (fun Q7 hQ7 => sX6_pass (σ := xsel [2, 3, 4] (xput σ 1 z3.toNat 0)) (wanted := 7) (show 0 ≤ (σ 2 4) ∧ (σ 2 4) ≤ (σ 2 2) ∧ (σ 2 2) ≤ 940 from by omega) (fun r7 ς7 f7 p7 => hQ7 _ _ ?_))
    have kq7_2 : (xbk [2, 3, 4] (xput σ 1 z3.toNat 0) ς7) 2 2 = σ 2 2 := f7.2 2 (by decide)
    replace f7 : Fr [2] [] (xput σ 1 z3.toNat 0) (xbk [2, 3, 4] (xput σ 1 z3.toNat 0) ς7) := f7.bk (by decide) (by decide)
    replace p7 : (0 ≤ (xbk [2, 3, 4] (xput σ 1 z3.toNat 0) ς7) 2 4 ∧ (xbk [2, 3, 4] (xput σ 1 z3.toNat 0) ς7) 2 4 ≤ (σ 2 2)) ∧ (r7 = 0 ∨ r7 = 1) := p7
    generalize xbk [2, 3, 4] (xput σ 1 z3.toNat 0) ς7 = σ7 at f7 kq7_2 p7 ⊢
    have hF := hF.tr f7 (by decide) (by decide)
    have hO : ∀ j : Nat, ((j : Int) ≠ 4 * σ 0 2 + 3) → σ7 1 j = σ 1 j := fun j hj => by rw [f7.1 1 (by decide) (by decide)]; exact hO j hj
    have kl7 : σ7 0 2 = σ 0 2 := hF.2 2 (by decide)
    refine And.intro (fun c8 => ?_) (fun c8 => ?_)
    · refine hX 400 59 _ _ ?_
      refine And.intro rfl ?_
      refine And.intro (by omega) ?_
      exact hQ _ _ hF ⟨hO, (show 0 ≤ σ7 2 4 ∧ σ7 2 4 ≤ σ7 2 2 ∧ σ7 2 2 ≤ 940 from by omega), by omega⟩
    · refine xMVf (sh := shE) (ci := 6) (τ := [2, 3, 4]) (E := xT kX6_isNumber) (t := 2) (r := [xvi 1, xvi 4]) (σ := σ7) rfl rfl (fun Q9 hQ9 => sX6_isNumber (σ := xsel [2, 3, 4] σ7) (least := 1) (greatest := 4)  (fun r9 ς9 f9 p9 => hQ9 _ _ ?_))
      have kq9_2 : (xbk [2, 3, 4] σ7 ς9) 2 2 = σ7 2 2 := f9.2 2 (by decide)
      have kq9_4 : (xbk [2, 3, 4] σ7 ς9) 2 4 = σ7 2 4 := f9.2 4 (by decide)
      have kq9_5 : (xbk [2, 3, 4] σ7 ς9) 2 5 = σ7 2 5 := f9.2 5 (by decide)
      have kq9_7 : (xbk [2, 3, 4] σ7 ς9) 2 7 = σ7 2 7 := f9.2 7 (by decide)
      have kq9_8 : (xbk [2, 3, 4] σ7 ς9) 2 8 = σ7 2 8 := f9.2 8 (by decide)
      replace f9 : Fr [2] [] σ7 (xbk [2, 3, 4] σ7 ς9) := f9.bk (by decide) (by decide)
      replace p9 : (r9 = 1 ∧ 1 ≤ (σ7 2 7) ∧ (σ7 2 7) ≤ 4) ∨ (r9 = 0 ∧ (0 : Int) ≤ 0) := p9
      generalize xbk [2, 3, 4] σ7 ς9 = σ9 at f9 kq9_2 kq9_4 kq9_5 kq9_7 kq9_8 p9 ⊢
      have hF := hF.tr f9 (by decide) (by decide)
      have hO : ∀ j : Nat, ((j : Int) ≠ 4 * σ 0 2 + 3) → σ9 1 j = σ 1 j := fun j hj => by rw [f9.1 1 (by decide) (by decide)]; exact hO j hj
      have kl9 : σ9 0 2 = σ 0 2 := hF.2 2 (by decide)
      refine And.intro (fun c10 => ?_) (fun c10 => ?_)
      · intro v11 e11 l11 h11
        have e11 : v11 = σ9 0 2 := e11
        intro z12 t12 e12 l12 h12
        try have w12 : t12 = 0 := by omega
        intro z13 t13 e13 l13 h13
        try have w13 : t13 = 0 := by omega
        intro v14 e14 l14 h14
        have e14 : v14 = σ9 2 7 := e14
        refine And.intro (rfl) (And.intro (⟨by omega, by omega⟩) ?_)
        have hF := hF.pt (t := 1) (j := z13.toNat) (v := v14) (by decide) (by decide)
        have hO : ∀ j : Nat, ((j : Int) ≠ 4 * σ 0 2 + 3) → (xput σ9 1 z13.toNat v14) 1 j = σ 1 j := fun j hj => by
          show xput σ9 1 z13.toNat v14 1 j = σ 1 j
          refine Eq.trans (b := σ9 1 j) ?_ (hO j hj)
          rw [xput_up, up_n (by omega)]
        refine xMVf (sh := shE) (ci := 6) (τ := [2, 3, 4]) (E := xT kX6_advance) (t := 2) (r := []) (σ := (xput σ9 1 z13.toNat v14)) rfl rfl (fun Q16 hQ16 => sX6_advance (σ := xsel [2, 3, 4] (xput σ9 1 z13.toNat v14))  (show 0 ≤ (σ9 2 4) ∧ (σ9 2 4) ≤ (σ9 2 2) ∧ (σ9 2 2) ≤ 940 from by omega) (fun ς16 f16 p16 => hQ16 _ _ ?_))
        have kq16_2 : (xbk [2, 3, 4] (xput σ9 1 z13.toNat v14) ς16) 2 2 = σ9 2 2 := f16.2 2 (by decide)
        replace f16 : Fr [2] [] (xput σ9 1 z13.toNat v14) (xbk [2, 3, 4] (xput σ9 1 z13.toNat v14) ς16) := f16.bk (by decide) (by decide)
        replace p16 : 0 ≤ (xbk [2, 3, 4] (xput σ9 1 z13.toNat v14) ς16) 2 4 ∧ (xbk [2, 3, 4] (xput σ9 1 z13.toNat v14) ς16) 2 4 ≤ (σ9 2 2) := p16
        generalize xbk [2, 3, 4] (xput σ9 1 z13.toNat v14) ς16 = σ16 at f16 kq16_2 p16 ⊢
        have hF := hF.tr f16 (by decide) (by decide)
        have hO : ∀ j : Nat, ((j : Int) ≠ 4 * σ 0 2 + 3) → σ16 1 j = σ 1 j := fun j hj => by rw [f16.1 1 (by decide) (by decide)]; exact hO j hj
        have kl16 : σ16 0 2 = σ 0 2 := hF.2 2 (by decide)
        refine And.intro rfl ?_
        refine And.intro (by omega) ?_
        exact hQ _ _ hF ⟨hO, (show 0 ≤ σ16 2 4 ∧ σ16 2 4 ≤ σ16 2 2 ∧ σ16 2 2 ≤ 940 from by omega), by omega⟩
      · refine hX 400 59 _ _ ?_
        refine And.intro rfl ?_
        refine And.intro (by omega) ?_
        exact hQ _ _ hF ⟨hO, (show 0 ≤ σ9 2 4 ∧ σ9 2 4 ≤ σ9 2 2 ∧ σ9 2 2 ≤ 940 from by omega), by omega⟩
  · replace p5 : (σ 2 5) = 8 := by
      rcases p5 with q | q
      · exact q.2
      · exact absurd q.1 (by omega)
    refine xMVf (sh := shE) (ci := 6) (τ := [2, 3, 4]) (E := xT kX6_advance) (t := 2) (r := []) (σ := (xput σ 1 z3.toNat 0)) rfl rfl (fun Q17 hQ17 => sX6_advance (σ := xsel [2, 3, 4] (xput σ 1 z3.toNat 0))  (show 0 ≤ (σ 2 4) ∧ (σ 2 4) ≤ (σ 2 2) ∧ (σ 2 2) ≤ 940 from by omega) (fun ς17 f17 p17 => hQ17 _ _ ?_))
    have kq17_2 : (xbk [2, 3, 4] (xput σ 1 z3.toNat 0) ς17) 2 2 = σ 2 2 := f17.2 2 (by decide)
    replace f17 : Fr [2] [] (xput σ 1 z3.toNat 0) (xbk [2, 3, 4] (xput σ 1 z3.toNat 0) ς17) := f17.bk (by decide) (by decide)
    replace p17 : 0 ≤ (xbk [2, 3, 4] (xput σ 1 z3.toNat 0) ς17) 2 4 ∧ (xbk [2, 3, 4] (xput σ 1 z3.toNat 0) ς17) 2 4 ≤ (σ 2 2) := p17
    generalize xbk [2, 3, 4] (xput σ 1 z3.toNat 0) ς17 = σ17 at f17 kq17_2 p17 ⊢
    have hF := hF.tr f17 (by decide) (by decide)
    have hO : ∀ j : Nat, ((j : Int) ≠ 4 * σ 0 2 + 3) → σ17 1 j = σ 1 j := fun j hj => by rw [f17.1 1 (by decide) (by decide)]; exact hO j hj
    have kl17 : σ17 0 2 = σ 0 2 := hF.2 2 (by decide)
    refine And.intro rfl ?_
    refine And.intro (by omega) ?_
    exact hQ _ _ hF ⟨hO, (show 0 ≤ σ17 2 4 ∧ σ17 2 4 ≤ σ17 2 2 ∧ σ17 2 2 ≤ 940 from by omega), by omega⟩
set_option maxHeartbeats 4000000 in
set_option maxRecDepth 100000 in
theorem sX1_readLine {σ : xS} {Q : Option xV → xS → Prop} (hp0 : 0 ≤ σ 0 2 ∧ σ 0 2 ≤ 30) (hp1 : 0 ≤ σ 5 0 ∧ σ 5 0 ≤ 13) (hp2 : 0 ≤ σ 5 1 ∧ σ 5 1 ≤ 6) (hp3 : (0 ≤ σ 2 4 ∧ σ 2 4 ≤ σ 2 2 ∧ σ 2 2 ≤ 940)) (hQ : ∀ r : Int, ∀ σ' : xS, Fr [1, 2] [] σ σ' → ((∀ j : Nat, ((j : Int) < 4 * σ 0 2) → σ' 1 j = σ 1 j) ∧ (0 ≤ σ' 2 4 ∧ σ' 2 4 ≤ σ' 2 2 ∧ σ' 2 2 ≤ 940) ∧ (r = 0 ∨ (r = 1 ∧ σ 0 2 ≤ 29 ∧ (0 ≤ σ' 1 (4 * σ 0 2).toNat ∧ σ' 1 (4 * σ 0 2).toNat ≤ 5) ∧ (0 ≤ σ' 1 (4 * σ 0 2 + 1).toNat ∧ σ' 1 (4 * σ 0 2 + 1).toNat ≤ 5) ∧ (0 ≤ σ' 1 (4 * σ 0 2 + 2).toNat ∧ σ' 1 (4 * σ 0 2 + 2).toNat ≤ 12)))) → Q (some (xvi r)) σ') : xT kX1_readLine [xvr 0, xvr 5] σ Q := by
  refine ⟨Nat.le_of_ble_eq_true rfl, fun X hX => ?_⟩
  show X 0 [xvr 0, xvr 5] σ
  have hF : Fr [1, 2] [] σ σ := Fr.rf
  refine hX 400 0 _ _ ?_
  have hO : ∀ j : Nat, ((j : Int) < 4 * σ 0 2) → σ 1 j = σ 1 j := fun _ _ => rfl
  refine xMVf (sh := shE) (ci := 6) (τ := [2, 3, 4, 5, 6, 7, 8, 9, 10, 11, 12, 13, 14, 15, 16, 17]) (E := xT kX6_isPerson) (t := 2) (r := [xvr 5]) (σ := σ) rfl rfl (fun Q1 hQ1 => sX6_isPerson (σ := xsel [2, 3, 4, 5, 6, 7, 8, 9, 10, 11, 12, 13, 14, 15, 16, 17] σ)  (show 0 ≤ (σ 5 1) ∧ (σ 5 1) ≤ 6 from by omega) (fun r1 ς1 f1 p1 => hQ1 _ _ ?_))
  have kq1_2 : (xbk [2, 3, 4, 5, 6, 7, 8, 9, 10, 11, 12, 13, 14, 15, 16, 17] σ ς1) 2 2 = σ 2 2 := f1.2 2 (by decide)
  have kq1_4 : (xbk [2, 3, 4, 5, 6, 7, 8, 9, 10, 11, 12, 13, 14, 15, 16, 17] σ ς1) 2 4 = σ 2 4 := f1.2 4 (by decide)
  have kq1_5 : (xbk [2, 3, 4, 5, 6, 7, 8, 9, 10, 11, 12, 13, 14, 15, 16, 17] σ ς1) 2 5 = σ 2 5 := f1.2 5 (by decide)
  have kq1_7 : (xbk [2, 3, 4, 5, 6, 7, 8, 9, 10, 11, 12, 13, 14, 15, 16, 17] σ ς1) 2 7 = σ 2 7 := f1.2 7 (by decide)
  have kq1_8 : (xbk [2, 3, 4, 5, 6, 7, 8, 9, 10, 11, 12, 13, 14, 15, 16, 17] σ ς1) 2 8 = σ 2 8 := f1.2 8 (by decide)
  replace f1 : Fr [2] [] σ (xbk [2, 3, 4, 5, 6, 7, 8, 9, 10, 11, 12, 13, 14, 15, 16, 17] σ ς1) := f1.bk (by decide) (by decide)
  replace p1 : (r1 = 1 ∧ HasN (σ 6) ((σ 5 1)) ((σ 2 8))) ∨ (r1 = 0 ∧ (0 : Int) ≤ 0) := p1
  generalize xbk [2, 3, 4, 5, 6, 7, 8, 9, 10, 11, 12, 13, 14, 15, 16, 17] σ ς1 = σ1 at f1 kq1_2 kq1_4 kq1_5 kq1_7 kq1_8 p1 ⊢
  have hF := hF.tr f1 (by decide) (by decide)
  have hO : ∀ j : Nat, ((j : Int) < 4 * σ 0 2) → σ1 1 j = σ 1 j := fun j hj => (congrFun (f1.1 1 (by decide) (by decide)) j).trans (hO j hj)
  have kl1 : σ1 0 2 = σ 0 2 := hF.2 2 (by decide)
  have k50_1 : σ1 5 0 = σ 5 0 := congrFun (hF.1 5 (by decide) (by decide)) 0
  have k51_1 : σ1 5 1 = σ 5 1 := congrFun (hF.1 5 (by decide) (by decide)) 1
  have hN : r1 = 1 → HasN (σ1 6) (σ1 5 1) (σ1 2 8) := fun hr => by
    rw [f1.1 6 (by decide) (by decide), f1.1 5 (by decide) (by decide), kq1_8]
    rcases p1 with z | z
    · exact z.2
    · exfalso; omega
  replace p1 : r1 = 0 ∨ r1 = 1 := by
    rcases p1 with z | z
    · exact Or.inr z.1
    · exact Or.inl z.1
  refine And.intro (fun c2 => ?_) (fun c2 => ?_)
  · intro v3 e3 l3 h3
    have e3 : v3 = σ1 0 2 := e3
    refine And.intro (fun c4 => ?_) (fun c4 => ?_)
    · intro v5 e5 l5 h5
      have e5 : v5 = σ1 0 2 := e5
      intro z6 t6 e6 l6 h6
      try have w6 : t6 = 0 := by omega
      intro v7 e7 l7 h7
      have e7 : v7 = σ1 2 8 := e7
      have hNv : HasN (σ1 6) (σ1 5 1) v7 := by rw [show v7 = σ1 2 8 from by omega]; exact hN (by omega)
      clear hN
      refine xMVp (sh := shE) (ci := 2) (τ := [5, 6, 7, 8, 9, 10, 11, 12, 13, 14, 15, 16, 17]) (E := xT kX2_find) (t := 5) (r := [xvl v7]) (σ := σ1) rfl rfl xbk_sel (fun Q8 hQ8 => sX2_findE (σ := xsel [5, 6, 7, 8, 9, 10, 11, 12, 13, 14, 15, 16, 17] σ1) (name := v7) (show 0 ≤ (σ1 5 1) ∧ (σ1 5 1) ≤ 6 from by omega) (fun r8 p8 => hQ8 _ ?_))
      have p8 : (r8 = -1 ∧ ∀ q : Nat, (q : Int) < (σ1 5 1) → ¬ σ1 6 q = v7) ∨ (0 ≤ r8 ∧ r8 < (σ1 5 1) ∧ σ1 6 r8.toNat = v7) := p8
      replace p8 := HasN.f hNv p8
      clear hNv
      refine And.intro (rfl) (And.intro (⟨by omega, by omega⟩) ?_)
      have hF := hF.pt (t := 1) (j := z6.toNat) (v := r8) (by decide) (by decide)
      have hO : ∀ j : Nat, ((j : Int) < 4 * σ 0 2) → (xput σ1 1 z6.toNat r8) 1 j = σ 1 j := fun j hj => by
        show xput σ1 1 z6.toNat r8 1 j = σ 1 j
        refine Eq.trans (b := σ1 1 j) ?_ (hO j hj)
        rw [xput_up, up_n (by omega)]
      have hA : 0 ≤ (xput σ1 1 z6.toNat r8) 1 (4 * σ 0 2).toNat ∧ (xput σ1 1 z6.toNat r8) 1 (4 * σ 0 2).toNat ≤ 5 := by
        rw [show (xput σ1 1 z6.toNat r8) 1 (4 * σ 0 2).toNat = r8 from (by show xput σ1 1 z6.toNat r8 1 (4 * σ 0 2).toNat = _; rw [xput_up, show z6.toNat = (4 * σ 0 2).toNat from by omega, up_s])]; omega
      refine xMVf (sh := shE) (ci := 6) (τ := [2, 3, 4]) (E := xT kX6_advance) (t := 2) (r := []) (σ := (xput σ1 1 z6.toNat r8)) rfl rfl (fun Q10 hQ10 => sX6_advance (σ := xsel [2, 3, 4] (xput σ1 1 z6.toNat r8))  (show 0 ≤ (σ1 2 4) ∧ (σ1 2 4) ≤ (σ1 2 2) ∧ (σ1 2 2) ≤ 940 from by omega) (fun ς10 f10 p10 => hQ10 _ _ ?_))
      have kq10_2 : (xbk [2, 3, 4] (xput σ1 1 z6.toNat r8) ς10) 2 2 = σ1 2 2 := f10.2 2 (by decide)
      replace f10 : Fr [2] [] (xput σ1 1 z6.toNat r8) (xbk [2, 3, 4] (xput σ1 1 z6.toNat r8) ς10) := f10.bk (by decide) (by decide)
      replace p10 : 0 ≤ (xbk [2, 3, 4] (xput σ1 1 z6.toNat r8) ς10) 2 4 ∧ (xbk [2, 3, 4] (xput σ1 1 z6.toNat r8) ς10) 2 4 ≤ (σ1 2 2) := p10
      generalize xbk [2, 3, 4] (xput σ1 1 z6.toNat r8) ς10 = σ10 at f10 kq10_2 p10 ⊢
      have hF := hF.tr f10 (by decide) (by decide)
      have hO : ∀ j : Nat, ((j : Int) < 4 * σ 0 2) → σ10 1 j = σ 1 j := fun j hj => (congrFun (f10.1 1 (by decide) (by decide)) j).trans (hO j hj)
      have kl10 : σ10 0 2 = σ 0 2 := hF.2 2 (by decide)
      have k50_10 : σ10 5 0 = σ 5 0 := congrFun (hF.1 5 (by decide) (by decide)) 0
      have k51_10 : σ10 5 1 = σ 5 1 := congrFun (hF.1 5 (by decide) (by decide)) 1
      have hA : 0 ≤ σ10 1 (4 * σ 0 2).toNat ∧ σ10 1 (4 * σ 0 2).toNat ≤ 5 := by rw [f10.1 1 (by decide) (by decide)]; exact hA
      refine xMVf (sh := shE) (ci := 6) (τ := [2, 3, 4]) (E := xT kX6_pass) (t := 2) (r := [xvi 6]) (σ := σ10) rfl rfl (fun Q11 hQ11 => sX6_pass (σ := xsel [2, 3, 4] σ10) (wanted := 6) (show 0 ≤ (σ10 2 4) ∧ (σ10 2 4) ≤ (σ10 2 2) ∧ (σ10 2 2) ≤ 940 from by omega) (fun r11 ς11 f11 p11 => hQ11 _ _ ?_))
      have kq11_2 : (xbk [2, 3, 4] σ10 ς11) 2 2 = σ10 2 2 := f11.2 2 (by decide)
      replace f11 : Fr [2] [] σ10 (xbk [2, 3, 4] σ10 ς11) := f11.bk (by decide) (by decide)
      replace p11 : (0 ≤ (xbk [2, 3, 4] σ10 ς11) 2 4 ∧ (xbk [2, 3, 4] σ10 ς11) 2 4 ≤ (σ10 2 2)) ∧ (r11 = 0 ∨ r11 = 1) := p11
      generalize xbk [2, 3, 4] σ10 ς11 = σ11 at f11 kq11_2 p11 ⊢
      have hF := hF.tr f11 (by decide) (by decide)
      have hO : ∀ j : Nat, ((j : Int) < 4 * σ 0 2) → σ11 1 j = σ 1 j := fun j hj => (congrFun (f11.1 1 (by decide) (by decide)) j).trans (hO j hj)
      have kl11 : σ11 0 2 = σ 0 2 := hF.2 2 (by decide)
      have k50_11 : σ11 5 0 = σ 5 0 := congrFun (hF.1 5 (by decide) (by decide)) 0
      have k51_11 : σ11 5 1 = σ 5 1 := congrFun (hF.1 5 (by decide) (by decide)) 1
      have hA : 0 ≤ σ11 1 (4 * σ 0 2).toNat ∧ σ11 1 (4 * σ 0 2).toNat ≤ 5 := by rw [f11.1 1 (by decide) (by decide)]; exact hA
      refine And.intro (fun c12 => ?_) (fun c12 => ?_)
      · refine hX 400 83 _ _ ?_
        refine And.intro rfl ?_
        refine And.intro (by omega) ?_
        exact hQ _ _ hF ⟨hO, (show 0 ≤ σ11 2 4 ∧ σ11 2 4 ≤ σ11 2 2 ∧ σ11 2 2 ≤ 940 from by omega), Or.inl (by omega)⟩
      · refine xMVf (sh := shE) (ci := 6) (τ := [2, 3, 4, 5, 6, 7, 8, 9, 10, 11, 12, 13, 14, 15, 16, 17]) (E := xT kX6_isPerson) (t := 2) (r := [xvr 5]) (σ := σ11) rfl rfl (fun Q13 hQ13 => sX6_isPerson (σ := xsel [2, 3, 4, 5, 6, 7, 8, 9, 10, 11, 12, 13, 14, 15, 16, 17] σ11)  (show 0 ≤ (σ11 5 1) ∧ (σ11 5 1) ≤ 6 from by omega) (fun r13 ς13 f13 p13 => hQ13 _ _ ?_))
        have kq13_2 : (xbk [2, 3, 4, 5, 6, 7, 8, 9, 10, 11, 12, 13, 14, 15, 16, 17] σ11 ς13) 2 2 = σ11 2 2 := f13.2 2 (by decide)
        have kq13_4 : (xbk [2, 3, 4, 5, 6, 7, 8, 9, 10, 11, 12, 13, 14, 15, 16, 17] σ11 ς13) 2 4 = σ11 2 4 := f13.2 4 (by decide)
        have kq13_5 : (xbk [2, 3, 4, 5, 6, 7, 8, 9, 10, 11, 12, 13, 14, 15, 16, 17] σ11 ς13) 2 5 = σ11 2 5 := f13.2 5 (by decide)
        have kq13_7 : (xbk [2, 3, 4, 5, 6, 7, 8, 9, 10, 11, 12, 13, 14, 15, 16, 17] σ11 ς13) 2 7 = σ11 2 7 := f13.2 7 (by decide)
        have kq13_8 : (xbk [2, 3, 4, 5, 6, 7, 8, 9, 10, 11, 12, 13, 14, 15, 16, 17] σ11 ς13) 2 8 = σ11 2 8 := f13.2 8 (by decide)
        replace f13 : Fr [2] [] σ11 (xbk [2, 3, 4, 5, 6, 7, 8, 9, 10, 11, 12, 13, 14, 15, 16, 17] σ11 ς13) := f13.bk (by decide) (by decide)
        replace p13 : (r13 = 1 ∧ HasN (σ11 6) ((σ11 5 1)) ((σ11 2 8))) ∨ (r13 = 0 ∧ (0 : Int) ≤ 0) := p13
        generalize xbk [2, 3, 4, 5, 6, 7, 8, 9, 10, 11, 12, 13, 14, 15, 16, 17] σ11 ς13 = σ13 at f13 kq13_2 kq13_4 kq13_5 kq13_7 kq13_8 p13 ⊢
        have hF := hF.tr f13 (by decide) (by decide)
        have hO : ∀ j : Nat, ((j : Int) < 4 * σ 0 2) → σ13 1 j = σ 1 j := fun j hj => (congrFun (f13.1 1 (by decide) (by decide)) j).trans (hO j hj)
        have kl13 : σ13 0 2 = σ 0 2 := hF.2 2 (by decide)
        have k50_13 : σ13 5 0 = σ 5 0 := congrFun (hF.1 5 (by decide) (by decide)) 0
        have k51_13 : σ13 5 1 = σ 5 1 := congrFun (hF.1 5 (by decide) (by decide)) 1
        have hA : 0 ≤ σ13 1 (4 * σ 0 2).toNat ∧ σ13 1 (4 * σ 0 2).toNat ≤ 5 := by rw [f13.1 1 (by decide) (by decide)]; exact hA
        have hN : r13 = 1 → HasN (σ13 6) (σ13 5 1) (σ13 2 8) := fun hr => by
          rw [f13.1 6 (by decide) (by decide), f13.1 5 (by decide) (by decide), kq13_8]
          rcases p13 with z | z
          · exact z.2
          · exfalso; omega
        replace p13 : r13 = 0 ∨ r13 = 1 := by
          rcases p13 with z | z
          · exact Or.inr z.1
          · exact Or.inl z.1
        refine And.intro (fun c14 => ?_) (fun c14 => ?_)
        · intro v15 e15 l15 h15
          have e15 : v15 = σ13 0 2 := e15
          intro z16 t16 e16 l16 h16
          try have w16 : t16 = 0 := by omega
          intro z17 t17 e17 l17 h17
          try have w17 : t17 = 0 := by omega
          intro v18 e18 l18 h18
          have e18 : v18 = σ13 2 8 := e18
          have hNv : HasN (σ13 6) (σ13 5 1) v18 := by rw [show v18 = σ13 2 8 from by omega]; exact hN (by omega)
          clear hN
          refine xMVp (sh := shE) (ci := 2) (τ := [5, 6, 7, 8, 9, 10, 11, 12, 13, 14, 15, 16, 17]) (E := xT kX2_find) (t := 5) (r := [xvl v18]) (σ := σ13) rfl rfl xbk_sel (fun Q19 hQ19 => sX2_findE (σ := xsel [5, 6, 7, 8, 9, 10, 11, 12, 13, 14, 15, 16, 17] σ13) (name := v18) (show 0 ≤ (σ13 5 1) ∧ (σ13 5 1) ≤ 6 from by omega) (fun r19 p19 => hQ19 _ ?_))
          have p19 : (r19 = -1 ∧ ∀ q : Nat, (q : Int) < (σ13 5 1) → ¬ σ13 6 q = v18) ∨ (0 ≤ r19 ∧ r19 < (σ13 5 1) ∧ σ13 6 r19.toNat = v18) := p19
          replace p19 := HasN.f hNv p19
          clear hNv
          refine And.intro (rfl) (And.intro (⟨by omega, by omega⟩) ?_)
          have hF := hF.pt (t := 1) (j := z17.toNat) (v := r19) (by decide) (by decide)
          have hO : ∀ j : Nat, ((j : Int) < 4 * σ 0 2) → (xput σ13 1 z17.toNat r19) 1 j = σ 1 j := fun j hj => by
            show xput σ13 1 z17.toNat r19 1 j = σ 1 j
            refine Eq.trans (b := σ13 1 j) ?_ (hO j hj)
            rw [xput_up, up_n (by omega)]
          have hA : 0 ≤ (xput σ13 1 z17.toNat r19) 1 (4 * σ 0 2).toNat ∧ (xput σ13 1 z17.toNat r19) 1 (4 * σ 0 2).toNat ≤ 5 := by
            rw [show (xput σ13 1 z17.toNat r19) 1 (4 * σ 0 2).toNat = σ13 1 (4 * σ 0 2).toNat from (by show xput σ13 1 z17.toNat r19 1 (4 * σ 0 2).toNat = _; rw [xput_up, up_n (by omega)])]; exact hA
          have hB : 0 ≤ (xput σ13 1 z17.toNat r19) 1 (4 * σ 0 2 + 1).toNat ∧ (xput σ13 1 z17.toNat r19) 1 (4 * σ 0 2 + 1).toNat ≤ 5 := by
            rw [show (xput σ13 1 z17.toNat r19) 1 (4 * σ 0 2 + 1).toNat = r19 from (by show xput σ13 1 z17.toNat r19 1 (4 * σ 0 2 + 1).toNat = _; rw [xput_up, show z17.toNat = (4 * σ 0 2 + 1).toNat from by omega, up_s])]; omega
          refine xMVf (sh := shE) (ci := 6) (τ := [2, 3, 4]) (E := xT kX6_advance) (t := 2) (r := []) (σ := (xput σ13 1 z17.toNat r19)) rfl rfl (fun Q21 hQ21 => sX6_advance (σ := xsel [2, 3, 4] (xput σ13 1 z17.toNat r19))  (show 0 ≤ (σ13 2 4) ∧ (σ13 2 4) ≤ (σ13 2 2) ∧ (σ13 2 2) ≤ 940 from by omega) (fun ς21 f21 p21 => hQ21 _ _ ?_))
          have kq21_2 : (xbk [2, 3, 4] (xput σ13 1 z17.toNat r19) ς21) 2 2 = σ13 2 2 := f21.2 2 (by decide)
          replace f21 : Fr [2] [] (xput σ13 1 z17.toNat r19) (xbk [2, 3, 4] (xput σ13 1 z17.toNat r19) ς21) := f21.bk (by decide) (by decide)
          replace p21 : 0 ≤ (xbk [2, 3, 4] (xput σ13 1 z17.toNat r19) ς21) 2 4 ∧ (xbk [2, 3, 4] (xput σ13 1 z17.toNat r19) ς21) 2 4 ≤ (σ13 2 2) := p21
          generalize xbk [2, 3, 4] (xput σ13 1 z17.toNat r19) ς21 = σ21 at f21 kq21_2 p21 ⊢
          have hF := hF.tr f21 (by decide) (by decide)
          have hO : ∀ j : Nat, ((j : Int) < 4 * σ 0 2) → σ21 1 j = σ 1 j := fun j hj => (congrFun (f21.1 1 (by decide) (by decide)) j).trans (hO j hj)
          have kl21 : σ21 0 2 = σ 0 2 := hF.2 2 (by decide)
          have k50_21 : σ21 5 0 = σ 5 0 := congrFun (hF.1 5 (by decide) (by decide)) 0
          have k51_21 : σ21 5 1 = σ 5 1 := congrFun (hF.1 5 (by decide) (by decide)) 1
          have hA : 0 ≤ σ21 1 (4 * σ 0 2).toNat ∧ σ21 1 (4 * σ 0 2).toNat ≤ 5 := by rw [f21.1 1 (by decide) (by decide)]; exact hA
          have hB : 0 ≤ σ21 1 (4 * σ 0 2 + 1).toNat ∧ σ21 1 (4 * σ 0 2 + 1).toNat ≤ 5 := by rw [f21.1 1 (by decide) (by decide)]; exact hB
          intro v22 e22 l22 h22
          have e22 : v22 = σ21 5 0 := e22
          intro z23 t23 e23 l23 h23
          try have w23 : t23 = 0 := by omega
          refine xMVf (sh := shE) (ci := 6) (τ := [2, 3, 4]) (E := xT kX6_isNumber) (t := 2) (r := [xvi 0, xvi z23]) (σ := σ21) rfl rfl (fun Q24 hQ24 => sX6_isNumber (σ := xsel [2, 3, 4] σ21) (least := 0) (greatest := z23)  (fun r24 ς24 f24 p24 => hQ24 _ _ ?_))
          have kq24_2 : (xbk [2, 3, 4] σ21 ς24) 2 2 = σ21 2 2 := f24.2 2 (by decide)
          have kq24_4 : (xbk [2, 3, 4] σ21 ς24) 2 4 = σ21 2 4 := f24.2 4 (by decide)
          have kq24_5 : (xbk [2, 3, 4] σ21 ς24) 2 5 = σ21 2 5 := f24.2 5 (by decide)
          have kq24_7 : (xbk [2, 3, 4] σ21 ς24) 2 7 = σ21 2 7 := f24.2 7 (by decide)
          have kq24_8 : (xbk [2, 3, 4] σ21 ς24) 2 8 = σ21 2 8 := f24.2 8 (by decide)
          replace f24 : Fr [2] [] σ21 (xbk [2, 3, 4] σ21 ς24) := f24.bk (by decide) (by decide)
          replace p24 : (r24 = 1 ∧ 0 ≤ (σ21 2 7) ∧ (σ21 2 7) ≤ z23) ∨ (r24 = 0 ∧ (0 : Int) ≤ 0) := p24
          generalize xbk [2, 3, 4] σ21 ς24 = σ24 at f24 kq24_2 kq24_4 kq24_5 kq24_7 kq24_8 p24 ⊢
          have hF := hF.tr f24 (by decide) (by decide)
          have hO : ∀ j : Nat, ((j : Int) < 4 * σ 0 2) → σ24 1 j = σ 1 j := fun j hj => (congrFun (f24.1 1 (by decide) (by decide)) j).trans (hO j hj)
          have kl24 : σ24 0 2 = σ 0 2 := hF.2 2 (by decide)
          have k50_24 : σ24 5 0 = σ 5 0 := congrFun (hF.1 5 (by decide) (by decide)) 0
          have k51_24 : σ24 5 1 = σ 5 1 := congrFun (hF.1 5 (by decide) (by decide)) 1
          have hA : 0 ≤ σ24 1 (4 * σ 0 2).toNat ∧ σ24 1 (4 * σ 0 2).toNat ≤ 5 := by rw [f24.1 1 (by decide) (by decide)]; exact hA
          have hB : 0 ≤ σ24 1 (4 * σ 0 2 + 1).toNat ∧ σ24 1 (4 * σ 0 2 + 1).toNat ≤ 5 := by rw [f24.1 1 (by decide) (by decide)]; exact hB
          refine And.intro (fun c25 => ?_) (fun c25 => ?_)
          · intro v26 e26 l26 h26
            have e26 : v26 = σ24 0 2 := e26
            intro z27 t27 e27 l27 h27
            try have w27 : t27 = 0 := by omega
            intro z28 t28 e28 l28 h28
            try have w28 : t28 = 0 := by omega
            intro v29 e29 l29 h29
            have e29 : v29 = σ24 2 7 := e29
            refine And.intro (rfl) (And.intro (⟨by omega, by omega⟩) ?_)
            have hF := hF.pt (t := 1) (j := z28.toNat) (v := v29) (by decide) (by decide)
            have hO : ∀ j : Nat, ((j : Int) < 4 * σ 0 2) → (xput σ24 1 z28.toNat v29) 1 j = σ 1 j := fun j hj => by
              show xput σ24 1 z28.toNat v29 1 j = σ 1 j
              refine Eq.trans (b := σ24 1 j) ?_ (hO j hj)
              rw [xput_up, up_n (by omega)]
            have hA : 0 ≤ (xput σ24 1 z28.toNat v29) 1 (4 * σ 0 2).toNat ∧ (xput σ24 1 z28.toNat v29) 1 (4 * σ 0 2).toNat ≤ 5 := by
              rw [show (xput σ24 1 z28.toNat v29) 1 (4 * σ 0 2).toNat = σ24 1 (4 * σ 0 2).toNat from (by show xput σ24 1 z28.toNat v29 1 (4 * σ 0 2).toNat = _; rw [xput_up, up_n (by omega)])]; exact hA
            have hB : 0 ≤ (xput σ24 1 z28.toNat v29) 1 (4 * σ 0 2 + 1).toNat ∧ (xput σ24 1 z28.toNat v29) 1 (4 * σ 0 2 + 1).toNat ≤ 5 := by
              rw [show (xput σ24 1 z28.toNat v29) 1 (4 * σ 0 2 + 1).toNat = σ24 1 (4 * σ 0 2 + 1).toNat from (by show xput σ24 1 z28.toNat v29 1 (4 * σ 0 2 + 1).toNat = _; rw [xput_up, up_n (by omega)])]; exact hB
            have hC : 0 ≤ (xput σ24 1 z28.toNat v29) 1 (4 * σ 0 2 + 2).toNat ∧ (xput σ24 1 z28.toNat v29) 1 (4 * σ 0 2 + 2).toNat ≤ 12 := by
              rw [show (xput σ24 1 z28.toNat v29) 1 (4 * σ 0 2 + 2).toNat = v29 from (by show xput σ24 1 z28.toNat v29 1 (4 * σ 0 2 + 2).toNat = _; rw [xput_up, show z28.toNat = (4 * σ 0 2 + 2).toNat from by omega, up_s])]; omega
            refine xMVf (sh := shE) (ci := 6) (τ := [2, 3, 4]) (E := xT kX6_advance) (t := 2) (r := []) (σ := (xput σ24 1 z28.toNat v29)) rfl rfl (fun Q31 hQ31 => sX6_advance (σ := xsel [2, 3, 4] (xput σ24 1 z28.toNat v29))  (show 0 ≤ (σ24 2 4) ∧ (σ24 2 4) ≤ (σ24 2 2) ∧ (σ24 2 2) ≤ 940 from by omega) (fun ς31 f31 p31 => hQ31 _ _ ?_))
            have kq31_2 : (xbk [2, 3, 4] (xput σ24 1 z28.toNat v29) ς31) 2 2 = σ24 2 2 := f31.2 2 (by decide)
            replace f31 : Fr [2] [] (xput σ24 1 z28.toNat v29) (xbk [2, 3, 4] (xput σ24 1 z28.toNat v29) ς31) := f31.bk (by decide) (by decide)
            replace p31 : 0 ≤ (xbk [2, 3, 4] (xput σ24 1 z28.toNat v29) ς31) 2 4 ∧ (xbk [2, 3, 4] (xput σ24 1 z28.toNat v29) ς31) 2 4 ≤ (σ24 2 2) := p31
            generalize xbk [2, 3, 4] (xput σ24 1 z28.toNat v29) ς31 = σ31 at f31 kq31_2 p31 ⊢
            have hF := hF.tr f31 (by decide) (by decide)
            have hO : ∀ j : Nat, ((j : Int) < 4 * σ 0 2) → σ31 1 j = σ 1 j := fun j hj => (congrFun (f31.1 1 (by decide) (by decide)) j).trans (hO j hj)
            have kl31 : σ31 0 2 = σ 0 2 := hF.2 2 (by decide)
            have k50_31 : σ31 5 0 = σ 5 0 := congrFun (hF.1 5 (by decide) (by decide)) 0
            have k51_31 : σ31 5 1 = σ 5 1 := congrFun (hF.1 5 (by decide) (by decide)) 1
            have hA : 0 ≤ σ31 1 (4 * σ 0 2).toNat ∧ σ31 1 (4 * σ 0 2).toNat ≤ 5 := by rw [f31.1 1 (by decide) (by decide)]; exact hA
            have hB : 0 ≤ σ31 1 (4 * σ 0 2 + 1).toNat ∧ σ31 1 (4 * σ 0 2 + 1).toNat ≤ 5 := by rw [f31.1 1 (by decide) (by decide)]; exact hB
            have hC : 0 ≤ σ31 1 (4 * σ 0 2 + 2).toNat ∧ σ31 1 (4 * σ 0 2 + 2).toNat ≤ 12 := by rw [f31.1 1 (by decide) (by decide)]; exact hC
            refine sX1_readAnswer (σ := σ31)  (show 0 ≤ (σ31 0 2) ∧ (σ31 0 2) ≤ 29 from by omega) (show (0 ≤ (σ31 2 4) ∧ (σ31 2 4) ≤ (σ31 2 2) ∧ (σ31 2 2) ≤ 940) from by omega) (fun r32 σ32 f32 p32 => ?_)
            have hF := hF.tr f32 (by decide) (by decide)
            have p32 : (∀ j : Nat, ((j : Int) ≠ 4 * (σ31 0 2) + 3) → σ32 1 j = σ31 1 j) ∧ (0 ≤ σ32 2 4 ∧ σ32 2 4 ≤ σ32 2 2 ∧ σ32 2 2 ≤ 940) ∧ (r32 = 0 ∨ r32 = 1) := p32
            refine And.intro rfl ?_
            refine And.intro (by omega) ?_
            exact hQ _ _ hF ⟨fun j hj => (p32.1 j (by omega)).trans (hO j hj), p32.2.1, (by
              rcases p32.2.2 with z | z
              · exact Or.inl z
              · refine Or.inr ⟨z, by omega, ?_, ?_, ?_⟩
                · rw [p32.1 _ (by omega)]; exact hA
                · rw [p32.1 _ (by omega)]; exact hB
                · rw [p32.1 _ (by omega)]; exact hC)⟩
          · refine And.intro rfl ?_
            refine And.intro (by omega) ?_
            exact hQ _ _ hF ⟨hO, (show 0 ≤ σ24 2 4 ∧ σ24 2 4 ≤ σ24 2 2 ∧ σ24 2 2 ≤ 940 from by omega), Or.inl (by omega)⟩
        · refine hX 400 83 _ _ ?_
          refine And.intro rfl ?_
          refine And.intro (by omega) ?_
          exact hQ _ _ hF ⟨hO, (show 0 ≤ σ13 2 4 ∧ σ13 2 4 ≤ σ13 2 2 ∧ σ13 2 2 ≤ 940 from by omega), Or.inl (by omega)⟩
    · refine xMVf (sh := shE) (ci := 6) (τ := [2, 3, 4]) (E := xT kX6_fail) (t := 2) (r := [xvi 4]) (σ := σ1) rfl rfl (fun Q33 hQ33 => sX6_fail (σ := xsel [2, 3, 4] σ1) (kind := 4)  (fun r33 ς33 f33 p33 => hQ33 _ _ ?_))
      have kq33_2 : (xbk [2, 3, 4] σ1 ς33) 2 2 = σ1 2 2 := f33.2 2 (by decide)
      have kq33_4 : (xbk [2, 3, 4] σ1 ς33) 2 4 = σ1 2 4 := f33.2 4 (by decide)
      have kq33_5 : (xbk [2, 3, 4] σ1 ς33) 2 5 = σ1 2 5 := f33.2 5 (by decide)
      have kq33_7 : (xbk [2, 3, 4] σ1 ς33) 2 7 = σ1 2 7 := f33.2 7 (by decide)
      have kq33_8 : (xbk [2, 3, 4] σ1 ς33) 2 8 = σ1 2 8 := f33.2 8 (by decide)
      replace f33 : Fr [2] [] σ1 (xbk [2, 3, 4] σ1 ς33) := f33.bk (by decide) (by decide)
      replace p33 : r33 = 0 := p33
      generalize xbk [2, 3, 4] σ1 ς33 = σ33 at f33 kq33_2 kq33_4 kq33_5 kq33_7 kq33_8 p33 ⊢
      have hF := hF.tr f33 (by decide) (by decide)
      have hO : ∀ j : Nat, ((j : Int) < 4 * σ 0 2) → σ33 1 j = σ 1 j := fun j hj => (congrFun (f33.1 1 (by decide) (by decide)) j).trans (hO j hj)
      have kl33 : σ33 0 2 = σ 0 2 := hF.2 2 (by decide)
      have k50_33 : σ33 5 0 = σ 5 0 := congrFun (hF.1 5 (by decide) (by decide)) 0
      have k51_33 : σ33 5 1 = σ 5 1 := congrFun (hF.1 5 (by decide) (by decide)) 1
      refine And.intro rfl ?_
      refine And.intro (by omega) ?_
      exact hQ _ _ hF ⟨hO, (show 0 ≤ σ33 2 4 ∧ σ33 2 4 ≤ σ33 2 2 ∧ σ33 2 2 ≤ 940 from by omega), Or.inl (by omega)⟩
  · refine And.intro rfl ?_
    refine And.intro (by omega) ?_
    exact hQ _ _ hF ⟨hO, (show 0 ≤ σ1 2 4 ∧ σ1 2 4 ≤ σ1 2 2 ∧ σ1 2 2 ≤ 940 from by omega), Or.inl (by omega)⟩
