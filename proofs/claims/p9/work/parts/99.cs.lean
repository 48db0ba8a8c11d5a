def HasN (nm : Nat → Int) (n w : Int) : Prop := ∃ q : Nat, (q : Int) < n ∧ nm q = w
theorem HasN.f {nm : Nat → Int} {n w r : Int} (h : HasN nm n w) (p : (r = -1 ∧ ∀ q : Nat, (q : Int) < n → ¬ nm q = w) ∨ (0 ≤ r ∧ r < n ∧ nm r.toNat = w)) : 0 ≤ r ∧ r < n := by
  obtain ⟨q, h1, h2⟩ := h
  rcases p with p | p
  · exact absurd h2 (p.2 q h1)
  · exact ⟨p.1, p.2.1⟩
set_option maxHeartbeats 4000000 in
set_option maxRecDepth 100000 in
theorem sX6_isPerson {σ : xS} {Q : Option xV → xS → Prop} (hp0 : 0 ≤ σ 3 1 ∧ σ 3 1 ≤ 6) (hQ : ∀ r : Int, ∀ σ' : xS, Fr [] [9, 10] σ σ' → ((r = 1 ∧ HasN (σ 4) (σ 3 1) (σ 0 8)) ∨ (r = 0 ∧ (0 : Int) ≤ 0)) → Q (some (xvi r)) σ') : xT kX6_isPerson [xvr 0, xvr 3] σ Q := by
  refine ⟨Nat.le_of_ble_eq_true rfl, fun X hX => ?_⟩
  show X 0 [xvr 0, xvr 3] σ
  have hF : Fr [] [9, 10] σ σ := Fr.rf
  refine hX 400 0 _ _ ?_
  refine xMVp (sh := shQ) (ci := 6) (τ := [0, 1, 2]) (E := xT kX6_isAt) (t := 0) (r := [xvi 300]) (σ := σ) rfl rfl xbk_sel (fun Q1 hQ1 => sX6_isAt (σ := xsel [0, 1, 2] σ) (wanted := 300)  (fun r1 p1 => hQ1 _ ?_))
  have p1 : (r1 = 1 ∧ (σ 0 5) = 300) ∨ (r1 = 0 ∧ ¬ (σ 0 5) = 300) := p1
  refine And.intro (fun c2 => ?_) (fun c2 => ?_)
  · replace p1 : (σ 0 5) = 300 := by
      rcases p1 with q | q
      · exact q.2
      · exact absurd q.1 (by omega)
    intro v3 e3 l3 h3
    have e3 : v3 = σ 0 8 := e3
    refine xMVp (sh := shQ) (ci := 2) (τ := [3, 4, 5, 6, 7, 8, 9, 10, 11, 12, 13, 14, 15]) (E := xT kX2_find) (t := 3) (r := [xvl v3]) (σ := σ) rfl rfl xbk_sel (fun Q4 hQ4 => sX2_findE (σ := xsel [3, 4, 5, 6, 7, 8, 9, 10, 11, 12, 13, 14, 15] σ) (name := v3) (show 0 ≤ (σ 3 1) ∧ (σ 3 1) ≤ 6 from by omega) (fun r4 p4 => hQ4 _ ?_))
    have p4 : (r4 = -1 ∧ ∀ q : Nat, (q : Int) < (σ 3 1) → ¬ σ 4 q = v3) ∨ (0 ≤ r4 ∧ r4 < (σ 3 1) ∧ σ 4 r4.toNat = v3) := p4
    have hfn := p4
    replace p4 : ¬ r4 = -1 → HasN (σ 4) (σ 3 1) (σ 0 8) := fun hne => by
      rcases hfn with z | z
      · exact absurd z.1 hne
      · exact ⟨r4.toNat, by omega, by rw [z.2.2]; omega⟩
    clear hfn
    refine And.intro (fun c5 => ?_) (fun c5 => ?_)
    · refine hX 400 36 _ _ ?_
      refine And.intro rfl ?_
      refine And.intro (by omega) ?_
      exact hQ _ _ hF (Or.inl ⟨rfl, p4 (by omega)⟩)
    · refine xMVf (sh := shQ) (ci := 6) (τ := [0, 1, 2]) (E := xT kX6_fail) (t := 0) (r := [xvi 3]) (σ := σ) rfl rfl (fun Q6 hQ6 => sX6_fail (σ := xsel [0, 1, 2] σ) (kind := 3)  (fun r6 ς6 f6 p6 => hQ6 _ _ ?_))
      have kq6_2 : (xbk [0, 1, 2] σ ς6) 0 2 = σ 0 2 := f6.2 2 (by decide)
      have kq6_4 : (xbk [0, 1, 2] σ ς6) 0 4 = σ 0 4 := f6.2 4 (by decide)
      have kq6_5 : (xbk [0, 1, 2] σ ς6) 0 5 = σ 0 5 := f6.2 5 (by decide)
      have kq6_7 : (xbk [0, 1, 2] σ ς6) 0 7 = σ 0 7 := f6.2 7 (by decide)
      have kq6_8 : (xbk [0, 1, 2] σ ς6) 0 8 = σ 0 8 := f6.2 8 (by decide)
      replace f6 : Fr [] [9, 10] σ (xbk [0, 1, 2] σ ς6) := f6.bk0 (by decide) (by decide) (by decide)
      replace p6 : r6 = 0 := p6
      generalize xbk [0, 1, 2] σ ς6 = σ6 at f6 kq6_2 kq6_4 kq6_5 kq6_7 kq6_8 p6 ⊢
      have hF := hF.tr f6 (by decide) (by decide)
      refine And.intro (fun c7 => ?_) (fun c7 => ?_)
      · refine And.intro rfl ?_
        refine And.intro (by omega) ?_
        exact hQ _ _ hF (Or.inr ⟨by omega, by omega⟩)
      · refine hX 400 36 _ _ ?_
        refine And.intro rfl ?_
        refine And.intro (by omega) ?_
        exfalso; omega
  · replace p1 : ¬ (σ 0 5) = 300 := by
      rcases p1 with q | q
      · exact absurd q.1 (by omega)
      · exact q.2
    refine xMVf (sh := shQ) (ci := 6) (τ := [0, 1, 2]) (E := xT kX6_fail) (t := 0) (r := [xvi 1]) (σ := σ) rfl rfl (fun Q8 hQ8 => sX6_fail (σ := xsel [0, 1, 2] σ) (kind := 1)  (fun r8 ς8 f8 p8 => hQ8 _ _ ?_))
    have kq8_2 : (xbk [0, 1, 2] σ ς8) 0 2 = σ 0 2 := f8.2 2 (by decide)
    have kq8_4 : (xbk [0, 1, 2] σ ς8) 0 4 = σ 0 4 := f8.2 4 (by decide)
    have kq8_5 : (xbk [0, 1, 2] σ ς8) 0 5 = σ 0 5 := f8.2 5 (by decide)
    have kq8_7 : (xbk [0, 1, 2] σ ς8) 0 7 = σ 0 7 := f8.2 7 (by decide)
    have kq8_8 : (xbk [0, 1, 2] σ ς8) 0 8 = σ 0 8 := f8.2 8 (by decide)
    replace f8 : Fr [] [9, 10] σ (xbk [0, 1, 2] σ ς8) := f8.bk0 (by decide) (by decide) (by decide)
    replace p8 : r8 = 0 := p8
    generalize xbk [0, 1, 2] σ ς8 = σ8 at f8 kq8_2 kq8_4 kq8_5 kq8_7 kq8_8 p8 ⊢
    have hF := hF.tr f8 (by decide) (by decide)
    refine And.intro rfl ?_
    refine And.intro (by omega) ?_
    exact hQ _ _ hF (Or.inr ⟨by omega, by omega⟩)
set_option maxHeartbeats 4000000 in
set_option maxRecDepth 100000 in
theorem sX7_compares {σ : xS} {measure sign number : Int} {Q : Option xV → xS → Prop} (hQ : ∀ r : Int, (r = 0 ∨ r = 1) → Q (some (xvi r)) σ) : xT kX7_compares [xvi measure, xvi sign, xvi number] σ Q := by
  refine ⟨Nat.le_of_ble_eq_true rfl, fun X hX => ?_⟩
  show X 0 [xvi measure, xvi sign, xvi number] σ
  refine hX 400 0 _ _ ?_
  refine And.intro (fun c1 => ?_) (fun c1 => ?_)
  · refine And.intro (fun c2 => ?_) (fun c2 => ?_)
    · refine And.intro (fun c3 => ?_) (fun c3 => ?_)
      · refine And.intro rfl ?_
        refine And.intro (by omega) ?_
        exact hQ _ (show 0 = 0 ∨ 0 = 1 from by first | trivial | omega)
      · refine And.intro rfl ?_
        refine And.intro (by omega) ?_
        exact hQ _ (show 1 = 0 ∨ 1 = 1 from by first | trivial | omega)
    · refine And.intro (fun c4 => ?_) (fun c4 => ?_)
      · refine And.intro rfl ?_
        refine And.intro (by omega) ?_
        exact hQ _ (show 0 = 0 ∨ 0 = 1 from by first | trivial | omega)
      · refine And.intro rfl ?_
        refine And.intro (by omega) ?_
        exact hQ _ (show 1 = 0 ∨ 1 = 1 from by first | trivial | omega)
  · refine And.intro (fun c5 => ?_) (fun c5 => ?_)
    · refine And.intro rfl ?_
      refine And.intro (by omega) ?_
      exact hQ _ (show 0 = 0 ∨ 0 = 1 from by first | trivial | omega)
    · refine And.intro rfl ?_
      refine And.intro (by omega) ?_
      exact hQ _ (show 1 = 0 ∨ 1 = 1 from by first | trivial | omega)
set_option maxHeartbeats 4000000 in
set_option maxRecDepth 100000 in
theorem sX7_clear {σ : xS} {Q : Option xV → xS → Prop} (hQ : ∀ σ' : xS, Fr [] [1] σ σ' → (σ' 0 1 = 0) → Q none σ') : xT kX7_clear [xvr 0] σ Q := by
  refine ⟨Nat.le_of_ble_eq_true rfl, fun X hX => ?_⟩
  show X 0 [xvr 0] σ
  have hF : Fr [] [1] σ σ := Fr.rf
  refine hX 400 0 _ _ ?_
  have hF := hF.p (j := 1) (v := 0) (by decide)
  refine And.intro rfl (And.intro rfl ?_)
  exact hQ _ hF rfl
set_option maxHeartbeats 4000000 in
set_option maxRecDepth 100000 in
theorem sX7_add {σ : xS} {word sign number : Int} {Q : Option xV → xS → Prop} (hp0 : 0 ≤ σ 0 1 ∧ σ 0 1 ≤ 40) (hQ : ∀ σ' : xS, Fr [1] [1] σ σ' → (0 ≤ σ' 0 1 ∧ σ' 0 1 ≤ 40) → Q none σ') : xT kX7_add [xvr 0, xvi word, xvi sign, xvi number] σ Q := by
  refine ⟨Nat.le_of_ble_eq_true rfl, fun X hX => ?_⟩
  show X 0 [xvr 0, xvi word, xvi sign, xvi number] σ
  have hF : Fr [1] [1] σ σ := Fr.rf
  refine hX 400 0 _ _ ?_
  intro v1 e1 l1 h1
  have e1 : v1 = σ 0 1 := e1
  refine And.intro (fun c2 => ?_) (fun c2 => ?_)
  · refine hX 400 39 _ _ ?_
    refine And.intro rfl (And.intro rfl ?_)
    exact hQ _ hF (show 0 ≤ (σ 0 1) ∧ (σ 0 1) ≤ 40 from by first | trivial | omega)
  · intro v3 e3 l3 h3
    have e3 : v3 = σ 0 1 := e3
    intro z4 e4 l4 h4
    intro z5 e5 l5 h5
    intro z6 e6 l6 h6
    intro z7 e7 l7 h7
    refine And.intro (rfl) (And.intro (⟨by omega, by omega⟩) ?_)
    have hF := hF.pt (t := 1) (j := v3.toNat) (v := z7) (by decide) (by decide)
    intro v9 e9 l9 h9
    have e9 : v9 = σ 0 1 := e9
    intro z10 t10 e10 l10 h10
    try have w10 : t10 = 0 := by omega
    have hF := hF.p (j := 1) (v := z10) (by decide)
    refine hX 400 39 _ _ ?_
    refine And.intro rfl (And.intro rfl ?_)
    exact hQ _ hF (show 0 ≤ (z10) ∧ (z10) ≤ 40 from by first | trivial | omega)
set_option maxHeartbeats 4000000 in
set_option maxRecDepth 100000 in
theorem sX7_copyFrom {σ : xS} {Q : Option xV → xS → Prop} (hQ : ∀ σ' : xS, Fr [1] [1] σ σ' → (σ' 0 1 = σ 2 1) → Q none σ') : xT kX7_copyFrom [xvr 0, xvr 2] σ Q := by
  refine ⟨Nat.le_of_ble_eq_true rfl, fun X hX => ?_⟩
  show X 0 [xvr 0, xvr 2] σ
  have hF : Fr [1] [1] σ σ := Fr.rf
  refine hX 400 0 _ _ ?_
  refine And.intro (Or.inl rfl) (And.intro rfl (And.intro ⟨by omega, by omega, by omega, by omega, by omega⟩ ?_))
  have f1 : Fr [1] [] σ (xcp σ 3 (0 : Int).toNat 1 (0 : Int).toNat (40 : Int).toNat) := Fr.cp (by decide)
  generalize xcp σ 3 (0 : Int).toNat 1 (0 : Int).toNat (40 : Int).toNat = σ1 at f1 ⊢
  have hF := hF.tr f1 (by decide) (by decide)
  have kk1 := congrFun (f1.1 2 (by decide) (by decide)) 1
  intro v2 e2 l2 h2
  have e2 : v2 = σ1 2 1 := e2
  have hF := hF.p (j := 1) (v := v2) (by decide)
  refine And.intro rfl (And.intro rfl ?_)
  exact hQ _ hF (show v2 = σ 2 1 from by omega)
