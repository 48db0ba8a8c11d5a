def SQ (σ : xS) (Q : Option xV → xS → Prop) : Prop := ∀ (r : Int) (σ' : xS), Fr [1, 2, 3] [2] σ σ' → ((0 ≤ σ' 1 1 ∧ σ' 1 1 ≤ 40) ∧ (0 ≤ σ' 3 4 ∧ σ' 3 4 ≤ σ' 3 2 ∧ σ' 3 2 ≤ 940) ∧ (r = 0 ∨ r = 1)) → Q (some (xvi r)) σ'
/-- what a part of a sentence asks, at most n deep yet -/
def SE (n : Nat) : xE := fun as σ Q => ∃ depth : Int, as = [xvr 0, xvr 6, xvi depth] ∧ (0 ≤ depth ∧ depth ≤ 9 ∧ 10 - depth ≤ n) ∧ (0 ≤ σ 1 1 ∧ σ 1 1 ≤ 40) ∧ (0 ≤ σ 3 4 ∧ σ 3 4 ≤ σ 3 2 ∧ σ 3 2 ≤ 940) ∧ (0 ≤ σ 6 1 ∧ σ 6 1 ≤ 6) ∧ SQ σ Q
theorem SE_i {n : Nat} {depth : Int} {σ : xS} {Q : Option xV → xS → Prop} (h0 : 0 ≤ depth ∧ depth ≤ 9 ∧ 10 - depth ≤ n) (h1 : (0 ≤ σ 1 1 ∧ σ 1 1 ≤ 40)) (h2 : (0 ≤ σ 3 4 ∧ σ 3 4 ≤ σ 3 2 ∧ σ 3 2 ≤ 940)) (h3 : (0 ≤ σ 6 1 ∧ σ 6 1 ≤ 6)) (hQ : ∀ (r : Int) (σ' : xS), Fr [1, 2, 3] [2] σ σ' → ((0 ≤ σ' 1 1 ∧ σ' 1 1 ≤ 40) ∧ (0 ≤ σ' 3 4 ∧ σ' 3 4 ≤ σ' 3 2 ∧ σ' 3 2 ≤ 940) ∧ (r = 0 ∨ r = 1)) → Q (some (xvi r)) σ') : SE n [xvr 0, xvr 6, xvi depth] σ Q := ⟨depth, rfl, h0, h1, h2, h3, hQ⟩
set_option maxHeartbeats 4000000 in
set_option maxRecDepth 100000 in
theorem sX8_beginsOne {σ : xS} {Q : Option xV → xS → Prop} (hQ : ∀ r : Int, (r = 0 ∨ r = 1) → Q (some (xvi r)) σ) : xT kX8_beginsOne [xvr 0] σ Q := by
  refine ⟨Nat.le_of_ble_eq_true rfl, fun X hX => ?_⟩
  show X 0 [xvr 0, xvu] σ
  refine hX 400 0 _ _ ?_
  intro v1 e1 l1 h1
  have e1 : v1 = σ 3 5 := e1
  refine And.intro (Nat.le_of_ble_eq_true rfl) ?_
  show xw _ _ _ _ _ _ _ _ _ _ [xvr 0, xvi v1] _ _
  have lp_26 : ∀ (tk : Int), (True) → X 26 [xvr 0, xvi tk] σ := by
    intro tk hv_26
    refine hX 400 26 _ _ ?_
    refine And.intro rfl ?_
    refine And.intro (by omega) ?_
    exact hQ _ (show 1 = 0 ∨ 1 = 1 from by first | trivial | omega)
  have lp_30 : ∀ (tk : Int), (True) → X 30 [xvr 0, xvi tk] σ := by
    intro tk hv_30
    refine hX 400 30 _ _ ?_
    refine And.intro rfl ?_
    refine And.intro (by omega) ?_
    exact hQ _ (show 0 = 0 ∨ 0 = 1 from by first | trivial | omega)
  refine And.intro (fun c4 => ?_) (fun c4 => ?_)
  · exact lp_26 v1 (show True from by first | trivial | omega | (refine ⟨by assumption, ?_⟩; omega) | (refine ⟨?_, ?_⟩ <;> omega))
  · refine And.intro (fun c5 => ?_) (fun c5 => ?_)
    · exact lp_30 v1 (show True from by first | trivial | omega | (refine ⟨by assumption, ?_⟩; omega) | (refine ⟨?_, ?_⟩ <;> omega))
    · refine And.intro (fun c6 => ?_) (fun c6 => ?_)
      · exact lp_30 v1 (show True from by first | trivial | omega | (refine ⟨by assumption, ?_⟩; omega) | (refine ⟨?_, ?_⟩ <;> omega))
      · exact lp_26 v1 (show True from by first | trivial | omega | (refine ⟨by assumption, ?_⟩; omega) | (refine ⟨?_, ?_⟩ <;> omega))
set_option maxHeartbeats 4000000 in
set_option maxRecDepth 100000 in
theorem sX8_readPerson {σ : xS} {word : Int} {Q : Option xV → xS → Prop} (hp0 : (0 ≤ σ 1 1 ∧ σ 1 1 ≤ 40)) (hp1 : (0 ≤ σ 3 4 ∧ σ 3 4 ≤ σ 3 2 ∧ σ 3 2 ≤ 940)) (hp2 : (0 ≤ σ 6 1 ∧ σ 6 1 ≤ 6)) (hQ : ∀ r : Int, ∀ σ' : xS, Fr [1, 2, 3] [] σ σ' → ((0 ≤ σ' 1 1 ∧ σ' 1 1 ≤ 40) ∧ (0 ≤ σ' 3 4 ∧ σ' 3 4 ≤ σ' 3 2 ∧ σ' 3 2 ≤ 940) ∧ (r = 0 ∨ r = 1)) → Q (some (xvi r)) σ') : xT kX8_readPerson [xvr 0, xvr 6, xvi word] σ Q := by
  refine ⟨Nat.le_of_ble_eq_true rfl, fun X hX => ?_⟩
  show X 0 [xvr 0, xvr 6, xvi word] σ
  have hF : Fr [1, 2, 3] [] σ σ := Fr.rf
  refine hX 400 0 _ _ ?_
  refine xMVf (sh := shS) (ci := 6) (τ := [3, 4, 5, 6, 7, 8, 9, 10, 11, 12, 13, 14, 15, 16, 17, 18]) (E := xT kX6_isPerson) (t := 3) (r := [xvr 6]) (σ := σ) rfl rfl (fun Q1 hQ1 => sX6_isPerson (σ := xsel [3, 4, 5, 6, 7, 8, 9, 10, 11, 12, 13, 14, 15, 16, 17, 18] σ)  (show 0 ≤ (σ 6 1) ∧ (σ 6 1) ≤ 6 from by omega) (fun r1 ς1 f1 p1 => hQ1 _ _ ?_))
  have kq1_2 : (xbk [3, 4, 5, 6, 7, 8, 9, 10, 11, 12, 13, 14, 15, 16, 17, 18] σ ς1) 3 2 = σ 3 2 := f1.2 2 (by decide)
  have kq1_4 : (xbk [3, 4, 5, 6, 7, 8, 9, 10, 11, 12, 13, 14, 15, 16, 17, 18] σ ς1) 3 4 = σ 3 4 := f1.2 4 (by decide)
  have kq1_5 : (xbk [3, 4, 5, 6, 7, 8, 9, 10, 11, 12, 13, 14, 15, 16, 17, 18] σ ς1) 3 5 = σ 3 5 := f1.2 5 (by decide)
  have kq1_7 : (xbk [3, 4, 5, 6, 7, 8, 9, 10, 11, 12, 13, 14, 15, 16, 17, 18] σ ς1) 3 7 = σ 3 7 := f1.2 7 (by decide)
  have kq1_8 : (xbk [3, 4, 5, 6, 7, 8, 9, 10, 11, 12, 13, 14, 15, 16, 17, 18] σ ς1) 3 8 = σ 3 8 := f1.2 8 (by decide)
  replace f1 : Fr [3] [] σ (xbk [3, 4, 5, 6, 7, 8, 9, 10, 11, 12, 13, 14, 15, 16, 17, 18] σ ς1) := f1.bk (by decide) (by decide)
  replace p1 : (r1 = 1 ∧ HasN (σ 7) ((σ 6 1)) ((σ 3 8))) ∨ (r1 = 0 ∧ (0 : Int) ≤ 0) := p1
  generalize xbk [3, 4, 5, 6, 7, 8, 9, 10, 11, 12, 13, 14, 15, 16, 17, 18] σ ς1 = σ1 at f1 kq1_2 kq1_4 kq1_5 kq1_7 kq1_8 p1 ⊢
  have hF := hF.tr f1 (by decide) (by decide)
  have km1 : σ1 1 1 = σ 1 1 := congrFun (f1.1 1 (by decide) (by decide)) 1
  have kp1 : σ1 6 1 = σ 6 1 := congrFun (hF.1 6 (by decide) (by decide)) 1
  refine And.intro (fun c2 => ?_) (fun c2 => ?_)
  · intro v3 e3 l3 h3
    have e3 : v3 = σ1 3 8 := e3
    refine xMVp (sh := shS) (ci := 2) (τ := [6, 7, 8, 9, 10, 11, 12, 13, 14, 15, 16, 17, 18]) (E := xT kX2_find) (t := 6) (r := [xvl v3]) (σ := σ1) rfl rfl xbk_sel (fun Q4 hQ4 => sX2_findE (σ := xsel [6, 7, 8, 9, 10, 11, 12, 13, 14, 15, 16, 17, 18] σ1) (name := v3) (show 0 ≤ (σ1 6 1) ∧ (σ1 6 1) ≤ 6 from by omega) (fun r4 p4 => hQ4 _ ?_))
    have p4 : (r4 = -1 ∧ ∀ q : Nat, (q : Int) < (σ1 6 1) → ¬ σ1 7 q = v3) ∨ (0 ≤ r4 ∧ r4 < (σ1 6 1) ∧ σ1 7 r4.toNat = v3) := p4
    refine xMVf (sh := shS) (ci := 7) (τ := [1, 2]) (E := xT kX7_add) (t := 1) (r := [xvi word, xvi 0, xvi r4]) (σ := σ1) rfl rfl (fun Q5 hQ5 => sX7_add (σ := xsel [1, 2] σ1) (word := word) (sign := 0) (number := r4) (show 0 ≤ (σ1 1 1) ∧ (σ1 1 1) ≤ 40 from by omega) (fun ς5 f5 p5 => hQ5 _ _ ?_))
    replace f5 : Fr [1, 2] [] σ1 (xbk [1, 2] σ1 ς5) := f5.bk (by decide) (by decide)
    replace p5 : 0 ≤ (xbk [1, 2] σ1 ς5) 1 1 ∧ (xbk [1, 2] σ1 ς5) 1 1 ≤ 40 := p5
    generalize xbk [1, 2] σ1 ς5 = σ5 at f5  p5 ⊢
    have hF := hF.tr f5 (by decide) (by decide)
    have kr5 : σ5 3 4 = σ1 3 4 ∧ σ5 3 2 = σ1 3 2 := ⟨congrFun (f5.1 3 (by decide) (by decide)) 4, congrFun (f5.1 3 (by decide) (by decide)) 2⟩
    have kp5 : σ5 6 1 = σ 6 1 := congrFun (hF.1 6 (by decide) (by decide)) 1
    refine xMVf (sh := shS) (ci := 6) (τ := [3, 4, 5]) (E := xT kX6_advance) (t := 3) (r := []) (σ := σ5) rfl rfl (fun Q6 hQ6 => sX6_advance (σ := xsel [3, 4, 5] σ5)  (show 0 ≤ (σ5 3 4) ∧ (σ5 3 4) ≤ (σ5 3 2) ∧ (σ5 3 2) ≤ 940 from by omega) (fun ς6 f6 p6 => hQ6 _ _ ?_))
    have kq6_2 : (xbk [3, 4, 5] σ5 ς6) 3 2 = σ5 3 2 := f6.2 2 (by decide)
    replace f6 : Fr [3] [] σ5 (xbk [3, 4, 5] σ5 ς6) := f6.bk (by decide) (by decide)
    replace p6 : 0 ≤ (xbk [3, 4, 5] σ5 ς6) 3 4 ∧ (xbk [3, 4, 5] σ5 ς6) 3 4 ≤ (σ5 3 2) := p6
    generalize xbk [3, 4, 5] σ5 ς6 = σ6 at f6 kq6_2 p6 ⊢
    have hF := hF.tr f6 (by decide) (by decide)
    have km6 : σ6 1 1 = σ5 1 1 := congrFun (f6.1 1 (by decide) (by decide)) 1
    have kp6 : σ6 6 1 = σ 6 1 := congrFun (hF.1 6 (by decide) (by decide)) 1
    refine And.intro rfl ?_
    refine And.intro (by omega) ?_
    exact hQ _ _ hF ⟨(show 0 ≤ σ6 1 1 ∧ σ6 1 1 ≤ 40 from by omega), (show 0 ≤ σ6 3 4 ∧ σ6 3 4 ≤ σ6 3 2 ∧ σ6 3 2 ≤ 940 from by omega), by omega⟩
  · refine And.intro rfl ?_
    refine And.intro (by omega) ?_
    exact hQ _ _ hF ⟨(show 0 ≤ σ1 1 1 ∧ σ1 1 1 ≤ 40 from by omega), (show 0 ≤ σ1 3 4 ∧ σ1 3 4 ≤ σ1 3 2 ∧ σ1 3 2 ≤ 940 from by omega), by omega⟩
set_option maxHeartbeats 4000000 in
set_option maxRecDepth 100000 in
theorem sX8_readMeasure {σ : xS} {word : Int} {Q : Option xV → xS → Prop} (hp0 : (0 ≤ σ 1 1 ∧ σ 1 1 ≤ 40)) (hp1 : (0 ≤ σ 3 4 ∧ σ 3 4 ≤ σ 3 2 ∧ σ 3 2 ≤ 940)) (hp2 : (0 ≤ σ 6 1 ∧ σ 6 1 ≤ 6)) (hQ : ∀ r : Int, ∀ σ' : xS, Fr [1, 2, 3] [] σ σ' → ((0 ≤ σ' 1 1 ∧ σ' 1 1 ≤ 40) ∧ (0 ≤ σ' 3 4 ∧ σ' 3 4 ≤ σ' 3 2 ∧ σ' 3 2 ≤ 940) ∧ (r = 0 ∨ r = 1)) → Q (some (xvi r)) σ') : xT kX8_readMeasure [xvr 0, xvi word] σ Q := by
  refine ⟨Nat.le_of_ble_eq_true rfl, fun X hX => ?_⟩
  show X 0 [xvr 0, xvi word, xvu] σ
  have hF : Fr [1, 2, 3] [] σ σ := Fr.rf
  refine hX 400 0 _ _ ?_
  intro v1 e1 l1 h1
  have e1 : v1 = σ 3 5 := e1
  refine And.intro (Nat.le_of_ble_eq_true rfl) ?_
  show xw _ _ _ _ _ _ _ _ _ _ [xvr 0, xvi word, xvi v1] _ _
  have lp_35 : ∀ (sg : Int), (True) → X 35 [xvr 0, xvi word, xvi sg] σ := by
    intro sg hv_35
    refine hX 400 35 _ _ ?_
    refine xMVf (sh := shS) (ci := 6) (τ := [3, 4, 5]) (E := xT kX6_advance) (t := 3) (r := []) (σ := σ) rfl rfl (fun Q3 hQ3 => sX6_advance (σ := xsel [3, 4, 5] σ)  (show 0 ≤ (σ 3 4) ∧ (σ 3 4) ≤ (σ 3 2) ∧ (σ 3 2) ≤ 940 from by omega) (fun ς3 f3 p3 => hQ3 _ _ ?_))
    have kq3_2 : (xbk [3, 4, 5] σ ς3) 3 2 = σ 3 2 := f3.2 2 (by decide)
    replace f3 : Fr [3] [] σ (xbk [3, 4, 5] σ ς3) := f3.bk (by decide) (by decide)
    replace p3 : 0 ≤ (xbk [3, 4, 5] σ ς3) 3 4 ∧ (xbk [3, 4, 5] σ ς3) 3 4 ≤ (σ 3 2) := p3
    generalize xbk [3, 4, 5] σ ς3 = σ3 at f3 kq3_2 p3 ⊢
    have hF := hF.tr f3 (by decide) (by decide)
    have km3 : σ3 1 1 = σ 1 1 := congrFun (f3.1 1 (by decide) (by decide)) 1
    have kp3 : σ3 6 1 = σ 6 1 := congrFun (hF.1 6 (by decide) (by decide)) 1
    refine xMVp (sh := shS) (ci := 6) (τ := [3, 4, 5]) (E := xT kX6_isAt) (t := 3) (r := [xvi 301]) (σ := σ3) rfl rfl xbk_sel (fun Q4 hQ4 => sX6_isAt (σ := xsel [3, 4, 5] σ3) (wanted := 301)  (fun r4 p4 => hQ4 _ ?_))
    have p4 : (r4 = 1 ∧ (σ3 3 5) = 301) ∨ (r4 = 0 ∧ ¬ (σ3 3 5) = 301) := p4
    refine And.intro (fun c5 => ?_) (fun c5 => ?_)
    · replace p4 : (σ3 3 5) = 301 := by
        rcases p4 with q | q
        · exact q.2
        · exact absurd q.1 (by omega)
      intro v6 e6 l6 h6
      have e6 : v6 = σ3 3 7 := e6
      refine xMVf (sh := shS) (ci := 7) (τ := [1, 2]) (E := xT kX7_add) (t := 1) (r := [xvi word, xvi sg, xvi v6]) (σ := σ3) rfl rfl (fun Q7 hQ7 => sX7_add (σ := xsel [1, 2] σ3) (word := word) (sign := sg) (number := v6) (show 0 ≤ (σ3 1 1) ∧ (σ3 1 1) ≤ 40 from by omega) (fun ς7 f7 p7 => hQ7 _ _ ?_))
      replace f7 : Fr [1, 2] [] σ3 (xbk [1, 2] σ3 ς7) := f7.bk (by decide) (by decide)
      replace p7 : 0 ≤ (xbk [1, 2] σ3 ς7) 1 1 ∧ (xbk [1, 2] σ3 ς7) 1 1 ≤ 40 := p7
      generalize xbk [1, 2] σ3 ς7 = σ7 at f7  p7 ⊢
      have hF := hF.tr f7 (by decide) (by decide)
      have kr7 : σ7 3 4 = σ3 3 4 ∧ σ7 3 2 = σ3 3 2 := ⟨congrFun (f7.1 3 (by decide) (by decide)) 4, congrFun (f7.1 3 (by decide) (by decide)) 2⟩
      have kp7 : σ7 6 1 = σ 6 1 := congrFun (hF.1 6 (by decide) (by decide)) 1
      refine xMVf (sh := shS) (ci := 6) (τ := [3, 4, 5]) (E := xT kX6_advance) (t := 3) (r := []) (σ := σ7) rfl rfl (fun Q8 hQ8 => sX6_advance (σ := xsel [3, 4, 5] σ7)  (show 0 ≤ (σ7 3 4) ∧ (σ7 3 4) ≤ (σ7 3 2) ∧ (σ7 3 2) ≤ 940 from by omega) (fun ς8 f8 p8 => hQ8 _ _ ?_))
      have kq8_2 : (xbk [3, 4, 5] σ7 ς8) 3 2 = σ7 3 2 := f8.2 2 (by decide)
      replace f8 : Fr [3] [] σ7 (xbk [3, 4, 5] σ7 ς8) := f8.bk (by decide) (by decide)
      replace p8 : 0 ≤ (xbk [3, 4, 5] σ7 ς8) 3 4 ∧ (xbk [3, 4, 5] σ7 ς8) 3 4 ≤ (σ7 3 2) := p8
      generalize xbk [3, 4, 5] σ7 ς8 = σ8 at f8 kq8_2 p8 ⊢
      have hF := hF.tr f8 (by decide) (by decide)
      have km8 : σ8 1 1 = σ7 1 1 := congrFun (f8.1 1 (by decide) (by decide)) 1
      have kp8 : σ8 6 1 = σ 6 1 := congrFun (hF.1 6 (by decide) (by decide)) 1
      refine And.intro rfl ?_
      refine And.intro (by omega) ?_
      exact hQ _ _ hF ⟨(show 0 ≤ σ8 1 1 ∧ σ8 1 1 ≤ 40 from by omega), (show 0 ≤ σ8 3 4 ∧ σ8 3 4 ≤ σ8 3 2 ∧ σ8 3 2 ≤ 940 from by omega), by omega⟩
    · replace p4 : ¬ (σ3 3 5) = 301 := by
        rcases p4 with q | q
        · exact absurd q.1 (by omega)
        · exact q.2
      refine xMVf (sh := shS) (ci := 6) (τ := [3, 4, 5]) (E := xT kX6_fail) (t := 3) (r := [xvi 1]) (σ := σ3) rfl rfl (fun Q9 hQ9 => sX6_fail (σ := xsel [3, 4, 5] σ3) (kind := 1)  (fun r9 ς9 f9 p9 => hQ9 _ _ ?_))
      have kq9_2 : (xbk [3, 4, 5] σ3 ς9) 3 2 = σ3 3 2 := f9.2 2 (by decide)
      have kq9_4 : (xbk [3, 4, 5] σ3 ς9) 3 4 = σ3 3 4 := f9.2 4 (by decide)
      have kq9_5 : (xbk [3, 4, 5] σ3 ς9) 3 5 = σ3 3 5 := f9.2 5 (by decide)
      have kq9_7 : (xbk [3, 4, 5] σ3 ς9) 3 7 = σ3 3 7 := f9.2 7 (by decide)
      have kq9_8 : (xbk [3, 4, 5] σ3 ς9) 3 8 = σ3 3 8 := f9.2 8 (by decide)
      replace f9 : Fr [3] [] σ3 (xbk [3, 4, 5] σ3 ς9) := f9.bk (by decide) (by decide)
      replace p9 : r9 = 0 := p9
      generalize xbk [3, 4, 5] σ3 ς9 = σ9 at f9 kq9_2 kq9_4 kq9_5 kq9_7 kq9_8 p9 ⊢
      have hF := hF.tr f9 (by decide) (by decide)
      have km9 : σ9 1 1 = σ3 1 1 := congrFun (f9.1 1 (by decide) (by decide)) 1
      have kp9 : σ9 6 1 = σ 6 1 := congrFun (hF.1 6 (by decide) (by decide)) 1
      refine And.intro rfl ?_
      refine And.intro (by omega) ?_
      exact hQ _ _ hF ⟨(show 0 ≤ σ9 1 1 ∧ σ9 1 1 ≤ 40 from by omega), (show 0 ≤ σ9 3 4 ∧ σ9 3 4 ≤ σ9 3 2 ∧ σ9 3 2 ≤ 940 from by omega), by omega⟩
  refine And.intro (fun c10 => ?_) (fun c10 => ?_)
  · exact lp_35 v1 (show True from by first | trivial | omega | (refine ⟨by assumption, ?_⟩; omega) | (refine ⟨?_, ?_⟩ <;> omega))
  · refine And.intro (fun c11 => ?_) (fun c11 => ?_)
    · exact lp_35 v1 (show True from by first | trivial | omega | (refine ⟨by assumption, ?_⟩; omega) | (refine ⟨?_, ?_⟩ <;> omega))
    · refine And.intro (fun c12 => ?_) (fun c12 => ?_)
      · exact lp_35 v1 (show True from by first | trivial | omega | (refine ⟨by assumption, ?_⟩; omega) | (refine ⟨?_, ?_⟩ <;> omega))
      · refine xMVf (sh := shS) (ci := 6) (τ := [3, 4, 5]) (E := xT kX6_fail) (t := 3) (r := [xvi 1]) (σ := σ) rfl rfl (fun Q13 hQ13 => sX6_fail (σ := xsel [3, 4, 5] σ) (kind := 1)  (fun r13 ς13 f13 p13 => hQ13 _ _ ?_))
        have kq13_2 : (xbk [3, 4, 5] σ ς13) 3 2 = σ 3 2 := f13.2 2 (by decide)
        have kq13_4 : (xbk [3, 4, 5] σ ς13) 3 4 = σ 3 4 := f13.2 4 (by decide)
        have kq13_5 : (xbk [3, 4, 5] σ ς13) 3 5 = σ 3 5 := f13.2 5 (by decide)
        have kq13_7 : (xbk [3, 4, 5] σ ς13) 3 7 = σ 3 7 := f13.2 7 (by decide)
        have kq13_8 : (xbk [3, 4, 5] σ ς13) 3 8 = σ 3 8 := f13.2 8 (by decide)
        replace f13 : Fr [3] [] σ (xbk [3, 4, 5] σ ς13) := f13.bk (by decide) (by decide)
        replace p13 : r13 = 0 := p13
        generalize xbk [3, 4, 5] σ ς13 = σ13 at f13 kq13_2 kq13_4 kq13_5 kq13_7 kq13_8 p13 ⊢
        have hF := hF.tr f13 (by decide) (by decide)
        have km13 : σ13 1 1 = σ 1 1 := congrFun (f13.1 1 (by decide) (by decide)) 1
        have kp13 : σ13 6 1 = σ 6 1 := congrFun (hF.1 6 (by decide) (by decide)) 1
        refine And.intro rfl ?_
        refine And.intro (by omega) ?_
        exact hQ _ _ hF ⟨(show 0 ≤ σ13 1 1 ∧ σ13 1 1 ≤ 40 from by omega), (show 0 ≤ σ13 3 4 ∧ σ13 3 4 ≤ σ13 3 2 ∧ σ13 3 2 ≤ 940 from by omega), by omega⟩
set_option maxHeartbeats 4000000 in
set_option maxRecDepth 100000 in
theorem sX8_readAll {n : Nat} {σ : xS} {depth : Int} {Q : Option xV → xS → Prop} (hp0 : 0 ≤ depth ∧ depth ≤ 9 ∧ 10 - depth ≤ (n : Nat)) (hp1 : (0 ≤ σ 1 1 ∧ σ 1 1 ≤ 40)) (hp2 : (0 ≤ σ 3 4 ∧ σ 3 4 ≤ σ 3 2 ∧ σ 3 2 ≤ 940)) (hp3 : (0 ≤ σ 6 1 ∧ σ 6 1 ≤ 6)) (hQ : ∀ r : Int, ∀ σ' : xS, Fr [1, 2, 3] [2] σ σ' → ((0 ≤ σ' 1 1 ∧ σ' 1 1 ≤ 40) ∧ (0 ≤ σ' 3 4 ∧ σ' 3 4 ≤ σ' 3 2 ∧ σ' 3 2 ≤ 940) ∧ (r = 0 ∨ r = 1)) → Q (some (xvi r)) σ') : xT (kX8_readAll (SE n)) [xvr 0, xvr 6, xvi depth] σ Q := by
  refine ⟨Nat.le_of_ble_eq_true rfl, fun X hX => ?_⟩
  show X 0 [xvr 0, xvr 6, xvi depth, xvu] σ
  have hF : Fr [1, 2, 3] [2] σ σ := Fr.rf
  refine hX 400 0 _ _ ?_
  refine SE_i (n := n) (depth := depth) (σ := σ) (by omega) (show 0 ≤ σ 1 1 ∧ σ 1 1 ≤ 40 from by omega) (show 0 ≤ σ 3 4 ∧ σ 3 4 ≤ σ 3 2 ∧ σ 3 2 ≤ 940 from by omega) (show 0 ≤ σ 6 1 ∧ σ 6 1 ≤ 6 from by omega) (fun r1 σ1 f1 p1 => ?_)
  have hF := hF.tr f1 (by decide) (by decide)
  have kp1 : σ1 6 1 = σ 6 1 := congrFun (hF.1 6 (by decide) (by decide)) 1
  refine And.intro (fun c2 => ?_) (fun c2 => ?_)
  · refine And.intro (Nat.le_of_ble_eq_true rfl) ?_
    show xw _ _ _ _ _ _ _ _ _ _ [xvr 0, xvr 6, xvi depth, xvi 0] _ _
    have lp_13 : ∀ (m13 : Nat) (i : Int) (s1 : xS), ((20 - i).toNat) = m13 → (Fr [1, 2, 3] [2] σ s1 ∧ (0 ≤ s1 1 1 ∧ s1 1 1 ≤ 40) ∧ (0 ≤ s1 3 4 ∧ s1 3 4 ≤ s1 3 2 ∧ s1 3 2 ≤ 940) ∧ 0 ≤ i) → X 13 [xvr 0, xvr 6, xvi depth, xvi i] s1 := by
      intro m13
      induction m13 using Nat.strongRecOn with
      | _ m13 ih_13 =>
      intro i s1 hm_13 hv_13
      obtain ⟨hF, hm_13, hr_13, hi_13⟩ := hv_13
      have kp_13 : s1 6 1 = σ 6 1 := congrFun (hF.1 6 (by decide) (by decide)) 1
      refine hX 400 13 _ _ ?_
      have lp_66 : ∀ (_ : Unit), (True) → X 66 [xvr 0, xvr 6, xvi depth, xvi i] s1 := by
        intro _ hv_66
        refine hX 400 66 _ _ ?_
        refine And.intro rfl ?_
        refine And.intro (by omega) ?_
        exact hQ _ _ hF ⟨(show 0 ≤ s1 1 1 ∧ s1 1 1 ≤ 40 from by omega), (show 0 ≤ s1 3 4 ∧ s1 3 4 ≤ s1 3 2 ∧ s1 3 2 ≤ 940 from by omega), by omega⟩
      refine And.intro (fun c5 => ?_) (fun c5 => ?_)
      · exact lp_66 () (show True from by first | trivial | omega | (refine ⟨by assumption, ?_⟩; omega) | (refine ⟨?_, ?_⟩ <;> omega))
      · refine xMVp (sh := shS) (ci := 6) (τ := [3, 4, 5]) (E := xT kX6_isAt) (t := 3) (r := [xvi 10]) (σ := s1) rfl rfl xbk_sel (fun Q6 hQ6 => sX6_isAt (σ := xsel [3, 4, 5] s1) (wanted := 10)  (fun r6 p6 => hQ6 _ ?_))
        have p6 : (r6 = 1 ∧ (s1 3 5) = 10) ∨ (r6 = 0 ∧ ¬ (s1 3 5) = 10) := p6
        refine And.intro (fun c7 => ?_) (fun c7 => ?_)
        · replace p6 : ¬ (s1 3 5) = 10 := by
            rcases p6 with q | q
            · exact absurd q.1 (by omega)
            · exact q.2
          exact lp_66 () (show True from by first | trivial | omega | (refine ⟨by assumption, ?_⟩; omega) | (refine ⟨?_, ?_⟩ <;> omega))
        · replace p6 : (s1 3 5) = 10 := by
            rcases p6 with q | q
            · exact q.2
            · exact absurd q.1 (by omega)
          refine xMVf (sh := shS) (ci := 6) (τ := [3, 4, 5]) (E := xT kX6_advance) (t := 3) (r := []) (σ := s1) rfl rfl (fun Q8 hQ8 => sX6_advance (σ := xsel [3, 4, 5] s1)  (show 0 ≤ (s1 3 4) ∧ (s1 3 4) ≤ (s1 3 2) ∧ (s1 3 2) ≤ 940 from by omega) (fun ς8 f8 p8 => hQ8 _ _ ?_))
          have kq8_2 : (xbk [3, 4, 5] s1 ς8) 3 2 = s1 3 2 := f8.2 2 (by decide)
          replace f8 : Fr [3] [] s1 (xbk [3, 4, 5] s1 ς8) := f8.bk (by decide) (by decide)
          replace p8 : 0 ≤ (xbk [3, 4, 5] s1 ς8) 3 4 ∧ (xbk [3, 4, 5] s1 ς8) 3 4 ≤ (s1 3 2) := p8
          generalize xbk [3, 4, 5] s1 ς8 = σ8 at f8 kq8_2 p8 ⊢
          have hF := hF.tr f8 (by decide) (by decide)
          have km8 : σ8 1 1 = s1 1 1 := congrFun (f8.1 1 (by decide) (by decide)) 1
          have kp8 : σ8 6 1 = σ 6 1 := congrFun (hF.1 6 (by decide) (by decide)) 1
          refine SE_i (n := n) (depth := depth) (σ := σ8) (by omega) (show 0 ≤ σ8 1 1 ∧ σ8 1 1 ≤ 40 from by omega) (show 0 ≤ σ8 3 4 ∧ σ8 3 4 ≤ σ8 3 2 ∧ σ8 3 2 ≤ 940 from by omega) (show 0 ≤ σ8 6 1 ∧ σ8 6 1 ≤ 6 from by omega) (fun r9 σ9 f9 p9 => ?_)
          have hF := hF.tr f9 (by decide) (by decide)
          have kp9 : σ9 6 1 = σ 6 1 := congrFun (hF.1 6 (by decide) (by decide)) 1
          refine And.intro (fun c10 => ?_) (fun c10 => ?_)
          · refine xMVf (sh := shS) (ci := 7) (τ := [1, 2]) (E := xT kX7_add) (t := 1) (r := [xvi 10, xvi 0, xvi 0]) (σ := σ9) rfl rfl (fun Q11 hQ11 => sX7_add (σ := xsel [1, 2] σ9) (word := 10) (sign := 0) (number := 0) (show 0 ≤ (σ9 1 1) ∧ (σ9 1 1) ≤ 40 from by omega) (fun ς11 f11 p11 => hQ11 _ _ ?_))
            replace f11 : Fr [1, 2] [] σ9 (xbk [1, 2] σ9 ς11) := f11.bk (by decide) (by decide)
            replace p11 : 0 ≤ (xbk [1, 2] σ9 ς11) 1 1 ∧ (xbk [1, 2] σ9 ς11) 1 1 ≤ 40 := p11
            generalize xbk [1, 2] σ9 ς11 = σ11 at f11  p11 ⊢
            have hF := hF.tr f11 (by decide) (by decide)
            have kr11 : σ11 3 4 = σ9 3 4 ∧ σ11 3 2 = σ9 3 2 := ⟨congrFun (f11.1 3 (by decide) (by decide)) 4, congrFun (f11.1 3 (by decide) (by decide)) 2⟩
            have kp11 : σ11 6 1 = σ 6 1 := congrFun (hF.1 6 (by decide) (by decide)) 1
            intro z12 t12 e12 l12 h12
            try have w12 : t12 = 0 := by omega
            show xw _ _ _ _ _ _ _ _ _ _ [xvr 0, xvr 6, xvi depth, xvi z12] _ _
            exact ih_13 _ (show (20 - z12).toNat < m13 from by omega) z12 σ11 rfl ⟨hF, (show 0 ≤ σ11 1 1 ∧ σ11 1 1 ≤ 40 from by omega), (show 0 ≤ σ11 3 4 ∧ σ11 3 4 ≤ σ11 3 2 ∧ σ11 3 2 ≤ 940 from by omega), by omega⟩
          · refine And.intro rfl ?_
            refine And.intro (by omega) ?_
            exact hQ _ _ hF ⟨(show 0 ≤ σ9 1 1 ∧ σ9 1 1 ≤ 40 from by omega), (show 0 ≤ σ9 3 4 ∧ σ9 3 4 ≤ σ9 3 2 ∧ σ9 3 2 ≤ 940 from by omega), by omega⟩
    exact lp_13 _ 0 σ1 rfl ⟨hF, (show 0 ≤ σ1 1 1 ∧ σ1 1 1 ≤ 40 from by omega), (show 0 ≤ σ1 3 4 ∧ σ1 3 4 ≤ σ1 3 2 ∧ σ1 3 2 ≤ 940 from by omega), by omega⟩
  · refine And.intro rfl ?_
    refine And.intro (by omega) ?_
    exact hQ _ _ hF ⟨(show 0 ≤ σ1 1 1 ∧ σ1 1 1 ≤ 40 from by omega), (show 0 ≤ σ1 3 4 ∧ σ1 3 4 ≤ σ1 3 2 ∧ σ1 3 2 ≤ 940 from by omega), by omega⟩
set_option maxHeartbeats 4000000 in
set_option maxRecDepth 100000 in
theorem sX8_readCond {n : Nat} {σ : xS} {depth : Int} {Q : Option xV → xS → Prop} (hp0 : 0 ≤ depth ∧ depth ≤ 9 ∧ 10 - depth ≤ (n : Nat)) (hp1 : (0 ≤ σ 1 1 ∧ σ 1 1 ≤ 40)) (hp2 : (0 ≤ σ 3 4 ∧ σ 3 4 ≤ σ 3 2 ∧ σ 3 2 ≤ 940)) (hp3 : (0 ≤ σ 6 1 ∧ σ 6 1 ≤ 6)) (hQ : ∀ r : Int, ∀ σ' : xS, Fr [1, 2, 3] [2] σ σ' → ((0 ≤ σ' 1 1 ∧ σ' 1 1 ≤ 40) ∧ (0 ≤ σ' 3 4 ∧ σ' 3 4 ≤ σ' 3 2 ∧ σ' 3 2 ≤ 940) ∧ (r = 0 ∨ r = 1)) → Q (some (xvi r)) σ') : xT (kX8_readCond (SE n)) [xvr 0, xvr 6, xvi depth] σ Q := by
  refine ⟨Nat.le_of_ble_eq_true rfl, fun X hX => ?_⟩
  show X 0 [xvr 0, xvr 6, xvi depth, xvu] σ
  have hF : Fr [1, 2, 3] [2] σ σ := Fr.rf
  refine hX 400 0 _ _ ?_
  refine SE_i (n := n) (depth := depth) (σ := σ) (by omega) (show 0 ≤ σ 1 1 ∧ σ 1 1 ≤ 40 from by omega) (show 0 ≤ σ 3 4 ∧ σ 3 4 ≤ σ 3 2 ∧ σ 3 2 ≤ 940 from by omega) (show 0 ≤ σ 6 1 ∧ σ 6 1 ≤ 6 from by omega) (fun r1 σ1 f1 p1 => ?_)
  have hF := hF.tr f1 (by decide) (by decide)
  have kp1 : σ1 6 1 = σ 6 1 := congrFun (hF.1 6 (by decide) (by decide)) 1
  refine And.intro (fun c2 => ?_) (fun c2 => ?_)
  · refine And.intro (Nat.le_of_ble_eq_true rfl) ?_
    show xw _ _ _ _ _ _ _ _ _ _ [xvr 0, xvr 6, xvi depth, xvi 0] _ _
    have lp_13 : ∀ (m13 : Nat) (i : Int) (s1 : xS), ((20 - i).toNat) = m13 → (Fr [1, 2, 3] [2] σ s1 ∧ (0 ≤ s1 1 1 ∧ s1 1 1 ≤ 40) ∧ (0 ≤ s1 3 4 ∧ s1 3 4 ≤ s1 3 2 ∧ s1 3 2 ≤ 940) ∧ 0 ≤ i) → X 13 [xvr 0, xvr 6, xvi depth, xvi i] s1 := by
      intro m13
      induction m13 using Nat.strongRecOn with
      | _ m13 ih_13 =>
      intro i s1 hm_13 hv_13
      obtain ⟨hF, hm_13, hr_13, hi_13⟩ := hv_13
      have kp_13 : s1 6 1 = σ 6 1 := congrFun (hF.1 6 (by decide) (by decide)) 1
      refine hX 400 13 _ _ ?_
      have lp_66 : ∀ (_ : Unit), (True) → X 66 [xvr 0, xvr 6, xvi depth, xvi i] s1 := by
        intro _ hv_66
        refine hX 400 66 _ _ ?_
        refine And.intro rfl ?_
        refine And.intro (by omega) ?_
        exact hQ _ _ hF ⟨(show 0 ≤ s1 1 1 ∧ s1 1 1 ≤ 40 from by omega), (show 0 ≤ s1 3 4 ∧ s1 3 4 ≤ s1 3 2 ∧ s1 3 2 ≤ 940 from by omega), by omega⟩
      refine And.intro (fun c5 => ?_) (fun c5 => ?_)
      · exact lp_66 () (show True from by first | trivial | omega | (refine ⟨by assumption, ?_⟩; omega) | (refine ⟨?_, ?_⟩ <;> omega))
      · refine xMVp (sh := shS) (ci := 6) (τ := [3, 4, 5]) (E := xT kX6_isAt) (t := 3) (r := [xvi 9]) (σ := s1) rfl rfl xbk_sel (fun Q6 hQ6 => sX6_isAt (σ := xsel [3, 4, 5] s1) (wanted := 9)  (fun r6 p6 => hQ6 _ ?_))
        have p6 : (r6 = 1 ∧ (s1 3 5) = 9) ∨ (r6 = 0 ∧ ¬ (s1 3 5) = 9) := p6
        refine And.intro (fun c7 => ?_) (fun c7 => ?_)
        · replace p6 : ¬ (s1 3 5) = 9 := by
            rcases p6 with q | q
            · exact absurd q.1 (by omega)
            · exact q.2
          exact lp_66 () (show True from by first | trivial | omega | (refine ⟨by assumption, ?_⟩; omega) | (refine ⟨?_, ?_⟩ <;> omega))
        · replace p6 : (s1 3 5) = 9 := by
            rcases p6 with q | q
            · exact q.2
            · exact absurd q.1 (by omega)
          refine xMVf (sh := shS) (ci := 6) (τ := [3, 4, 5]) (E := xT kX6_advance) (t := 3) (r := []) (σ := s1) rfl rfl (fun Q8 hQ8 => sX6_advance (σ := xsel [3, 4, 5] s1)  (show 0 ≤ (s1 3 4) ∧ (s1 3 4) ≤ (s1 3 2) ∧ (s1 3 2) ≤ 940 from by omega) (fun ς8 f8 p8 => hQ8 _ _ ?_))
          have kq8_2 : (xbk [3, 4, 5] s1 ς8) 3 2 = s1 3 2 := f8.2 2 (by decide)
          replace f8 : Fr [3] [] s1 (xbk [3, 4, 5] s1 ς8) := f8.bk (by decide) (by decide)
          replace p8 : 0 ≤ (xbk [3, 4, 5] s1 ς8) 3 4 ∧ (xbk [3, 4, 5] s1 ς8) 3 4 ≤ (s1 3 2) := p8
          generalize xbk [3, 4, 5] s1 ς8 = σ8 at f8 kq8_2 p8 ⊢
          have hF := hF.tr f8 (by decide) (by decide)
          have km8 : σ8 1 1 = s1 1 1 := congrFun (f8.1 1 (by decide) (by decide)) 1
          have kp8 : σ8 6 1 = σ 6 1 := congrFun (hF.1 6 (by decide) (by decide)) 1
          refine SE_i (n := n) (depth := depth) (σ := σ8) (by omega) (show 0 ≤ σ8 1 1 ∧ σ8 1 1 ≤ 40 from by omega) (show 0 ≤ σ8 3 4 ∧ σ8 3 4 ≤ σ8 3 2 ∧ σ8 3 2 ≤ 940 from by omega) (show 0 ≤ σ8 6 1 ∧ σ8 6 1 ≤ 6 from by omega) (fun r9 σ9 f9 p9 => ?_)
          have hF := hF.tr f9 (by decide) (by decide)
          have kp9 : σ9 6 1 = σ 6 1 := congrFun (hF.1 6 (by decide) (by decide)) 1
          refine And.intro (fun c10 => ?_) (fun c10 => ?_)
          · refine xMVf (sh := shS) (ci := 7) (τ := [1, 2]) (E := xT kX7_add) (t := 1) (r := [xvi 9, xvi 0, xvi 0]) (σ := σ9) rfl rfl (fun Q11 hQ11 => sX7_add (σ := xsel [1, 2] σ9) (word := 9) (sign := 0) (number := 0) (show 0 ≤ (σ9 1 1) ∧ (σ9 1 1) ≤ 40 from by omega) (fun ς11 f11 p11 => hQ11 _ _ ?_))
            replace f11 : Fr [1, 2] [] σ9 (xbk [1, 2] σ9 ς11) := f11.bk (by decide) (by decide)
            replace p11 : 0 ≤ (xbk [1, 2] σ9 ς11) 1 1 ∧ (xbk [1, 2] σ9 ς11) 1 1 ≤ 40 := p11
            generalize xbk [1, 2] σ9 ς11 = σ11 at f11  p11 ⊢
            have hF := hF.tr f11 (by decide) (by decide)
            have kr11 : σ11 3 4 = σ9 3 4 ∧ σ11 3 2 = σ9 3 2 := ⟨congrFun (f11.1 3 (by decide) (by decide)) 4, congrFun (f11.1 3 (by decide) (by decide)) 2⟩
            have kp11 : σ11 6 1 = σ 6 1 := congrFun (hF.1 6 (by decide) (by decide)) 1
            intro z12 t12 e12 l12 h12
            try have w12 : t12 = 0 := by omega
            show xw _ _ _ _ _ _ _ _ _ _ [xvr 0, xvr 6, xvi depth, xvi z12] _ _
            exact ih_13 _ (show (20 - z12).toNat < m13 from by omega) z12 σ11 rfl ⟨hF, (show 0 ≤ σ11 1 1 ∧ σ11 1 1 ≤ 40 from by omega), (show 0 ≤ σ11 3 4 ∧ σ11 3 4 ≤ σ11 3 2 ∧ σ11 3 2 ≤ 940 from by omega), by omega⟩
          · refine And.intro rfl ?_
            refine And.intro (by omega) ?_
            exact hQ _ _ hF ⟨(show 0 ≤ σ9 1 1 ∧ σ9 1 1 ≤ 40 from by omega), (show 0 ≤ σ9 3 4 ∧ σ9 3 4 ≤ σ9 3 2 ∧ σ9 3 2 ≤ 940 from by omega), by omega⟩
    exact lp_13 _ 0 σ1 rfl ⟨hF, (show 0 ≤ σ1 1 1 ∧ σ1 1 1 ≤ 40 from by omega), (show 0 ≤ σ1 3 4 ∧ σ1 3 4 ≤ σ1 3 2 ∧ σ1 3 2 ≤ 940 from by omega), by omega⟩
  · refine And.intro rfl ?_
    refine And.intro (by omega) ?_
    exact hQ _ _ hF ⟨(show 0 ≤ σ1 1 1 ∧ σ1 1 1 ≤ 40 from by omega), (show 0 ≤ σ1 3 4 ∧ σ1 3 4 ≤ σ1 3 2 ∧ σ1 3 2 ≤ 940 from by omega), by omega⟩
set_option maxHeartbeats 4000000 in
set_option maxRecDepth 100000 in
theorem sX8_readOne {n : Nat} {σ : xS} {depth : Int} {Q : Option xV → xS → Prop} (hp0 : 0 ≤ depth ∧ depth ≤ 9 ∧ 10 - depth ≤ (n + 1 : Nat)) (hp1 : (0 ≤ σ 1 1 ∧ σ 1 1 ≤ 40)) (hp2 : (0 ≤ σ 3 4 ∧ σ 3 4 ≤ σ 3 2 ∧ σ 3 2 ≤ 940)) (hp3 : (0 ≤ σ 6 1 ∧ σ 6 1 ≤ 6)) (hQ : ∀ r : Int, ∀ σ' : xS, Fr [1, 2, 3] [2] σ σ' → ((0 ≤ σ' 1 1 ∧ σ' 1 1 ≤ 40) ∧ (0 ≤ σ' 3 4 ∧ σ' 3 4 ≤ σ' 3 2 ∧ σ' 3 2 ≤ 940) ∧ (r = 0 ∨ r = 1)) → Q (some (xvi r)) σ') : xT (kX8_readOne (SE n) (SE n)) [xvr 0, xvr 6, xvi depth] σ Q := by
  refine ⟨Nat.le_of_ble_eq_true rfl, fun X hX => ?_⟩
  show X 0 [xvr 0, xvr 6, xvi depth, xvu] σ
  have hF : Fr [1, 2, 3] [2] σ σ := Fr.rf
  refine hX 400 0 _ _ ?_
  refine sX8_beginsOne (σ := σ)   (fun r1 p1 => ?_)
  have p1 : r1 = 0 ∨ r1 = 1 := p1
  refine And.intro (fun c2 => ?_) (fun c2 => ?_)
  · have lp_31 : ∀ (_ : Unit), (True) → X 31 [xvr 0, xvr 6, xvi depth, xvu] σ := by
      intro _ hv_31
      refine hX 400 31 _ _ ?_
      refine xMVf (sh := shS) (ci := 6) (τ := [3, 4, 5]) (E := xT kX6_fail) (t := 3) (r := [xvi 4]) (σ := σ) rfl rfl (fun Q4 hQ4 => sX6_fail (σ := xsel [3, 4, 5] σ) (kind := 4)  (fun r4 ς4 f4 p4 => hQ4 _ _ ?_))
      have kq4_2 : (xbk [3, 4, 5] σ ς4) 3 2 = σ 3 2 := f4.2 2 (by decide)
      have kq4_4 : (xbk [3, 4, 5] σ ς4) 3 4 = σ 3 4 := f4.2 4 (by decide)
      have kq4_5 : (xbk [3, 4, 5] σ ς4) 3 5 = σ 3 5 := f4.2 5 (by decide)
      have kq4_7 : (xbk [3, 4, 5] σ ς4) 3 7 = σ 3 7 := f4.2 7 (by decide)
      have kq4_8 : (xbk [3, 4, 5] σ ς4) 3 8 = σ 3 8 := f4.2 8 (by decide)
      replace f4 : Fr [3] [] σ (xbk [3, 4, 5] σ ς4) := f4.bk (by decide) (by decide)
      replace p4 : r4 = 0 := p4
      generalize xbk [3, 4, 5] σ ς4 = σ4 at f4 kq4_2 kq4_4 kq4_5 kq4_7 kq4_8 p4 ⊢
      have hF := hF.tr f4 (by decide) (by decide)
      have km4 : σ4 1 1 = σ 1 1 := congrFun (f4.1 1 (by decide) (by decide)) 1
      have kp4 : σ4 6 1 = σ 6 1 := congrFun (hF.1 6 (by decide) (by decide)) 1
      refine And.intro rfl ?_
      refine And.intro (by omega) ?_
      exact hQ _ _ hF ⟨(show 0 ≤ σ4 1 1 ∧ σ4 1 1 ≤ 40 from by omega), (show 0 ≤ σ4 3 4 ∧ σ4 3 4 ≤ σ4 3 2 ∧ σ4 3 2 ≤ 940 from by omega), by omega⟩
    intro v5 e5 l5 h5
    have e5 : v5 = σ 0 2 := e5
    refine And.intro (fun c6 => ?_) (fun c6 => ?_)
    · exact lp_31 () (show True from by first | trivial | omega | (refine ⟨by assumption, ?_⟩; omega) | (refine ⟨?_, ?_⟩ <;> omega))
    · refine And.intro (fun c7 => ?_) (fun c7 => ?_)
      · intro v8 e8 l8 h8
        have e8 : v8 = σ 0 2 := e8
        intro z9 t9 e9 l9 h9
        try have w9 : t9 = 0 := by omega
        have hF := hF.p (j := 2) (v := z9) (by decide)
        intro v11 e11 l11 h11
        have e11 : v11 = σ 3 5 := e11
        refine And.intro (Nat.le_of_ble_eq_true rfl) ?_
        show xw _ _ _ _ _ _ _ _ _ _ [xvr 0, xvr 6, xvi depth, xvi v11] _ _
        refine xMVf (sh := shS) (ci := 6) (τ := [3, 4, 5]) (E := xT kX6_advance) (t := 3) (r := []) (σ := (xput σ 0 2 z9)) rfl rfl (fun Q12 hQ12 => sX6_advance (σ := xsel [3, 4, 5] (xput σ 0 2 z9))  (show 0 ≤ (σ 3 4) ∧ (σ 3 4) ≤ (σ 3 2) ∧ (σ 3 2) ≤ 940 from by omega) (fun ς12 f12 p12 => hQ12 _ _ ?_))
        have kq12_2 : (xbk [3, 4, 5] (xput σ 0 2 z9) ς12) 3 2 = σ 3 2 := f12.2 2 (by decide)
        replace f12 : Fr [3] [] (xput σ 0 2 z9) (xbk [3, 4, 5] (xput σ 0 2 z9) ς12) := f12.bk (by decide) (by decide)
        replace p12 : 0 ≤ (xbk [3, 4, 5] (xput σ 0 2 z9) ς12) 3 4 ∧ (xbk [3, 4, 5] (xput σ 0 2 z9) ς12) 3 4 ≤ (σ 3 2) := p12
        generalize xbk [3, 4, 5] (xput σ 0 2 z9) ς12 = σ12 at f12 kq12_2 p12 ⊢
        have hF := hF.tr f12 (by decide) (by decide)
        have km12 : σ12 1 1 = σ 1 1 := congrFun (f12.1 1 (by decide) (by decide)) 1
        have kp12 : σ12 6 1 = σ 6 1 := congrFun (hF.1 6 (by decide) (by decide)) 1
        refine And.intro (fun c13 => ?_) (fun c13 => ?_)
        · have lp_112 : ∀ (_ : Unit), (True) → X 112 [xvr 0, xvr 6, xvi depth, xvi v11] σ12 := by
            intro _ hv_112
            refine hX 400 112 _ _ ?_
            refine sX8_readPerson (σ := σ12) (word := v11) (show (0 ≤ (σ12 1 1) ∧ (σ12 1 1) ≤ 40) from by omega) (show (0 ≤ (σ12 3 4) ∧ (σ12 3 4) ≤ (σ12 3 2) ∧ (σ12 3 2) ≤ 940) from by omega) (show (0 ≤ (σ12 6 1) ∧ (σ12 6 1) ≤ 6) from by omega) (fun r15 σ15 f15 p15 => ?_)
            have hF := hF.tr f15 (by decide) (by decide)
            have p15 : (0 ≤ σ15 1 1 ∧ σ15 1 1 ≤ 40) ∧ (0 ≤ σ15 3 4 ∧ σ15 3 4 ≤ σ15 3 2 ∧ σ15 3 2 ≤ 940) ∧ (r15 = 0 ∨ r15 = 1) := p15
            refine And.intro rfl ?_
            refine And.intro (by omega) ?_
            exact hQ _ _ hF ⟨(show 0 ≤ σ15 1 1 ∧ σ15 1 1 ≤ 40 from by omega), (show 0 ≤ σ15 3 4 ∧ σ15 3 4 ≤ σ15 3 2 ∧ σ15 3 2 ≤ 940 from by omega), by omega⟩
          refine And.intro (fun c16 => ?_) (fun c16 => ?_)
          · exact lp_112 () (show True from by first | trivial | omega | (refine ⟨by assumption, ?_⟩; omega) | (refine ⟨?_, ?_⟩ <;> omega))
          · refine And.intro (fun c17 => ?_) (fun c17 => ?_)
            · have lp_137 : ∀ (_ : Unit), (True) → X 137 [xvr 0, xvr 6, xvi depth, xvi v11] σ12 := by
                intro _ hv_137
                refine hX 400 137 _ _ ?_
                have lp_156 : ∀ (s8 : xS), (Fr [1, 2, 3] [2] σ s8 ∧ (0 ≤ s8 1 1 ∧ s8 1 1 ≤ 40) ∧ (0 ≤ s8 3 4 ∧ s8 3 4 ≤ s8 3 2 ∧ s8 3 2 ≤ 940)) → X 156 [xvr 0, xvr 6, xvi depth, xvi v11] s8 := by
                  intro s8 hv_156
                  obtain ⟨hF, hm_156, hr_156⟩ := hv_156
                  have kp_156 : s8 6 1 = σ 6 1 := congrFun (hF.1 6 (by decide) (by decide)) 1
                  refine hX 400 156 _ _ ?_
                  refine xMVf (sh := shS) (ci := 7) (τ := [1, 2]) (E := xT kX7_add) (t := 1) (r := [xvi v11, xvi 0, xvi 0]) (σ := s8) rfl rfl (fun Q20 hQ20 => sX7_add (σ := xsel [1, 2] s8) (word := v11) (sign := 0) (number := 0) (show 0 ≤ (s8 1 1) ∧ (s8 1 1) ≤ 40 from by omega) (fun ς20 f20 p20 => hQ20 _ _ ?_))
                  replace f20 : Fr [1, 2] [] s8 (xbk [1, 2] s8 ς20) := f20.bk (by decide) (by decide)
                  replace p20 : 0 ≤ (xbk [1, 2] s8 ς20) 1 1 ∧ (xbk [1, 2] s8 ς20) 1 1 ≤ 40 := p20
                  generalize xbk [1, 2] s8 ς20 = σ20 at f20  p20 ⊢
                  have hF := hF.tr f20 (by decide) (by decide)
                  have kr20 : σ20 3 4 = s8 3 4 ∧ σ20 3 2 = s8 3 2 := ⟨congrFun (f20.1 3 (by decide) (by decide)) 4, congrFun (f20.1 3 (by decide) (by decide)) 2⟩
                  have kp20 : σ20 6 1 = σ 6 1 := congrFun (hF.1 6 (by decide) (by decide)) 1
                  refine And.intro rfl ?_
                  refine And.intro (by omega) ?_
                  exact hQ _ _ hF ⟨(show 0 ≤ σ20 1 1 ∧ σ20 1 1 ≤ 40 from by omega), (show 0 ≤ σ20 3 4 ∧ σ20 3 4 ≤ σ20 3 2 ∧ σ20 3 2 ≤ 940 from by omega), by omega⟩
                refine And.intro (fun c21 => ?_) (fun c21 => ?_)
                · exact lp_156 σ12 ⟨hF, (show 0 ≤ σ12 1 1 ∧ σ12 1 1 ≤ 40 from by omega), (show 0 ≤ σ12 3 4 ∧ σ12 3 4 ≤ σ12 3 2 ∧ σ12 3 2 ≤ 940 from by omega)⟩
                · intro z22 t22 e22 l22 h22
                  try have w22 : t22 = 0 := by omega
                  refine SE_i (n := n) (depth := z22) (σ := σ12) (by omega) (show 0 ≤ σ12 1 1 ∧ σ12 1 1 ≤ 40 from by omega) (show 0 ≤ σ12 3 4 ∧ σ12 3 4 ≤ σ12 3 2 ∧ σ12 3 2 ≤ 940 from by omega) (show 0 ≤ σ12 6 1 ∧ σ12 6 1 ≤ 6 from by omega) (fun r23 σ23 f23 p23 => ?_)
                  have hF := hF.tr f23 (by decide) (by decide)
                  have kp23 : σ23 6 1 = σ 6 1 := congrFun (hF.1 6 (by decide) (by decide)) 1
                  refine And.intro (fun c24 => ?_) (fun c24 => ?_)
                  · exact lp_156 σ23 ⟨hF, (show 0 ≤ σ23 1 1 ∧ σ23 1 1 ≤ 40 from by omega), (show 0 ≤ σ23 3 4 ∧ σ23 3 4 ≤ σ23 3 2 ∧ σ23 3 2 ≤ 940 from by omega)⟩
                  · refine And.intro rfl ?_
                    refine And.intro (by omega) ?_
                    exact hQ _ _ hF ⟨(show 0 ≤ σ23 1 1 ∧ σ23 1 1 ≤ 40 from by omega), (show 0 ≤ σ23 3 4 ∧ σ23 3 4 ≤ σ23 3 2 ∧ σ23 3 2 ≤ 940 from by omega), by omega⟩
              refine And.intro (fun c25 => ?_) (fun c25 => ?_)
              · exact lp_137 () (show True from by first | trivial | omega | (refine ⟨by assumption, ?_⟩; omega) | (refine ⟨?_, ?_⟩ <;> omega))
              · refine And.intro (fun c26 => ?_) (fun c26 => ?_)
                · exact lp_137 () (show True from by first | trivial | omega | (refine ⟨by assumption, ?_⟩; omega) | (refine ⟨?_, ?_⟩ <;> omega))
                · refine sX8_readMeasure (σ := σ12) (word := v11) (show (0 ≤ (σ12 1 1) ∧ (σ12 1 1) ≤ 40) from by omega) (show (0 ≤ (σ12 3 4) ∧ (σ12 3 4) ≤ (σ12 3 2) ∧ (σ12 3 2) ≤ 940) from by omega) (show (0 ≤ (σ12 6 1) ∧ (σ12 6 1) ≤ 6) from by omega) (fun r27 σ27 f27 p27 => ?_)
                  have hF := hF.tr f27 (by decide) (by decide)
                  have p27 : (0 ≤ σ27 1 1 ∧ σ27 1 1 ≤ 40) ∧ (0 ≤ σ27 3 4 ∧ σ27 3 4 ≤ σ27 3 2 ∧ σ27 3 2 ≤ 940) ∧ (r27 = 0 ∨ r27 = 1) := p27
                  refine And.intro rfl ?_
                  refine And.intro (by omega) ?_
                  exact hQ _ _ hF ⟨(show 0 ≤ σ27 1 1 ∧ σ27 1 1 ≤ 40 from by omega), (show 0 ≤ σ27 3 4 ∧ σ27 3 4 ≤ σ27 3 2 ∧ σ27 3 2 ≤ 940 from by omega), by omega⟩
            · exact lp_112 () (show True from by first | trivial | omega | (refine ⟨by assumption, ?_⟩; omega) | (refine ⟨?_, ?_⟩ <;> omega))
        · have lp_98 : ∀ (s9 : xS), (Fr [1, 2, 3] [2] σ s9 ∧ (0 ≤ s9 1 1 ∧ s9 1 1 ≤ 40) ∧ (0 ≤ s9 3 4 ∧ s9 3 4 ≤ s9 3 2 ∧ s9 3 2 ≤ 940)) → X 98 [xvr 0, xvr 6, xvi depth, xvi v11] s9 := by
            intro s9 hv_98
            obtain ⟨hF, hm_98, hr_98⟩ := hv_98
            have kp_98 : s9 6 1 = σ 6 1 := congrFun (hF.1 6 (by decide) (by decide)) 1
            refine hX 400 98 _ _ ?_
            refine And.intro rfl ?_
            refine And.intro (by omega) ?_
            exact hQ _ _ hF ⟨(show 0 ≤ s9 1 1 ∧ s9 1 1 ≤ 40 from by omega), (show 0 ≤ s9 3 4 ∧ s9 3 4 ≤ s9 3 2 ∧ s9 3 2 ≤ 940 from by omega), by omega⟩
          intro z29 t29 e29 l29 h29
          try have w29 : t29 = 0 := by omega
          refine SE_i (n := n) (depth := z29) (σ := σ12) (by omega) (show 0 ≤ σ12 1 1 ∧ σ12 1 1 ≤ 40 from by omega) (show 0 ≤ σ12 3 4 ∧ σ12 3 4 ≤ σ12 3 2 ∧ σ12 3 2 ≤ 940 from by omega) (show 0 ≤ σ12 6 1 ∧ σ12 6 1 ≤ 6 from by omega) (fun r30 σ30 f30 p30 => ?_)
          have hF := hF.tr f30 (by decide) (by decide)
          have kp30 : σ30 6 1 = σ 6 1 := congrFun (hF.1 6 (by decide) (by decide)) 1
          refine And.intro (fun c31 => ?_) (fun c31 => ?_)
          · exact lp_98 σ30 ⟨hF, (show 0 ≤ σ30 1 1 ∧ σ30 1 1 ≤ 40 from by omega), (show 0 ≤ σ30 3 4 ∧ σ30 3 4 ≤ σ30 3 2 ∧ σ30 3 2 ≤ 940 from by omega)⟩
          · refine xMVf (sh := shS) (ci := 6) (τ := [3, 4, 5]) (E := xT kX6_pass) (t := 3) (r := [xvi 41]) (σ := σ30) rfl rfl (fun Q32 hQ32 => sX6_pass (σ := xsel [3, 4, 5] σ30) (wanted := 41) (show 0 ≤ (σ30 3 4) ∧ (σ30 3 4) ≤ (σ30 3 2) ∧ (σ30 3 2) ≤ 940 from by omega) (fun r32 ς32 f32 p32 => hQ32 _ _ ?_))
            have kq32_2 : (xbk [3, 4, 5] σ30 ς32) 3 2 = σ30 3 2 := f32.2 2 (by decide)
            replace f32 : Fr [3] [] σ30 (xbk [3, 4, 5] σ30 ς32) := f32.bk (by decide) (by decide)
            replace p32 : (0 ≤ (xbk [3, 4, 5] σ30 ς32) 3 4 ∧ (xbk [3, 4, 5] σ30 ς32) 3 4 ≤ (σ30 3 2)) ∧ (r32 = 0 ∨ r32 = 1) := p32
            generalize xbk [3, 4, 5] σ30 ς32 = σ32 at f32 kq32_2 p32 ⊢
            have hF := hF.tr f32 (by decide) (by decide)
            have km32 : σ32 1 1 = σ30 1 1 := congrFun (f32.1 1 (by decide) (by decide)) 1
            have kp32 : σ32 6 1 = σ 6 1 := congrFun (hF.1 6 (by decide) (by decide)) 1
            refine And.intro (fun c33 => ?_) (fun c33 => ?_)
            · exact lp_98 σ32 ⟨hF, (show 0 ≤ σ32 1 1 ∧ σ32 1 1 ≤ 40 from by omega), (show 0 ≤ σ32 3 4 ∧ σ32 3 4 ≤ σ32 3 2 ∧ σ32 3 2 ≤ 940 from by omega)⟩
            · refine And.intro rfl ?_
              refine And.intro (by omega) ?_
              exact hQ _ _ hF ⟨(show 0 ≤ σ32 1 1 ∧ σ32 1 1 ≤ 40 from by omega), (show 0 ≤ σ32 3 4 ∧ σ32 3 4 ≤ σ32 3 2 ∧ σ32 3 2 ≤ 940 from by omega), by omega⟩
      · exact lp_31 () (show True from by first | trivial | omega | (refine ⟨by assumption, ?_⟩; omega) | (refine ⟨?_, ?_⟩ <;> omega))
  · refine xMVf (sh := shS) (ci := 6) (τ := [3, 4, 5]) (E := xT kX6_fail) (t := 3) (r := [xvi 1]) (σ := σ) rfl rfl (fun Q34 hQ34 => sX6_fail (σ := xsel [3, 4, 5] σ) (kind := 1)  (fun r34 ς34 f34 p34 => hQ34 _ _ ?_))
    have kq34_2 : (xbk [3, 4, 5] σ ς34) 3 2 = σ 3 2 := f34.2 2 (by decide)
    have kq34_4 : (xbk [3, 4, 5] σ ς34) 3 4 = σ 3 4 := f34.2 4 (by decide)
    have kq34_5 : (xbk [3, 4, 5] σ ς34) 3 5 = σ 3 5 := f34.2 5 (by decide)
    have kq34_7 : (xbk [3, 4, 5] σ ς34) 3 7 = σ 3 7 := f34.2 7 (by decide)
    have kq34_8 : (xbk [3, 4, 5] σ ς34) 3 8 = σ 3 8 := f34.2 8 (by decide)
    replace f34 : Fr [3] [] σ (xbk [3, 4, 5] σ ς34) := f34.bk (by decide) (by decide)
    replace p34 : r34 = 0 := p34
    generalize xbk [3, 4, 5] σ ς34 = σ34 at f34 kq34_2 kq34_4 kq34_5 kq34_7 kq34_8 p34 ⊢
    have hF := hF.tr f34 (by decide) (by decide)
    have km34 : σ34 1 1 = σ 1 1 := congrFun (f34.1 1 (by decide) (by decide)) 1
    have kp34 : σ34 6 1 = σ 6 1 := congrFun (hF.1 6 (by decide) (by decide)) 1
    refine And.intro rfl ?_
    refine And.intro (by omega) ?_
    exact hQ _ _ hF ⟨(show 0 ≤ σ34 1 1 ∧ σ34 1 1 ≤ 40 from by omega), (show 0 ≤ σ34 3 4 ∧ σ34 3 4 ≤ σ34 3 2 ∧ σ34 3 2 ≤ 940 from by omega), by omega⟩
