/-- what stands between two lines of a table -/
def TG (σ : xS) : Prop := C0x (xsel [5, 6, 7, 8, 9, 10, 11, 12, 13, 14, 15, 16, 17] σ) ∧ (∀ k : Nat, k < 13 → gsf (σ 7) (σ 9) (σ 5 8) (σ 5 9) k ≤ σ 1 k ∧ σ 1 k ≤ 4) ∧ (σ 5 2 = 0 ∨ σ 5 2 = 1) ∧ ∀ i : Nat, (i : Int) < σ 5 9 → σ 9 i < σ 5 0
theorem TG.fr {σ σ' : xS} {ts js : List Nat} (h : TG σ) (hF : Fr ts js σ σ') (a1 : 1 ∉ ts) (a5 : 5 ∉ ts) (a7 : 7 ∉ ts) (a9 : 9 ∉ ts) : TG σ' := by
  have e1 := hF.1 1 (by decide) a1; have e5 := hF.1 5 (by decide) a5; have e7 := hF.1 7 (by decide) a7; have e9 := hF.1 9 (by decide) a9
  obtain ⟨h1, h2, h3⟩ := h
  refine ⟨?_, ?_, ?_⟩
  · obtain ⟨⟨g1, g2, g3, g4⟩, g5, g6⟩ := h1
    refine ⟨⟨?_, ?_, ?_, ?_⟩, ?_, ?_⟩
    · show 0 ≤ σ' 5 0 ∧ σ' 5 0 ≤ 13; rw [e5]; exact g1
    · show 0 ≤ σ' 5 1 ∧ σ' 5 1 ≤ 6; rw [e5]; exact g2
    · show 0 ≤ σ' 5 8 ∧ σ' 5 8 ≤ σ' 5 9 ∧ σ' 5 9 ≤ 52; rw [e5]; exact g3
    · show ∀ i : Nat, (i : Int) < σ' 5 9 → 0 ≤ σ' 9 i ∧ σ' 9 i ≤ 12; rw [e5, e9]; exact g4
    · show CHx (σ' 7); rw [e7]; exact g5
    · show CSx (σ' 7) (σ' 9) (σ' 5 8) (σ' 5 9); rw [e5, e7, e9]; exact g6
  · rw [e1, e5, e7, e9]; exact h2
  · rw [e5, e9]; exact h3
theorem TG.f5 {σ : xS} {j : Nat} {v : Int} (h : TG σ) (h0 : j = 0 → 0 ≤ v ∧ v ≤ 13) (h1 : j = 1 → 0 ≤ v ∧ v ≤ 6) (h2 : j = 2 → v = 0 ∨ v = 1) (h8 : j ≠ 8) (h9 : j ≠ 9) (hz : j = 0 → σ 5 0 ≤ 0) : TG (xput σ 5 j v) := by
  have e : ∀ i, i ≠ j → xput σ 5 j v 5 i = σ 5 i := fun i hi => by rw [xput_up, up_n hi]
  have e' : xput σ 5 j v 5 j = v := by rw [xput_up, up_s]
  obtain ⟨⟨⟨g1, g2, g3, g4⟩, g5, g6⟩, h4, h3, h3k⟩ := h
  have k8 := e 8 (fun z => h8 z.symm); have k9 := e 9 (fun z => h9 z.symm)
  refine ⟨⟨⟨?_, ?_, ?_, ?_⟩, g5, ?_⟩, ?_, ?_, ?_⟩
  · show 0 ≤ xput σ 5 j v 5 0 ∧ xput σ 5 j v 5 0 ≤ 13
    by_cases z : j = 0
    · rw [z] at e' ⊢; rw [e']; exact h0 z
    · rw [e 0 (fun y => z y.symm)]; exact g1
  · show 0 ≤ xput σ 5 j v 5 1 ∧ xput σ 5 j v 5 1 ≤ 6
    by_cases z : j = 1
    · rw [z] at e' ⊢; rw [e']; exact h1 z
    · rw [e 1 (fun y => z y.symm)]; exact g2
  · show 0 ≤ xput σ 5 j v 5 8 ∧ xput σ 5 j v 5 8 ≤ xput σ 5 j v 5 9 ∧ xput σ 5 j v 5 9 ≤ 52
    rw [k8, k9]; exact g3
  · show ∀ i : Nat, (i : Int) < xput σ 5 j v 5 9 → 0 ≤ σ 9 i ∧ σ 9 i ≤ 12
    rw [k9]; exact g4
  · show CSx (σ 7) (σ 9) (xput σ 5 j v 5 8) (xput σ 5 j v 5 9)
    rw [k8, k9]; exact g6
  · show ∀ k : Nat, k < 13 → gsf (σ 7) (σ 9) (xput σ 5 j v 5 8) (xput σ 5 j v 5 9) k ≤ σ 1 k ∧ σ 1 k ≤ 4
    rw [k8, k9]; exact h4
  · by_cases z : j = 2
    · rw [z] at e' ⊢; rw [e']; exact h2 z
    · rw [e 2 (fun y => z y.symm)]; exact h3
  · show ∀ i : Nat, (i : Int) < xput σ 5 j v 5 9 → σ 9 i < xput σ 5 j v 5 0
    rw [k9]
    intro i hi
    have q4 : 0 ≤ σ 9 i ∧ σ 9 i ≤ 12 := g4 i hi
    have q5 := h3k i hi
    by_cases z : j = 0
    · have q6 := hz z
      omega
    · rw [e 0 (fun y => z y.symm)]; exact q5
set_option maxHeartbeats 4000000 in
set_option maxRecDepth 100000 in
theorem sX9_readKinds {σ : xS} {Q : Option xV → xS → Prop} (hp0 : TG σ) (hp1 : (0 ≤ σ 2 4 ∧ σ 2 4 ≤ σ 2 2 ∧ σ 2 2 ≤ 940)) (hQ : ∀ r : Int, ∀ σ' : xS, Fr [2, 5] [] σ σ' → (TG σ' ∧ (0 ≤ σ' 2 4 ∧ σ' 2 4 ≤ σ' 2 2 ∧ σ' 2 2 ≤ 940) ∧ (r = 0 ∨ r = 1)) → Q (some (xvi r)) σ') : xT kX9_readKinds [xvr 0, xvr 5] σ Q := by
  refine ⟨Nat.le_of_ble_eq_true rfl, fun X hX => ?_⟩
  show X 0 [xvr 0, xvr 5] σ
  have hF : Fr [2, 5] [] σ σ := Fr.rf
  refine hX 400 0 _ _ ?_
  have hT := hp0
  have kz : σ 5 0 = σ 5 0 := rfl
  intro v1 e1 l1 h1
  have e1 : v1 = σ 5 0 := e1
  refine And.intro (fun c2 => ?_) (fun c2 => ?_)
  · refine xMVf (sh := shT) (ci := 6) (τ := [2, 3, 4]) (E := xT kX6_advance) (t := 2) (r := []) (σ := σ) rfl rfl (fun Q3 hQ3 => sX6_advance (σ := xsel [2, 3, 4] σ)  (show 0 ≤ (σ 2 4) ∧ (σ 2 4) ≤ (σ 2 2) ∧ (σ 2 2) ≤ 940 from by omega) (fun ς3 f3 p3 => hQ3 _ _ ?_))
    have kq3_2 : (xbk [2, 3, 4] σ ς3) 2 2 = σ 2 2 := f3.2 2 (by decide)
    replace f3 : Fr [2] [] σ (xbk [2, 3, 4] σ ς3) := f3.bk (by decide) (by decide)
    replace p3 : 0 ≤ (xbk [2, 3, 4] σ ς3) 2 4 ∧ (xbk [2, 3, 4] σ ς3) 2 4 ≤ (σ 2 2) := p3
    generalize xbk [2, 3, 4] σ ς3 = σ3 at f3 kq3_2 p3 ⊢
    have hF := hF.tr f3 (by decide) (by decide)
    have hT := hT.fr f3 (by decide) (by decide) (by decide) (by decide)
    try have kz := (congrFun (f3.1 5 (by decide) (by decide)) 0).trans kz
    refine xMVf (sh := shT) (ci := 6) (τ := [2, 3, 4]) (E := xT kX6_isNumber) (t := 2) (r := [xvi 2, xvi 13]) (σ := σ3) rfl rfl (fun Q4 hQ4 => sX6_isNumber (σ := xsel [2, 3, 4] σ3) (least := 2) (greatest := 13)  (fun r4 ς4 f4 p4 => hQ4 _ _ ?_))
    have kq4_2 : (xbk [2, 3, 4] σ3 ς4) 2 2 = σ3 2 2 := f4.2 2 (by decide)
    have kq4_4 : (xbk [2, 3, 4] σ3 ς4) 2 4 = σ3 2 4 := f4.2 4 (by decide)
    have kq4_5 : (xbk [2, 3, 4] σ3 ς4) 2 5 = σ3 2 5 := f4.2 5 (by decide)
    have kq4_7 : (xbk [2, 3, 4] σ3 ς4) 2 7 = σ3 2 7 := f4.2 7 (by decide)
    have kq4_8 : (xbk [2, 3, 4] σ3 ς4) 2 8 = σ3 2 8 := f4.2 8 (by decide)
    replace f4 : Fr [2] [] σ3 (xbk [2, 3, 4] σ3 ς4) := f4.bk (by decide) (by decide)
    replace p4 : (r4 = 1 ∧ 2 ≤ (σ3 2 7) ∧ (σ3 2 7) ≤ 13) ∨ (r4 = 0 ∧ (0 : Int) ≤ 0) := p4
    generalize xbk [2, 3, 4] σ3 ς4 = σ4 at f4 kq4_2 kq4_4 kq4_5 kq4_7 kq4_8 p4 ⊢
    have hF := hF.tr f4 (by decide) (by decide)
    have hT := hT.fr f4 (by decide) (by decide) (by decide) (by decide)
    try have kz := (congrFun (f4.1 5 (by decide) (by decide)) 0).trans kz
    refine And.intro (fun c5 => ?_) (fun c5 => ?_)
    · intro v6 e6 l6 h6
      have e6 : v6 = σ4 2 7 := e6
      have hF := hF.pt (t := 5) (j := 0) (v := v6) (by decide) (by decide)
      have hT : TG (xput σ4 5 0 v6) := hT.f5 (by intro _; omega) (by intro z; cases z) (by intro z; cases z) (by decide) (by decide) (by intro _; omega)
      refine xMVf (sh := shT) (ci := 6) (τ := [2, 3, 4]) (E := xT kX6_advance) (t := 2) (r := []) (σ := (xput σ4 5 0 v6)) rfl rfl (fun Q8 hQ8 => sX6_advance (σ := xsel [2, 3, 4] (xput σ4 5 0 v6))  (show 0 ≤ (σ4 2 4) ∧ (σ4 2 4) ≤ (σ4 2 2) ∧ (σ4 2 2) ≤ 940 from by omega) (fun ς8 f8 p8 => hQ8 _ _ ?_))
      have kq8_2 : (xbk [2, 3, 4] (xput σ4 5 0 v6) ς8) 2 2 = σ4 2 2 := f8.2 2 (by decide)
      replace f8 : Fr [2] [] (xput σ4 5 0 v6) (xbk [2, 3, 4] (xput σ4 5 0 v6) ς8) := f8.bk (by decide) (by decide)
      replace p8 : 0 ≤ (xbk [2, 3, 4] (xput σ4 5 0 v6) ς8) 2 4 ∧ (xbk [2, 3, 4] (xput σ4 5 0 v6) ς8) 2 4 ≤ (σ4 2 2) := p8
      generalize xbk [2, 3, 4] (xput σ4 5 0 v6) ς8 = σ8 at f8 kq8_2 p8 ⊢
      have hF := hF.tr f8 (by decide) (by decide)
      have hT := hT.fr f8 (by decide) (by decide) (by decide) (by decide)
      try have kz := (congrFun (f8.1 5 (by decide) (by decide)) 0).trans kz
      refine And.intro rfl ?_
      refine And.intro (by omega) ?_
      exact hQ _ _ hF ⟨hT, (show 0 ≤ σ8 2 4 ∧ σ8 2 4 ≤ σ8 2 2 ∧ σ8 2 2 ≤ 940 from by omega), by omega⟩
    · refine And.intro rfl ?_
      refine And.intro (by omega) ?_
      exact hQ _ _ hF ⟨hT, (show 0 ≤ σ4 2 4 ∧ σ4 2 4 ≤ σ4 2 2 ∧ σ4 2 2 ≤ 940 from by omega), by omega⟩
  · refine xMVf (sh := shT) (ci := 6) (τ := [2, 3, 4]) (E := xT kX6_fail) (t := 2) (r := [xvi 3]) (σ := σ) rfl rfl (fun Q9 hQ9 => sX6_fail (σ := xsel [2, 3, 4] σ) (kind := 3)  (fun r9 ς9 f9 p9 => hQ9 _ _ ?_))
    have kq9_2 : (xbk [2, 3, 4] σ ς9) 2 2 = σ 2 2 := f9.2 2 (by decide)
    have kq9_4 : (xbk [2, 3, 4] σ ς9) 2 4 = σ 2 4 := f9.2 4 (by decide)
    have kq9_5 : (xbk [2, 3, 4] σ ς9) 2 5 = σ 2 5 := f9.2 5 (by decide)
    have kq9_7 : (xbk [2, 3, 4] σ ς9) 2 7 = σ 2 7 := f9.2 7 (by decide)
    have kq9_8 : (xbk [2, 3, 4] σ ς9) 2 8 = σ 2 8 := f9.2 8 (by decide)
    replace f9 : Fr [2] [] σ (xbk [2, 3, 4] σ ς9) := f9.bk (by decide) (by decide)
    replace p9 : r9 = 0 := p9
    generalize xbk [2, 3, 4] σ ς9 = σ9 at f9 kq9_2 kq9_4 kq9_5 kq9_7 kq9_8 p9 ⊢
    have hF := hF.tr f9 (by decide) (by decide)
    have hT := hT.fr f9 (by decide) (by decide) (by decide) (by decide)
    try have kz := (congrFun (f9.1 5 (by decide) (by decide)) 0).trans kz
    refine And.intro rfl ?_
    refine And.intro (by omega) ?_
    exact hQ _ _ hF ⟨hT, (show 0 ≤ σ9 2 4 ∧ σ9 2 4 ≤ σ9 2 2 ∧ σ9 2 2 ≤ 940 from by omega), by omega⟩
set_option maxHeartbeats 4000000 in
set_option maxRecDepth 100000 in
theorem sX9_readAgain {σ : xS} {Q : Option xV → xS → Prop} (hp0 : TG σ) (hp1 : (0 ≤ σ 2 4 ∧ σ 2 4 ≤ σ 2 2 ∧ σ 2 2 ≤ 940)) (hQ : ∀ r : Int, ∀ σ' : xS, Fr [2, 5] [] σ σ' → (TG σ' ∧ (0 ≤ σ' 2 4 ∧ σ' 2 4 ≤ σ' 2 2 ∧ σ' 2 2 ≤ 940) ∧ (r = 0 ∨ r = 1)) → Q (some (xvi r)) σ') : xT kX9_readAgain [xvr 0, xvr 5] σ Q := by
  refine ⟨Nat.le_of_ble_eq_true rfl, fun X hX => ?_⟩
  show X 0 [xvr 0, xvr 5] σ
  have hF : Fr [2, 5] [] σ σ := Fr.rf
  refine hX 400 0 _ _ ?_
  have hT := hp0
  intro v1 e1 l1 h1
  have e1 : v1 = σ 5 2 := e1
  refine And.intro (fun c2 => ?_) (fun c2 => ?_)
  · refine And.intro (by omega) ?_
    have hF := hF.pt (t := 5) (j := 2) (v := 1) (by decide) (by decide)
    have hT : TG (xput σ 5 2 1) := hT.f5 (by intro z; cases z) (by intro z; cases z) (by intro _; omega) (by decide) (by decide) (by intro z; cases z)
    refine xMVf (sh := shT) (ci := 6) (τ := [2, 3, 4]) (E := xT kX6_advance) (t := 2) (r := []) (σ := (xput σ 5 2 1)) rfl rfl (fun Q4 hQ4 => sX6_advance (σ := xsel [2, 3, 4] (xput σ 5 2 1))  (show 0 ≤ (σ 2 4) ∧ (σ 2 4) ≤ (σ 2 2) ∧ (σ 2 2) ≤ 940 from by omega) (fun ς4 f4 p4 => hQ4 _ _ ?_))
    have kq4_2 : (xbk [2, 3, 4] (xput σ 5 2 1) ς4) 2 2 = σ 2 2 := f4.2 2 (by decide)
    replace f4 : Fr [2] [] (xput σ 5 2 1) (xbk [2, 3, 4] (xput σ 5 2 1) ς4) := f4.bk (by decide) (by decide)
    replace p4 : 0 ≤ (xbk [2, 3, 4] (xput σ 5 2 1) ς4) 2 4 ∧ (xbk [2, 3, 4] (xput σ 5 2 1) ς4) 2 4 ≤ (σ 2 2) := p4
    generalize xbk [2, 3, 4] (xput σ 5 2 1) ς4 = σ4 at f4 kq4_2 p4 ⊢
    have hF := hF.tr f4 (by decide) (by decide)
    have hT := hT.fr f4 (by decide) (by decide) (by decide) (by decide)
    refine And.intro rfl ?_
    refine And.intro (by omega) ?_
    exact hQ _ _ hF ⟨hT, (show 0 ≤ σ4 2 4 ∧ σ4 2 4 ≤ σ4 2 2 ∧ σ4 2 2 ≤ 940 from by omega), by omega⟩
  · refine xMVf (sh := shT) (ci := 6) (τ := [2, 3, 4]) (E := xT kX6_fail) (t := 2) (r := [xvi 3]) (σ := σ) rfl rfl (fun Q5 hQ5 => sX6_fail (σ := xsel [2, 3, 4] σ) (kind := 3)  (fun r5 ς5 f5 p5 => hQ5 _ _ ?_))
    have kq5_2 : (xbk [2, 3, 4] σ ς5) 2 2 = σ 2 2 := f5.2 2 (by decide)
    have kq5_4 : (xbk [2, 3, 4] σ ς5) 2 4 = σ 2 4 := f5.2 4 (by decide)
    have kq5_5 : (xbk [2, 3, 4] σ ς5) 2 5 = σ 2 5 := f5.2 5 (by decide)
    have kq5_7 : (xbk [2, 3, 4] σ ς5) 2 7 = σ 2 7 := f5.2 7 (by decide)
    have kq5_8 : (xbk [2, 3, 4] σ ς5) 2 8 = σ 2 8 := f5.2 8 (by decide)
    replace f5 : Fr [2] [] σ (xbk [2, 3, 4] σ ς5) := f5.bk (by decide) (by decide)
    replace p5 : r5 = 0 := p5
    generalize xbk [2, 3, 4] σ ς5 = σ5 at f5 kq5_2 kq5_4 kq5_5 kq5_7 kq5_8 p5 ⊢
    have hF := hF.tr f5 (by decide) (by decide)
    have hT := hT.fr f5 (by decide) (by decide) (by decide) (by decide)
    refine And.intro rfl ?_
    refine And.intro (by omega) ?_
    exact hQ _ _ hF ⟨hT, (show 0 ≤ σ5 2 4 ∧ σ5 2 4 ≤ σ5 2 2 ∧ σ5 2 2 ≤ 940 from by omega), by omega⟩
set_option maxHeartbeats 4000000 in
set_option maxRecDepth 100000 in
theorem sX9_readRefill {σ : xS} {Q : Option xV → xS → Prop} (hp0 : TG σ) (hp1 : (0 ≤ σ 2 4 ∧ σ 2 4 ≤ σ 2 2 ∧ σ 2 2 ≤ 940)) (hQ : ∀ r : Int, ∀ σ' : xS, Fr [2, 5] [2] σ σ' → (TG σ' ∧ (0 ≤ σ' 2 4 ∧ σ' 2 4 ≤ σ' 2 2 ∧ σ' 2 2 ≤ 940) ∧ (r = 0 ∨ r = 1)) → Q (some (xvi r)) σ') : xT kX9_readRefill [xvr 0, xvr 5] σ Q := by
  refine ⟨Nat.le_of_ble_eq_true rfl, fun X hX => ?_⟩
  show X 0 [xvr 0, xvr 5] σ
  have hF : Fr [2, 5] [2] σ σ := Fr.rf
  refine hX 400 0 _ _ ?_
  have hT := hp0
  intro v1 e1 l1 h1
  have e1 : v1 = σ 0 2 := e1
  refine And.intro (fun c2 => ?_) (fun c2 => ?_)
  · refine And.intro (by omega) ?_
    have hF := hF.p (j := 2) (v := 1) (by decide)
    have hT : TG (xput σ 0 2 1) := hT
    refine xMVf (sh := shT) (ci := 6) (τ := [2, 3, 4]) (E := xT kX6_advance) (t := 2) (r := []) (σ := (xput σ 0 2 1)) rfl rfl (fun Q4 hQ4 => sX6_advance (σ := xsel [2, 3, 4] (xput σ 0 2 1))  (show 0 ≤ (σ 2 4) ∧ (σ 2 4) ≤ (σ 2 2) ∧ (σ 2 2) ≤ 940 from by omega) (fun ς4 f4 p4 => hQ4 _ _ ?_))
    have kq4_2 : (xbk [2, 3, 4] (xput σ 0 2 1) ς4) 2 2 = σ 2 2 := f4.2 2 (by decide)
    replace f4 : Fr [2] [] (xput σ 0 2 1) (xbk [2, 3, 4] (xput σ 0 2 1) ς4) := f4.bk (by decide) (by decide)
    replace p4 : 0 ≤ (xbk [2, 3, 4] (xput σ 0 2 1) ς4) 2 4 ∧ (xbk [2, 3, 4] (xput σ 0 2 1) ς4) 2 4 ≤ (σ 2 2) := p4
    generalize xbk [2, 3, 4] (xput σ 0 2 1) ς4 = σ4 at f4 kq4_2 p4 ⊢
    have hF := hF.tr f4 (by decide) (by decide)
    have hT := hT.fr f4 (by decide) (by decide) (by decide) (by decide)
    refine xMVf (sh := shT) (ci := 6) (τ := [2, 3, 4]) (E := xT kX6_isNumber) (t := 2) (r := [xvi 0, xvi 9]) (σ := σ4) rfl rfl (fun Q5 hQ5 => sX6_isNumber (σ := xsel [2, 3, 4] σ4) (least := 0) (greatest := 9)  (fun r5 ς5 f5 p5 => hQ5 _ _ ?_))
    have kq5_2 : (xbk [2, 3, 4] σ4 ς5) 2 2 = σ4 2 2 := f5.2 2 (by decide)
    have kq5_4 : (xbk [2, 3, 4] σ4 ς5) 2 4 = σ4 2 4 := f5.2 4 (by decide)
    have kq5_5 : (xbk [2, 3, 4] σ4 ς5) 2 5 = σ4 2 5 := f5.2 5 (by decide)
    have kq5_7 : (xbk [2, 3, 4] σ4 ς5) 2 7 = σ4 2 7 := f5.2 7 (by decide)
    have kq5_8 : (xbk [2, 3, 4] σ4 ς5) 2 8 = σ4 2 8 := f5.2 8 (by decide)
    replace f5 : Fr [2] [] σ4 (xbk [2, 3, 4] σ4 ς5) := f5.bk (by decide) (by decide)
    replace p5 : (r5 = 1 ∧ 0 ≤ (σ4 2 7) ∧ (σ4 2 7) ≤ 9) ∨ (r5 = 0 ∧ (0 : Int) ≤ 0) := p5
    generalize xbk [2, 3, 4] σ4 ς5 = σ5 at f5 kq5_2 kq5_4 kq5_5 kq5_7 kq5_8 p5 ⊢
    have hF := hF.tr f5 (by decide) (by decide)
    have hT := hT.fr f5 (by decide) (by decide) (by decide) (by decide)
    refine And.intro (fun c6 => ?_) (fun c6 => ?_)
    · intro v7 e7 l7 h7
      have e7 : v7 = σ5 2 7 := e7
      have hF := hF.pt (t := 5) (j := 3) (v := v7) (by decide) (by decide)
      have hT : TG (xput σ5 5 3 v7) := hT.f5 (by intro z; cases z) (by intro z; cases z) (by intro z; cases z) (by decide) (by decide) (by intro z; cases z)
      refine xMVf (sh := shT) (ci := 6) (τ := [2, 3, 4]) (E := xT kX6_advance) (t := 2) (r := []) (σ := (xput σ5 5 3 v7)) rfl rfl (fun Q9 hQ9 => sX6_advance (σ := xsel [2, 3, 4] (xput σ5 5 3 v7))  (show 0 ≤ (σ5 2 4) ∧ (σ5 2 4) ≤ (σ5 2 2) ∧ (σ5 2 2) ≤ 940 from by omega) (fun ς9 f9 p9 => hQ9 _ _ ?_))
      have kq9_2 : (xbk [2, 3, 4] (xput σ5 5 3 v7) ς9) 2 2 = σ5 2 2 := f9.2 2 (by decide)
      replace f9 : Fr [2] [] (xput σ5 5 3 v7) (xbk [2, 3, 4] (xput σ5 5 3 v7) ς9) := f9.bk (by decide) (by decide)
      replace p9 : 0 ≤ (xbk [2, 3, 4] (xput σ5 5 3 v7) ς9) 2 4 ∧ (xbk [2, 3, 4] (xput σ5 5 3 v7) ς9) 2 4 ≤ (σ5 2 2) := p9
      generalize xbk [2, 3, 4] (xput σ5 5 3 v7) ς9 = σ9 at f9 kq9_2 p9 ⊢
      have hF := hF.tr f9 (by decide) (by decide)
      have hT := hT.fr f9 (by decide) (by decide) (by decide) (by decide)
      refine And.intro rfl ?_
      refine And.intro (by omega) ?_
      exact hQ _ _ hF ⟨hT, (show 0 ≤ σ9 2 4 ∧ σ9 2 4 ≤ σ9 2 2 ∧ σ9 2 2 ≤ 940 from by omega), by omega⟩
    · refine And.intro rfl ?_
      refine And.intro (by omega) ?_
      exact hQ _ _ hF ⟨hT, (show 0 ≤ σ5 2 4 ∧ σ5 2 4 ≤ σ5 2 2 ∧ σ5 2 2 ≤ 940 from by omega), by omega⟩
  · refine xMVf (sh := shT) (ci := 6) (τ := [2, 3, 4]) (E := xT kX6_fail) (t := 2) (r := [xvi 3]) (σ := σ) rfl rfl (fun Q10 hQ10 => sX6_fail (σ := xsel [2, 3, 4] σ) (kind := 3)  (fun r10 ς10 f10 p10 => hQ10 _ _ ?_))
    have kq10_2 : (xbk [2, 3, 4] σ ς10) 2 2 = σ 2 2 := f10.2 2 (by decide)
    have kq10_4 : (xbk [2, 3, 4] σ ς10) 2 4 = σ 2 4 := f10.2 4 (by decide)
    have kq10_5 : (xbk [2, 3, 4] σ ς10) 2 5 = σ 2 5 := f10.2 5 (by decide)
    have kq10_7 : (xbk [2, 3, 4] σ ς10) 2 7 = σ 2 7 := f10.2 7 (by decide)
    have kq10_8 : (xbk [2, 3, 4] σ ς10) 2 8 = σ 2 8 := f10.2 8 (by decide)
    replace f10 : Fr [2] [] σ (xbk [2, 3, 4] σ ς10) := f10.bk (by decide) (by decide)
    replace p10 : r10 = 0 := p10
    generalize xbk [2, 3, 4] σ ς10 = σ10 at f10 kq10_2 kq10_4 kq10_5 kq10_7 kq10_8 p10 ⊢
    have hF := hF.tr f10 (by decide) (by decide)
    have hT := hT.fr f10 (by decide) (by decide) (by decide) (by decide)
    refine And.intro rfl ?_
    refine And.intro (by omega) ?_
    exact hQ _ _ hF ⟨hT, (show 0 ≤ σ10 2 4 ∧ σ10 2 4 ≤ σ10 2 2 ∧ σ10 2 2 ≤ 940 from by omega), by omega⟩
