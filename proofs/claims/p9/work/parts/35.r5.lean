set_option maxHeartbeats 4000000 in
set_option maxRecDepth 100000 in
theorem s_badF {σ : xS} {kind : Int} {Q : Option xV → xS → Prop} (hQ : ∀ r : Int, ∀ σ' : xS, Fr [] [15, 16] σ σ' → (r = 0) → Q (some (xvi r)) σ') : xT kX11_bad [xvr 0, xvi kind] σ Q := by
  refine ⟨Nat.le_of_ble_eq_true rfl, fun X hX => ?_⟩
  show X 0 [xvr 0, xvi kind] σ
  have hF : Fr [] [15, 16] σ σ := Fr.rf
  refine hX 400 0 _ _ ?_
  have hF := hF.p (j := 15) (v := kind) (by decide)
  intro v2 e2 l2 h2
  have e2 : v2 = σ 0 12 := e2
  have hF := hF.p (j := 16) (v := v2) (by decide)
  refine And.intro rfl ?_
  refine And.intro (by omega) ?_
  exact hQ _ _ hF (by omega)
set_option maxHeartbeats 4000000 in
set_option maxRecDepth 100000 in
theorem s_sign {σ : xS} {c : Int} {Q : Option xV → xS → Prop} (hp0 : 0 ≤ σ 0 4 ∧ σ 0 4 ≤ σ 0 3 ∧ σ 0 3 ≤ 940) (hQ : ∀ r : Int, ∀ σ' : xS, Fr [] [4, 11, 12, 13, 14, 15, 16, 17] σ σ' → ((r = 1 ∧ σ 0 11 = 3 ∧ σ 0 14 = c ∧ (σ' 0 3 = σ 0 3 ∧ σ 0 4 ≤ σ' 0 4 ∧ σ' 0 4 ≤ σ' 0 3 ∧ (0 ≤ σ' 0 11 ∧ σ' 0 11 ≤ 4) ∧ (1 ≤ σ' 0 11 ∧ σ' 0 11 ≤ 3 → σ 0 4 < σ' 0 4 ∧ 0 ≤ σ' 0 14))) ∨ r = 0) → Q (some (xvi r)) σ') : xT kX11_sign [xvr 0, xvi c] σ Q := by
  refine ⟨Nat.le_of_ble_eq_true rfl, fun X hX => ?_⟩
  show X 0 [xvr 0, xvi c] σ
  have hF : Fr [] [4, 11, 12, 13, 14, 15, 16, 17] σ σ := Fr.rf
  refine hX 400 0 _ _ ?_
  refine s_isSign (σ := σ) (c := c) (fun r1 p1 => ?_)
  refine And.intro (fun c2 => ?_) (fun c2 => ?_)
  · refine s_next (σ := σ) (show 0 ≤ σ 0 4 ∧ σ 0 4 ≤ σ 0 3 ∧ σ 0 3 ≤ 940 from by omega) (fun σ3 f3 p3 => ?_)
    have p3 : σ3 0 3 = (σ 0 3) ∧ (σ 0 4) ≤ σ3 0 4 ∧ σ3 0 4 ≤ σ3 0 3 ∧ (0 ≤ σ3 0 11 ∧ σ3 0 11 ≤ 4) ∧ (1 ≤ σ3 0 11 ∧ σ3 0 11 ≤ 3 → (σ 0 4) < σ3 0 4 ∧ 0 ≤ σ3 0 14) := p3
    have hF := hF.tr f3 (by decide) (by decide)
    refine And.intro rfl ?_
    refine And.intro (by omega) ?_
    exact hQ _ _ hF (Or.inl ⟨rfl, by omega, by omega, p3⟩)
  · refine s_badF (σ := σ) (kind := 1) (fun r4 σ4 f4 p4 => ?_)
    have hF := hF.tr f4 (by decide) (by decide)
    refine And.intro rfl ?_
    refine And.intro (by omega) ?_
    exact hQ _ _ hF (Or.inr (by omega))
set_option maxHeartbeats 4000000 in
set_option maxRecDepth 100000 in
theorem s_takes {σ : xS} {low high : Int} {Q : Option xV → xS → Prop} (hp0 : 0 ≤ σ 0 4 ∧ σ 0 4 ≤ σ 0 3 ∧ σ 0 3 ≤ 940) (hQ : ∀ r : Int, ∀ σ' : xS, Fr [] [4, 11, 12, 13, 14, 15, 16, 17, 18] σ σ' → ((r = 1 ∧ σ 0 11 = 2 ∧ (low ≤ σ' 0 18 ∧ σ' 0 18 ≤ high) ∧ (σ' 0 3 = σ 0 3 ∧ σ 0 4 ≤ σ' 0 4 ∧ σ' 0 4 ≤ σ' 0 3 ∧ (0 ≤ σ' 0 11 ∧ σ' 0 11 ≤ 4) ∧ (1 ≤ σ' 0 11 ∧ σ' 0 11 ≤ 3 → σ 0 4 < σ' 0 4 ∧ 0 ≤ σ' 0 14))) ∨ r = 0) → Q (some (xvi r)) σ') : xT kX11_takes [xvr 0, xvi low, xvi high] σ Q := by
  refine ⟨Nat.le_of_ble_eq_true rfl, fun X hX => ?_⟩
  show X 0 [xvr 0, xvi low, xvi high] σ
  have hF : Fr [] [4, 11, 12, 13, 14, 15, 16, 17, 18] σ σ := Fr.rf
  refine hX 400 0 _ _ ?_
  intro v1 e1 l1 h1
  have e1 : v1 = σ 0 11 := e1
  refine And.intro (fun c2 => ?_) (fun c2 => ?_)
  · intro v3 e3 l3 h3
    have e3 : v3 = σ 0 14 := e3
    refine s_isIn (σ := σ) (v := v3) (low := low) (high := high) (fun r4 p4 => ?_)
    refine And.intro (fun c5 => ?_) (fun c5 => ?_)
    · intro v6 e6 l6 h6
      have e6 : v6 = σ 0 14 := e6
      have hF := hF.p (j := 18) (v := v6) (by decide)
      refine s_next (σ := (xput σ 0 18 v6)) (show 0 ≤ σ 0 4 ∧ σ 0 4 ≤ σ 0 3 ∧ σ 0 3 ≤ 940 from by omega) (fun σ8 f8 p8 => ?_)
      have p8 : σ8 0 3 = (σ 0 3) ∧ (σ 0 4) ≤ σ8 0 4 ∧ σ8 0 4 ≤ σ8 0 3 ∧ (0 ≤ σ8 0 11 ∧ σ8 0 11 ≤ 4) ∧ (1 ≤ σ8 0 11 ∧ σ8 0 11 ≤ 3 → (σ 0 4) < σ8 0 4 ∧ 0 ≤ σ8 0 14) := p8
      have hF := hF.tr f8 (by decide) (by decide)
      refine And.intro rfl ?_
      refine And.intro (by omega) ?_
      have k18 := f8.2 18 (by decide)
      have k18 : σ8 0 18 = _ := k18
      exact hQ _ _ hF (Or.inl ⟨rfl, by omega, (by rw [k18]; show low ≤ _ ∧ _ ≤ high; rw [xput_s]; omega), p8⟩)
    · refine s_badF (σ := σ) (kind := 2) (fun r9 σ9 f9 p9 => ?_)
      have hF := hF.tr f9 (by decide) (by decide)
      refine And.intro rfl ?_
      refine And.intro (by omega) ?_
      exact hQ _ _ hF (Or.inr (by omega))
  · refine s_badF (σ := σ) (kind := 1) (fun r10 σ10 f10 p10 => ?_)
    have hF := hF.tr f10 (by decide) (by decide)
    refine And.intro rfl ?_
    refine And.intro (by omega) ?_
    exact hQ _ _ hF (Or.inr (by omega))
