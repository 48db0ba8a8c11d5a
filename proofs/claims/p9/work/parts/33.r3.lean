set_option maxHeartbeats 4000000 in
set_option maxRecDepth 100000 in
theorem s_four {σ : xS} {v : Int} {Q : Option xV → xS → Prop} (hp0 : 0 ≤ σ 0 2 ∧ σ 0 2 ≤ 936) (hQ : ∀ σ' : xS, Fr [1] [2] σ σ' → (σ' 0 2 = σ 0 2 + 4) → Q none σ') : xT kX11_four [xvr 0, xvi v] σ Q := by
  refine ⟨Nat.le_of_ble_eq_true rfl, fun X hX => ?_⟩
  show X 0 [xvr 0, xvi v, xvu] σ
  have hF : Fr [1] [2] σ σ := Fr.rf
  refine hX 400 0 _ _ ?_
  refine And.intro (Nat.le_of_ble_eq_true rfl) ?_
  show xw _ _ _ _ _ _ _ _ _ _ [xvr 0, xvi v, xvi 24] _ _
  have lp_3 : ∀ (m3 : Nat) (k : Int) (s1 : xS), ((k + 8).toNat) = m3 → (Fr [1] [2] σ s1 ∧ ((k = 24 ∨ k = 16 ∨ k = 8 ∨ k = 0 ∨ k = -8) ∧ 8 * s1 0 2 = 8 * σ 0 2 + 24 - k)) → X 3 [xvr 0, xvi v, xvi k] s1 := by
    intro m3
    induction m3 using Nat.strongRecOn with
    | _ m3 ih_3 =>
    intro k s1 hm_3 hv_3
    obtain ⟨hF, hv_3⟩ := hv_3
    refine hX 400 3 _ _ ?_
    refine And.intro (fun c2 => ?_) (fun c2 => ?_)
    · refine And.intro rfl (And.intro rfl ?_)
      exact hQ _ hF (by omega)
    · intro v3 e3 l3 h3
      have e3 : v3 = s1 0 2 := e3
      intro z4 e4 l4 h4
      intro z5 e5 l5 h5
      refine And.intro (Or.inl rfl) (And.intro (⟨by omega, by omega⟩) ?_)
      have hF := hF.pt (t := 1) (j := v3.toNat) (v := xbyte z5) (by decide) (by decide)
      intro v7 e7 l7 h7
      have e7 : v7 = s1 0 2 := e7
      intro z8 t8 e8 l8 h8
      try have w8 : t8 = 0 := by omega
      have hF := hF.p (j := 2) (v := z8) (by decide)
      intro z10 t10 e10 l10 h10
      try have w10 : t10 = 0 := by omega
      show xw _ _ _ _ _ _ _ _ _ _ [xvr 0, xvi v, xvi z10] _ _
      exact ih_3 _ (show (z10 + 8).toNat < m3 from by omega) z10 (xput (xput s1 1 v3.toNat (xbyte z5)) 0 2 z8) rfl (show Fr [1] [2] σ (xput (xput s1 1 v3.toNat (xbyte z5)) 0 2 z8) ∧ ((z10 = 24 ∨ z10 = 16 ∨ z10 = 8 ∨ z10 = 0 ∨ z10 = -8) ∧ 8 * (z8) = 8 * σ 0 2 + 24 - z10) from by (refine ⟨hF, ?_⟩; omega))
  exact lp_3 _ 24 σ rfl (show Fr [1] [2] σ σ ∧ ((24 = 24 ∨ 24 = 16 ∨ 24 = 8 ∨ 24 = 0 ∨ 24 = -8) ∧ 8 * (σ 0 2) = 8 * σ 0 2 + 24 - 24) from by (refine ⟨hF, ?_⟩; omega))
set_option maxHeartbeats 4000000 in
set_option maxRecDepth 100000 in
theorem s_feed {σ : xS} {a b c d e : Int} {Q : Option xV → xS → Prop} (hp0 : 0 ≤ σ 0 2 ∧ σ 0 2 ≤ 940) (hQ : ∀ r : Int, ∀ σ' : xS, Fr [1] [0, 2] σ σ' → ((σ 0 2 ≤ 920 ∧ r = σ 0 2 + 20 ∧ σ' 0 2 = σ 0 2 + 20) ∨ (920 < σ 0 2 ∧ r = -1 ∧ σ' 0 2 = σ 0 2)) → Q (some (xvi r)) σ') : xT kX11_feed [xvr 0, xvi a, xvi b, xvi c, xvi d, xvi e] σ Q := by
  refine ⟨Nat.le_of_ble_eq_true rfl, fun X hX => ?_⟩
  show X 0 [xvr 0, xvi a, xvi b, xvi c, xvi d, xvi e] σ
  have hF : Fr [1] [0, 2] σ σ := Fr.rf
  refine hX 400 0 _ _ ?_
  have hF := hF.p (j := 0) (v := 0) (by decide)
  intro v2 e2 l2 h2
  have e2 : v2 = σ 0 2 := e2
  intro z3 t3 e3 l3 h3
  try have w3 : t3 = 0 := by omega
  refine And.intro (fun c4 => ?_) (fun c4 => ?_)
  · refine s_four (σ := (xput σ 0 0 0)) (v := a) (show 0 ≤ σ 0 2 ∧ σ 0 2 ≤ 936 from by omega) (fun σ5 f5 p5 => ?_)
    have hF := hF.tr f5 (by decide) (by decide)
    have p5 : σ5 0 2 = σ 0 2 + 4 := p5
    refine s_four (σ := σ5) (v := b) (show 0 ≤ σ5 0 2 ∧ σ5 0 2 ≤ 936 from by omega) (fun σ6 f6 p6 => ?_)
    have hF := hF.tr f6 (by decide) (by decide)
    have p6 : σ6 0 2 = σ5 0 2 + 4 := p6
    refine s_four (σ := σ6) (v := c) (show 0 ≤ σ6 0 2 ∧ σ6 0 2 ≤ 936 from by omega) (fun σ7 f7 p7 => ?_)
    have hF := hF.tr f7 (by decide) (by decide)
    have p7 : σ7 0 2 = σ6 0 2 + 4 := p7
    refine s_four (σ := σ7) (v := d) (show 0 ≤ σ7 0 2 ∧ σ7 0 2 ≤ 936 from by omega) (fun σ8 f8 p8 => ?_)
    have hF := hF.tr f8 (by decide) (by decide)
    have p8 : σ8 0 2 = σ7 0 2 + 4 := p8
    refine s_four (σ := σ8) (v := e) (show 0 ≤ σ8 0 2 ∧ σ8 0 2 ≤ 936 from by omega) (fun σ9 f9 p9 => ?_)
    have hF := hF.tr f9 (by decide) (by decide)
    have p9 : σ9 0 2 = σ8 0 2 + 4 := p9
    intro v10 e10 l10 h10
    have e10 : v10 = σ9 0 2 := e10
    refine And.intro rfl ?_
    exact hQ _ _ hF (show (σ 0 2 ≤ 920 ∧ v10 = σ 0 2 + 20 ∧ σ9 0 2 = σ 0 2 + 20) ∨ (920 < σ 0 2 ∧ v10 = -1 ∧ σ9 0 2 = σ 0 2) from by omega)
  · refine And.intro rfl ?_
    exact hQ _ _ hF (show (σ 0 2 ≤ 920 ∧ (-1) = σ 0 2 + 20 ∧ σ 0 2 = σ 0 2 + 20) ∨ (920 < σ 0 2 ∧ (-1) = -1 ∧ σ 0 2 = σ 0 2) from by omega)
set_option maxHeartbeats 4000000 in
set_option maxRecDepth 100000 in
theorem s_end {σ : xS} {n : Int} {Q : Option xV → xS → Prop} (hp0 : 0 ≤ σ 0 2 ∧ σ 0 2 ≤ 940) (hQ : ∀ r : Int, ∀ σ' : xS, Fr [] [0, 2] σ σ' → ((r = 1 ∧ 0 ≤ n ∧ n ≤ σ 0 2 ∧ σ' 0 2 = n) ∨ (r = 0 ∧ (n < 0 ∨ σ 0 2 < n) ∧ σ' 0 2 = σ 0 2)) → Q (some (xvi r)) σ') : xT kX11_end [xvr 0, xvi n] σ Q := by
  refine ⟨Nat.le_of_ble_eq_true rfl, fun X hX => ?_⟩
  show X 0 [xvr 0, xvi n] σ
  have hF : Fr [] [0, 2] σ σ := Fr.rf
  refine hX 400 0 _ _ ?_
  have hF := hF.p (j := 0) (v := 0) (by decide)
  refine And.intro (fun c2 => ?_) (fun c2 => ?_)
  · refine hX 400 17 _ _ ?_
    refine And.intro rfl ?_
    refine And.intro (by omega) ?_
    exact hQ _ _ hF (show (0 = 1 ∧ 0 ≤ n ∧ n ≤ σ 0 2 ∧ σ 0 2 = n) ∨ (0 = 0 ∧ (n < 0 ∨ σ 0 2 < n) ∧ σ 0 2 = σ 0 2) from by omega)
  · intro v3 e3 l3 h3
    have e3 : v3 = σ 0 2 := e3
    refine And.intro (fun c4 => ?_) (fun c4 => ?_)
    · have hF := hF.p (j := 2) (v := n) (by decide)
      refine And.intro rfl ?_
      refine And.intro (by omega) ?_
      exact hQ _ _ hF (show (1 = 1 ∧ 0 ≤ n ∧ n ≤ σ 0 2 ∧ n = n) ∨ (1 = 0 ∧ (n < 0 ∨ σ 0 2 < n) ∧ n = σ 0 2) from by omega)
    · refine hX 400 17 _ _ ?_
      refine And.intro rfl ?_
      refine And.intro (by omega) ?_
      exact hQ _ _ hF (show (0 = 1 ∧ 0 ≤ n ∧ n ≤ σ 0 2 ∧ σ 0 2 = n) ∨ (0 = 0 ∧ (n < 0 ∨ σ 0 2 < n) ∧ σ 0 2 = σ 0 2) from by omega)
set_option maxHeartbeats 4000000 in
set_option maxRecDepth 100000 in
theorem s_taken {σ : xS} {most : Int} {Q : Option xV → xS → Prop} (hQ : ∀ σ' : xS, Fr [] [2, 3, 4, 5] σ σ' → (σ' 0 3 = σ 0 2 ∧ σ' 0 2 = 0 ∧ σ' 0 4 = 0 ∧ σ' 0 5 = most) → Q none σ') : xT kX11_taken [xvr 0, xvi most] σ Q := by
  refine ⟨Nat.le_of_ble_eq_true rfl, fun X hX => ?_⟩
  show X 0 [xvr 0, xvi most] σ
  have hF : Fr [] [2, 3, 4, 5] σ σ := Fr.rf
  refine hX 400 0 _ _ ?_
  intro v1 e1 l1 h1
  have e1 : v1 = σ 0 2 := e1
  have hF := hF.p (j := 3) (v := v1) (by decide)
  have hF := hF.p (j := 2) (v := 0) (by decide)
  have hF := hF.p (j := 4) (v := 0) (by decide)
  have hF := hF.p (j := 5) (v := most) (by decide)
  refine And.intro rfl (And.intro rfl ?_)
  exact hQ _ hF (show v1 = σ 0 2 ∧ 0 = 0 ∧ 0 = 0 ∧ most = most from by omega)
