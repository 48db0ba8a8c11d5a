theorem s_isSignT {σ : xS} {b : Nat → Int} {n m p c : Int} {Q : Option xV → xS → Prop} (hR : RRs σ b n m p) (hc : 19 ≤ c ∧ c < 300) (hQ : ∀ r : Int, ((r = 1 ∧ tkc b n m p = c) ∨ (r = 0 ∧ ¬ tkc b n m p = c)) → Q (some (xvi r)) σ) : xT kX11_isSign [xvr 0, xvi c] σ Q := s_isSignR (fun r h => hQ r (by
  have e := hR.tr
  rcases h with ⟨h1, h2, h3⟩ | ⟨h1, h2⟩
  · exact Or.inl ⟨h1, by omega⟩
  · refine Or.inr ⟨h1, fun h => h2 ⟨?_, ?_⟩⟩
    · omega
    · omega))
theorem s_isNameT {σ : xS} {b : Nat → Int} {n m p : Int} {Q : Option xV → xS → Prop} (hR : RRs σ b n m p) (hr : ∀ j : Nat, j < 19 → σ 6 j = R8.getD j 0) (hQ : ∀ r : Int, ((r = 1 ∧ tkc b n m p = 300) ∨ (r = 0 ∧ ¬ tkc b n m p = 300)) → Q (some (xvi r)) σ) : xT kX11_isName [xvr 0] σ Q := s_isNameR (fun r h => hQ r (by
  have e := hR.nm
  have g : (∀ j : Nat, j < 19 → ¬ R8.getD j 0 = σ 0 17) ↔ NOW (σ 6) (σ 0 17) 19 := ⟨fun h q hq => by rw [hr q (by omega)]; exact h q (by omega), fun h j hj => by rw [← hr j hj]; exact h j (by omega)⟩
  rw [g] at e
  rcases h with ⟨h1, h2⟩ | ⟨h1, h2⟩
  · exact Or.inl ⟨h1, e.mpr h2⟩
  · exact Or.inr ⟨h1, fun h => h2 (e.mp h)⟩))
set_option maxHeartbeats 4000000 in
set_option maxRecDepth 100000 in
theorem s_findR {σ : xS} {from_ many : Int} {Q : Option xV → xS → Prop} (hp0 : (from_ = 0 ∨ from_ = 6) ∧ 0 ≤ many ∧ many ≤ 6) (hQ : ∀ r : Int, (r = fnd (fun q => σ 5 (from_.toNat + q)) many.toNat (σ 0 17)) → Q (some (xvi r)) σ) : xT kX11_find [xvr 0, xvi from_, xvi many] σ Q := by
  refine ⟨Nat.le_of_ble_eq_true rfl, fun X hX => ?_⟩
  show X 0 [xvr 0, xvi from_, xvi many, xvu] σ
  refine hX 400 0 _ _ ?_
  refine And.intro (Nat.le_of_ble_eq_true rfl) ?_
  show xw _ _ _ _ _ _ _ _ _ _ [xvr 0, xvi from_, xvi many, xvi 0] _ _
  have lp_2 : ∀ (m2 : Nat) (k : Int), ((6 - k).toNat) = m2 → ((0 ≤ k ∧ k ≤ many) ∧ ∀ q : Nat, (q : Int) < k → ¬ σ 5 (from_.toNat + q) = σ 0 17) → X 2 [xvr 0, xvi from_, xvi many, xvi k] σ := by
    intro m2
    induction m2 using Nat.strongRecOn with
    | _ m2 ih_2 =>
    intro k hm_2 hv_2
    obtain ⟨hv_2, hnq⟩ := hv_2
    refine hX 400 2 _ _ ?_
    refine And.intro (fun c2 => ?_) (fun c2 => ?_)
    · refine And.intro rfl ?_
      exact hQ _ (by rw [fnd_no _ (fun q hq => hnq q (by omega))])
    · intro z3 t3 e3 l3 h3
      try have w3 : t3 = 0 := by omega
      refine And.intro (rfl) (And.intro (⟨by omega, by omega⟩) ?_)
      intro v4 e4 l4 h4
      have e4 : v4 = σ 5 z3.toNat := e4
      intro v5 e5 l5 h5
      have e5 : v5 = σ 0 17 := e5
      intro z6 a6 b6 c6 l6 h6
      refine And.intro (fun c7 => ?_) (fun c7 => ?_)
      · intro z8 t8 e8 l8 h8
        try have w8 : t8 = 0 := by omega
        show xw _ _ _ _ _ _ _ _ _ _ [xvr 0, xvi from_, xvi many, xvi z8] _ _
        exact ih_2 _ (show (6 - z8).toNat < m2 from by omega) z8 rfl ⟨by omega, (fun q hq => by
                      by_cases e : (q : Int) = k
                      · rw [show from_.toNat + q = (z3).toNat from by omega]; omega
                      · exact hnq q (by omega))⟩
      · refine And.intro rfl ?_
        exact hQ _ (by rw [fnd_at (k := k.toNat) (show σ 5 (from_.toNat + k.toNat) = σ 0 17 from by rw [show from_.toNat + k.toNat = (z3).toNat from by omega]; omega) (fun q hq => hnq q (by omega)) _ (by omega)]; omega)
  exact lp_2 _ 0 rfl ⟨by omega, fun q hq => by omega⟩
set_option maxHeartbeats 4000000 in
set_option maxRecDepth 100000 in
theorem s_badE {σ : xS} {kind : Int} {Q : Option xV → xS → Prop} (hQ : ∀ r : Int, ∀ σ' : xS, Fr [] [15, 16] σ σ' → (r = 0 ∧ σ' 0 15 = kind ∧ σ' 0 16 = σ 0 12) → Q (some (xvi r)) σ') : xT kX11_bad [xvr 0, xvi kind] σ Q := by
  refine ⟨Nat.le_of_ble_eq_true rfl, fun X hX => ?_⟩
  show X 0 [xvr 0, xvi kind] σ
  have hF : Fr [] [15, 16] σ σ := Fr.rf
  refine hX 400 0 _ _ ?_
  have hF := hF.p (j := 15) (v := kind) (by decide)
  intro v2 e2 l2 h2
  have e2 : v2 = σ 0 12 := e2
  have hF := hF.p (j := 16) (v := v2) (by decide)
  refine And.intro rfl ?_
  refine And.intro (by omega) ?_
  exact hQ _ _ hF (show 0 = 0 ∧ kind = kind ∧ v2 = σ 0 12 from by omega)
set_option maxHeartbeats 4000000 in
set_option maxRecDepth 100000 in
theorem s_signT {σ : xS} {c p : Int} {Q : Option xV → xS → Prop} (hp0 : 0 ≤ σ 0 4 ∧ σ 0 4 ≤ σ 0 3 ∧ σ 0 3 ≤ 940) (hp1 : BYx (σ 1) (σ 0 3)) (hp2 : RRs σ (σ 1) (σ 0 3) (σ 0 5) p) (hp3 : 19 ≤ c ∧ c < 300) (hQ : ∀ r : Int, ∀ σ' : xS, Fr [] [4, 11, 12, 13, 14, 15, 16, 17] σ σ' → ((r = 1 ∧ tkc (σ 1) (σ 0 3) (σ 0 5) p = c ∧ (0 ≤ σ' 0 4 ∧ σ' 0 4 ≤ σ 0 3) ∧ RRs σ' (σ 1) (σ 0 3) (σ 0 5) (tkp (σ 1) (σ 0 3) (σ 0 5) p)) ∨ (r = 0 ∧ ¬ tkc (σ 1) (σ 0 3) (σ 0 5) p = c ∧ σ' 0 15 = 1 ∧ σ' 0 16 = tka (σ 1) (σ 0 3) (σ 0 5) p)) → Q (some (xvi r)) σ') : xT kX11_sign [xvr 0, xvi c] σ Q := by
  refine ⟨Nat.le_of_ble_eq_true rfl, fun X hX => ?_⟩
  show X 0 [xvr 0, xvi c] σ
  have hF : Fr [] [4, 11, 12, 13, 14, 15, 16, 17] σ σ := Fr.rf
  refine hX 400 0 _ _ ?_
  have ha : σ 0 12 = tka (σ 1) (σ 0 3) (σ 0 5) p := hp2.2.2.2.2.2.1
  have hq : σ 0 4 = tkp (σ 1) (σ 0 3) (σ 0 5) p := hp2.2.2.2.2.2.2
  have ht := hp2.tr
  refine s_isSignR (σ := σ) (c := c) (fun r1 p1 => ?_)
  have p1 : (r1 = 1 ∧ (σ 0 11) = 3 ∧ (σ 0 14) = c) ∨ (r1 = 0 ∧ ¬ ((σ 0 11) = 3 ∧ (σ 0 14) = c)) := p1
  refine And.intro (fun c2 => ?_) (fun c2 => ?_)
  · refine s_nx (σ := σ) (p := (tkp (σ 1) (σ 0 3) (σ 0 5) p)) (show 0 ≤ σ 0 4 ∧ σ 0 4 ≤ σ 0 3 ∧ σ 0 3 ≤ 940 from by omega) hp1 (show σ 0 4 = (tkp (σ 1) (σ 0 3) (σ 0 5) p) from by omega) (fun σ3 f3 p3 => ?_)
    have q3 : RRs σ3 (σ 1) (σ 0 3) (σ 0 5) (tkp (σ 1) (σ 0 3) (σ 0 5) p) := p3.2
    replace p3 : 0 ≤ σ3 0 4 ∧ σ3 0 4 ≤ σ 0 3 := p3.1
    have hF := hF.tr f3 (by decide) (by decide)
    refine And.intro rfl ?_
    refine And.intro (by omega) ?_
    exact hQ _ _ hF (Or.inl ⟨rfl, by omega, p3, q3⟩)
  · refine s_badE (σ := σ) (kind := 1) (fun r4 σ4 f4 p4 => ?_)
    have p4 : r4 = 0 ∧ σ4 0 15 = 1 ∧ σ4 0 16 = σ 0 12 := p4
    have hF := hF.tr f4 (by decide) (by decide)
    refine And.intro rfl ?_
    refine And.intro (by omega) ?_
    exact hQ _ _ hF (Or.inr (by omega))
set_option maxHeartbeats 4000000 in
set_option maxRecDepth 100000 in
theorem s_takesT {σ : xS} {low high p : Int} {Q : Option xV → xS → Prop} (hp0 : 0 ≤ σ 0 4 ∧ σ 0 4 ≤ σ 0 3 ∧ σ 0 3 ≤ 940) (hp1 : BYx (σ 1) (σ 0 3)) (hp2 : RRs σ (σ 1) (σ 0 3) (σ 0 5) p) (hQ : ∀ r : Int, ∀ σ' : xS, Fr [] [4, 11, 12, 13, 14, 15, 16, 17, 18] σ σ' → ((r = 1 ∧ tkc (σ 1) (σ 0 3) (σ 0 5) p = 301 ∧ (low ≤ tkv (σ 1) (σ 0 3) (σ 0 5) p ∧ tkv (σ 1) (σ 0 3) (σ 0 5) p ≤ high) ∧ σ' 0 18 = tkv (σ 1) (σ 0 3) (σ 0 5) p ∧ (0 ≤ σ' 0 4 ∧ σ' 0 4 ≤ σ 0 3) ∧ RRs σ' (σ 1) (σ 0 3) (σ 0 5) (tkp (σ 1) (σ 0 3) (σ 0 5) p)) ∨ (r = 0 ∧ ¬ tkc (σ 1) (σ 0 3) (σ 0 5) p = 301 ∧ σ' 0 15 = 1 ∧ σ' 0 16 = tka (σ 1) (σ 0 3) (σ 0 5) p) ∨ (r = 0 ∧ tkc (σ 1) (σ 0 3) (σ 0 5) p = 301 ∧ ¬ (low ≤ tkv (σ 1) (σ 0 3) (σ 0 5) p ∧ tkv (σ 1) (σ 0 3) (σ 0 5) p ≤ high) ∧ σ' 0 15 = 2 ∧ σ' 0 16 = tka (σ 1) (σ 0 3) (σ 0 5) p)) → Q (some (xvi r)) σ') : xT kX11_takes [xvr 0, xvi low, xvi high] σ Q := by
  refine ⟨Nat.le_of_ble_eq_true rfl, fun X hX => ?_⟩
  show X 0 [xvr 0, xvi low, xvi high] σ
  have hF : Fr [] [4, 11, 12, 13, 14, 15, 16, 17, 18] σ σ := Fr.rf
  refine hX 400 0 _ _ ?_
  have ha : σ 0 12 = tka (σ 1) (σ 0 3) (σ 0 5) p := hp2.2.2.2.2.2.1
  have hq : σ 0 4 = tkp (σ 1) (σ 0 3) (σ 0 5) p := hp2.2.2.2.2.2.2
  have ht := hp2.tr
  have hv := hp2.2.2.2.1
  intro v1 e1 l1 h1
  have e1 : v1 = σ 0 11 := e1
  refine And.intro (fun c2 => ?_) (fun c2 => ?_)
  · intro v3 e3 l3 h3
    have e3 : v3 = σ 0 14 := e3
    refine s_isIn (σ := σ) (v := v3) (low := low) (high := high) (fun r4 p4 => ?_)
    refine And.intro (fun c5 => ?_) (fun c5 => ?_)
    · intro v6 e6 l6 h6
      have e6 : v6 = σ 0 14 := e6
      have hF := hF.p (j := 18) (v := v6) (by decide)
      refine s_nx (σ := (xput σ 0 18 v6)) (p := (tkp (σ 1) (σ 0 3) (σ 0 5) p)) (show 0 ≤ σ 0 4 ∧ σ 0 4 ≤ σ 0 3 ∧ σ 0 3 ≤ 940 from by omega) hp1 (show σ 0 4 = (tkp (σ 1) (σ 0 3) (σ 0 5) p) from by omega) (fun σ8 f8 p8 => ?_)
      have q8 : RRs σ8 (σ 1) (σ 0 3) (σ 0 5) (tkp (σ 1) (σ 0 3) (σ 0 5) p) := p8.2
      replace p8 : 0 ≤ σ8 0 4 ∧ σ8 0 4 ≤ σ 0 3 := p8.1
      have hF := hF.tr f8 (by decide) (by decide)
      refine And.intro rfl ?_
      refine And.intro (by omega) ?_
      have k18 : σ8 0 18 = _ := f8.2 18 (by decide)
      exact hQ _ _ hF (Or.inl ⟨rfl, by omega, by omega, (by rw [k18]; show xput _ 0 18 _ 0 18 = _; rw [xput_s]; omega), p8, q8⟩)
    · refine s_badE (σ := σ) (kind := 2) (fun r9 σ9 f9 p9 => ?_)
      have p9 : r9 = 0 ∧ σ9 0 15 = 2 ∧ σ9 0 16 = σ 0 12 := p9
      have hF := hF.tr f9 (by decide) (by decide)
      refine And.intro rfl ?_
      refine And.intro (by omega) ?_
      exact hQ _ _ hF (Or.inr (by omega))
  · refine s_badE (σ := σ) (kind := 1) (fun r10 σ10 f10 p10 => ?_)
    have p10 : r10 = 0 ∧ σ10 0 15 = 1 ∧ σ10 0 16 = σ 0 12 := p10
    have hF := hF.tr f10 (by decide) (by decide)
    refine And.intro rfl ?_
    refine And.intro (by omega) ?_
    exact hQ _ _ hF (Or.inr (by omega))

