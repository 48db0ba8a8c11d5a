set_option maxHeartbeats 4000000 in
set_option maxRecDepth 100000 in
theorem s_heardF {σ : xS} {what : Int} {Q : Option xV → xS → Prop} (hp0 : RI σ) (hp1 : TV (σ 2)) (hQ : ∀ r : Int, ∀ σ' : xS, Fr [] [0] σ σ' → (ansN (¬ σ 0 54 = 0 ∧ (0 ≤ what ∧ what ≤ 3)) r (σ 22 what.toNat)) → Q (some (xvi r)) σ') : xT kX11_heard [xvr 0, xvi what] σ Q := by
  refine ⟨Nat.le_of_ble_eq_true rfl, fun X hX => ?_⟩
  show X 0 [xvr 0, xvi what] σ
  have hF : Fr [] [0] σ σ := Fr.rf
  refine hX 400 0 _ _ ?_
  have hF := hF.p (j := 0) (v := 0) (by decide)
  have hI := (RK.rf hp0 |>.p0 (j := 0) (v := 0) (by decide) (by decide) (by decide)).1
  obtain ⟨hVx, hT2, hT6, hT4⟩ := id hp1
  have m0 := hVx.1.1.1
  have m1 := hVx.1.1.2.1
  have m7 := hVx.1.1.2.2.2
  intro v2 e2 l2 h2
  have e2 : v2 = σ 0 54 := e2
  have lp_30 : ∀ (_ : Unit), (¬ (¬ σ 0 54 = 0 ∧ (0 ≤ what ∧ what ≤ 3))) → X 30 [xvr 0, xvi what] (xput σ 0 0 0) := by
    intro _ hv_30
    refine hX 400 30 _ _ ?_
    refine And.intro rfl ?_
    exact hQ _ _ hF (Or.inr ⟨hv_30, rfl⟩)
  refine And.intro (fun c4 => ?_) (fun c4 => ?_)
  · exact lp_30 () (fun z => by omega)
  · refine s_isIn (σ := (xput σ 0 0 0)) (v := what) (low := 0) (high := 3) (fun r5 p5 => ?_)
    refine And.intro (fun c6 => ?_) (fun c6 => ?_)
    · exact lp_30 () (fun z => by omega)
    · refine And.intro (rfl) (And.intro (⟨by omega, by omega⟩) ?_)
      intro v7 e7 l7 h7
      have e7 : v7 = σ 22 what.toNat := e7
      refine And.intro rfl ?_
      exact hQ _ _ hF (Or.inl ⟨⟨by omega, by omega⟩, by omega⟩)
set_option maxHeartbeats 4000000 in
set_option maxRecDepth 100000 in
theorem s_sweptF {σ : xS} {i : Int} {Q : Option xV → xS → Prop} (hp0 : RI σ) (hp1 : TV (σ 2)) (hQ : ∀ r : Int, ∀ σ' : xS, Fr [] [0] σ σ' → (ansN (0 ≤ i ∧ i < σ 0 37) r (σ 15 i.toNat)) → Q (some (xvi r)) σ') : xT kX11_swept [xvr 0, xvi i] σ Q := by
  refine ⟨Nat.le_of_ble_eq_true rfl, fun X hX => ?_⟩
  show X 0 [xvr 0, xvi i] σ
  have hF : Fr [] [0] σ σ := Fr.rf
  refine hX 400 0 _ _ ?_
  have hF := hF.p (j := 0) (v := 0) (by decide)
  have hI := (RK.rf hp0 |>.p0 (j := 0) (v := 0) (by decide) (by decide) (by decide)).1
  obtain ⟨hVx, hT2, hT6, hT4⟩ := id hp1
  have m0 := hVx.1.1.1
  have m1 := hVx.1.1.2.1
  have m7 := hVx.1.1.2.2.2
  have h37 := hp0.2.2.2.2.2.1
  intro v2 e2 l2 h2
  have e2 : v2 = σ 0 37 := e2
  intro z3 t3 e3 l3 h3
  try have w3 : t3 = 0 := by omega
  refine s_isIn (σ := (xput σ 0 0 0)) (v := i) (low := 0) (high := z3) (fun r4 p4 => ?_)
  refine And.intro (fun c5 => ?_) (fun c5 => ?_)
  · refine And.intro rfl ?_
    exact hQ _ _ hF (Or.inr ⟨fun z => by obtain ⟨z1, z2⟩ := z; omega, rfl⟩)
  · refine And.intro (rfl) (And.intro (⟨by omega, by omega⟩) ?_)
    intro v6 e6 l6 h6
    have e6 : v6 = σ 15 i.toNat := e6
    refine And.intro rfl ?_
    exact hQ _ _ hF (Or.inl ⟨by omega, by omega⟩)
set_option maxHeartbeats 4000000 in
set_option maxRecDepth 100000 in
theorem s_countF {σ : xS} {what : Int} {Q : Option xV → xS → Prop} (hp0 : RI σ) (hp1 : TV (σ 2)) (hQ : ∀ r : Int, ∀ σ' : xS, Fr [] [0] σ σ' → (r = if what = 4 then σ 0 2 else if 0 ≤ what ∧ what ≤ 3 then σ 2 what.toNat else -1) → Q (some (xvi r)) σ') : xT kX11_count [xvr 0, xvi what] σ Q := by
  refine ⟨Nat.le_of_ble_eq_true rfl, fun X hX => ?_⟩
  show X 0 [xvr 0, xvi what] σ
  have hF : Fr [] [0] σ σ := Fr.rf
  refine hX 400 0 _ _ ?_
  have hF := hF.p (j := 0) (v := 0) (by decide)
  have hI := (RK.rf hp0 |>.p0 (j := 0) (v := 0) (by decide) (by decide) (by decide)).1
  obtain ⟨hVx, hT2, hT6, hT4⟩ := id hp1
  have m0 := hVx.1.1.1
  have m1 := hVx.1.1.2.1
  have m7 := hVx.1.1.2.2.2
  refine And.intro (fun c2 => ?_) (fun c2 => ?_)
  · refine s_isIn (σ := (xput σ 0 0 0)) (v := what) (low := 0) (high := 3) (fun r3 p3 => ?_)
    refine And.intro (fun c4 => ?_) (fun c4 => ?_)
    · refine And.intro rfl ?_
      exact hQ _ _ hF (by first | (rw [if_pos (by omega)]; omega) | (rw [if_neg (by omega), if_pos (by omega)]; omega) | (rw [if_neg (by omega), if_neg (by omega)]; done))
    · refine And.intro (rfl) (And.intro (⟨by omega, by omega⟩) ?_)
      intro v5 e5 l5 h5
      have e5 : v5 = σ 2 what.toNat := e5
      refine And.intro rfl ?_
      exact hQ _ _ hF (by first | (rw [if_pos (by omega)]; omega) | (rw [if_neg (by omega), if_pos (by omega)]; omega) | (rw [if_neg (by omega), if_neg (by omega)]; done))
  · intro v6 e6 l6 h6
    have e6 : v6 = σ 0 2 := e6
    refine And.intro rfl ?_
    exact hQ _ _ hF (by first | (rw [if_pos (by omega)]; omega) | (rw [if_neg (by omega), if_pos (by omega)]; omega) | (rw [if_neg (by omega), if_neg (by omega)]; done))
set_option maxHeartbeats 4000000 in
set_option maxRecDepth 100000 in
theorem s_faultF {σ : xS} {Q : Option xV → xS → Prop} (hp0 : RI σ) (hp1 : TV (σ 2)) (hQ : ∀ r : Int, ∀ σ' : xS, Fr [] [0] σ σ' → (r = σ 0 15) → Q (some (xvi r)) σ') : xT kX11_fault [xvr 0] σ Q := by
  refine ⟨Nat.le_of_ble_eq_true rfl, fun X hX => ?_⟩
  show X 0 [xvr 0] σ
  have hF : Fr [] [0] σ σ := Fr.rf
  refine hX 400 0 _ _ ?_
  have hF := hF.p (j := 0) (v := 0) (by decide)
  intro v2 e2 l2 h2
  have e2 : v2 = σ 0 15 := e2
  refine And.intro rfl ?_
  exact hQ _ _ hF (by omega)
set_option maxHeartbeats 4000000 in
set_option maxRecDepth 100000 in
theorem s_nowF {σ : xS} {what : Int} {Q : Option xV → xS → Prop} (hp0 : RI σ) (hp1 : TV (σ 2)) (hQ : ∀ r : Int, ∀ σ' : xS, Fr [] [0] σ σ' → (r = nowF (σ 2) what) → Q (some (xvi r)) σ') : xT kX11_now [xvr 0, xvi what] σ Q := by
  refine ⟨Nat.le_of_ble_eq_true rfl, fun X hX => ?_⟩
  show X 0 [xvr 0, xvi what, xvu, xvu] σ
  have hF : Fr [] [0] σ σ := Fr.rf
  refine hX 400 0 _ _ ?_
  have hF := hF.p (j := 0) (v := 0) (by decide)
  have hI := (RK.rf hp0 |>.p0 (j := 0) (v := 0) (by decide) (by decide) (by decide)).1
  obtain ⟨hVx, hT2, hT6, hT4⟩ := id hp1
  have m0 := hVx.1.1.1
  have m1 := hVx.1.1.2.1
  have m7 := hVx.1.1.2.2.2
  refine And.intro (rfl) (And.intro (⟨by omega, by omega⟩) ?_)
  intro v2 e2 l2 h2
  have e2 : v2 = σ 2 7 := e2
  refine And.intro (Nat.le_of_ble_eq_true rfl) ?_
  show xw _ _ _ _ _ _ _ _ _ _ [xvr 0, xvi what, xvi v2, xvu] _ _
  refine And.intro (Nat.le_of_ble_eq_true rfl) ?_
  show xw _ _ _ _ _ _ _ _ _ _ [xvr 0, xvi what, xvi v2, xvi 0] _ _
  have lp_15 : ∀ (m15 : Nat) (n : Int) (i : Int), ((6 - i).toNat) = m15 → ((0 ≤ i ∧ i ≤ σ 2 1) ∧ (0 ≤ n ∧ n ≤ 52 + 52 * i) ∧ n = σ 2 7 + sm i.toNat (cd (σ 2))) → X 15 [xvr 0, xvi what, xvi n, xvi i] (xput σ 0 0 0) := by
    intro m15
    induction m15 using Nat.strongRecOn with
    | _ m15 ih_15 =>
    intro n i hm_15 hv_15
    obtain ⟨hv_15, hn0, hn⟩ := hv_15
    refine hX 400 15 _ _ ?_
    refine And.intro (rfl) (And.intro (⟨by omega, by omega⟩) ?_)
    intro v4 e4 l4 h4
    have e4 : v4 = σ 2 1 := e4
    refine And.intro (fun c5 => ?_) (fun c5 => ?_)
    · refine And.intro (fun c6 => ?_) (And.intro rfl ?_)
      · refine And.intro rfl ?_
        exact hQ _ _ hF (by unfold nowF; rw [if_neg (by omega), if_neg (by omega), if_neg (by omega), if_neg (by omega), if_neg (by omega), if_neg (by omega)])
      refine And.intro (fun c6 => ?_) ?_
      · refine And.intro (rfl) (And.intro (⟨by omega, by omega⟩) ?_)
        intro v7 e7 l7 h7
        have e7 : v7 = σ 2 4 := e7
        refine And.intro rfl ?_
        exact hQ _ _ hF (by unfold nowF; rw [if_pos (by omega)]; omega)
      refine And.intro (fun c6 => ?_) ?_
      · refine And.intro (rfl) (And.intro (⟨by omega, by omega⟩) ?_)
        intro v8 e8 l8 h8
        have e8 : v8 = σ 2 7 := e8
        refine And.intro rfl ?_
        exact hQ _ _ hF (by unfold nowF; rw [if_neg (by omega), if_pos (by omega)]; omega)
      refine And.intro (fun c6 => ?_) ?_
      · refine And.intro (rfl) (And.intro (⟨by omega, by omega⟩) ?_)
        intro v9 e9 l9 h9
        have e9 : v9 = σ 2 5 := e9
        refine And.intro rfl ?_
        exact hQ _ _ hF (by unfold nowF; rw [if_neg (by omega), if_neg (by omega), if_pos (by omega)]; omega)
      refine And.intro (fun c6 => ?_) ?_
      · refine s_allBooksF (σ := (xput σ 0 0 0)) (fun r10 p10 => ?_)
        have p10 : r10 = alq (σ 2) 13 := p10
        refine And.intro rfl ?_
        exact hQ _ _ hF (by unfold nowF; rw [if_neg (by omega), if_neg (by omega), if_neg (by omega), if_pos (by omega)]; omega)
      refine And.intro (fun c6 => ?_) ?_
      · refine And.intro (rfl) (And.intro (⟨by omega, by omega⟩) ?_)
        intro v11 e11 l11 h11
        have e11 : v11 = σ 2 6 := e11
        refine And.intro rfl ?_
        exact hQ _ _ hF (by unfold nowF; rw [if_neg (by omega), if_neg (by omega), if_neg (by omega), if_neg (by omega), if_pos (by omega)]; omega)
      refine And.intro (fun c6 => ?_) ?_
      · refine And.intro rfl ?_
        exact hQ _ _ hF (by unfold nowF losF; rw [if_neg (by omega), if_neg (by omega), if_neg (by omega), if_neg (by omega), if_neg (by omega), if_pos (by omega), show (σ 2 1).toNat = i.toNat from by omega]; exact hn)
      exact trivial
    · refine s_cards (σ := (xput σ 0 0 0)) (k := i) hVx.1 (by omega) (fun r12 p12 => ?_)
      have p12 : r12 = cd (σ 2) i.toNat ∧ 0 ≤ r12 ∧ r12 ≤ 52 := p12
      intro z13 t13 e13 l13 h13
      try have w13 : t13 = 0 := by omega
      refine And.intro (Nat.le_of_ble_eq_true rfl) ?_
      show xw _ _ _ _ _ _ _ _ _ _ [xvr 0, xvi what, xvi z13, xvi i] _ _
      intro z14 t14 e14 l14 h14
      try have w14 : t14 = 0 := by omega
      show xw _ _ _ _ _ _ _ _ _ _ [xvr 0, xvi what, xvi z13, xvi z14] _ _
      exact ih_15 _ (show (6 - z14).toNat < m15 from by omega) z13 z14 rfl ⟨by omega, by omega, by
            rw [show z14.toNat = i.toNat + 1 from by omega]
            show z13 = σ 2 7 + (sm i.toNat (cd (σ 2)) + cd (σ 2) i.toNat)
            omega⟩
  exact lp_15 _ v2 0 rfl ⟨by omega, by omega, (by show v2 = σ 2 7 + 0; omega)⟩
set_option maxHeartbeats 4000000 in
set_option maxRecDepth 100000 in
theorem s_inHandsF {σ : xS} {kind : Int} {Q : Option xV → xS → Prop} (hp0 : V0 (σ 2)) (hp1 : 0 ≤ kind ∧ kind ≤ 12) (hQ : ∀ r : Int, (r = inhF (σ 2) kind.toNat) → Q (some (xvi r)) σ) : xT kX11_inHands [xvr 0, xvi kind] σ Q := by
  refine ⟨Nat.le_of_ble_eq_true rfl, fun X hX => ?_⟩
  show X 0 [xvr 0, xvi kind, xvu, xvu] σ
  refine hX 400 0 _ _ ?_
  have hV9 := hp0
  have m1 := hp0.1.2.1
  refine And.intro (Nat.le_of_ble_eq_true rfl) ?_
  show xw _ _ _ _ _ _ _ _ _ _ [xvr 0, xvi kind, xvi 0, xvu] _ _
  refine And.intro (Nat.le_of_ble_eq_true rfl) ?_
  show xw _ _ _ _ _ _ _ _ _ _ [xvr 0, xvi kind, xvi 0, xvi 0] _ _
  have lp_4 : ∀ (m4 : Nat) (n : Int) (i : Int), ((6 - i).toNat) = m4 → ((0 ≤ i ∧ i ≤ σ 2 1) ∧ (0 ≤ n ∧ n ≤ 4 * i) ∧ n = sm i.toNat (fun q => HH (σ 2) q kind.toNat)) → X 4 [xvr 0, xvi kind, xvi n, xvi i] σ := by
    intro m4
    induction m4 using Nat.strongRecOn with
    | _ m4 ih_4 =>
    intro n i hm_4 hv_4
    obtain ⟨hv_4, hn0, hn⟩ := hv_4
    refine hX 400 4 _ _ ?_
    refine And.intro (rfl) (And.intro (⟨by omega, by omega⟩) ?_)
    intro v2 e2 l2 h2
    have e2 : v2 = σ 2 1 := e2
    refine And.intro (fun c3 => ?_) (fun c3 => ?_)
    · refine And.intro rfl ?_
      exact hQ _ (by rw [hn]; unfold inhF; rw [show (σ 2 1).toNat = i.toNat from by omega])
    · refine s_hand0v (σ := σ) (k := i) (kind := kind) hV9 (by omega) (by omega) (fun r4 p4 => ?_)
      have p4 : r4 = σ 2 (60 + 13 * i + kind).toNat := p4
      rw [show (60 + 13 * i + kind).toNat = 60 + 13 * i.toNat + kind.toNat from by omega] at p4
      have p4 : r4 = HH (σ 2) i.toNat kind.toNat := p4
      have hw4 := (HH_v hV9 (p := i.toNat) (k := kind.toNat) (by omega) (by omega)).1
      intro z5 t5 e5 l5 h5
      try have w5 : t5 = 0 := by omega
      refine And.intro (Nat.le_of_ble_eq_true rfl) ?_
      show xw _ _ _ _ _ _ _ _ _ _ [xvr 0, xvi kind, xvi z5, xvi i] _ _
      intro z6 t6 e6 l6 h6
      try have w6 : t6 = 0 := by omega
      show xw _ _ _ _ _ _ _ _ _ _ [xvr 0, xvi kind, xvi z5, xvi z6] _ _
      exact ih_4 _ (show (6 - z6).toNat < m4 from by omega) z5 z6 rfl ⟨by omega, by omega, by
            rw [show z6.toNat = i.toNat + 1 from by omega]
            show z5 = sm i.toNat (fun q => HH (σ 2) q kind.toNat) + HH (σ 2) i.toNat kind.toNat
            omega⟩
  exact lp_4 _ 0 0 rfl ⟨by omega, by omega, rfl⟩
