set_option maxHeartbeats 4000000 in
set_option maxRecDepth 100000 in
theorem sX0_settle {σ : xS} {p : Int} {Q : Option xV → xS → Prop} (hp0 : 0 ≤ p ∧ p ≤ 1) (hp1 : 0 ≤ σ 0 8 ∧ σ 0 8 ≤ 4) (hp2 : 0 ≤ σ 0 3 ∧ σ 0 3 ≤ 4) (hp3 : ∀ i : Nat, (i : Int) < σ 0 3 → 0 ≤ σ 3 i ∧ σ 3 i ≤ 2) (hQ : ∀ r : Int, ∀ σ' : xS, Fr [4] [8, 9, 11] σ σ' → ((0 ≤ σ' 0 8 ∧ σ' 0 8 ≤ 4) ∧ (r = 0 ∨ r = 1)) → Q (some (xvi r)) σ') : xT kX0_settle [xvr 0, xvi p] σ Q := by
  refine ⟨Nat.le_of_ble_eq_true rfl, fun X hX => ?_⟩
  show X 0 [xvr 0, xvi p, xvu, xvu] σ
  have hF : Fr [4] [8, 9, 11] σ σ := Fr.rf
  refine hX 400 0 _ _ ?_
  have hF := hF.p (j := 9) (v := p) (by decide)
  refine And.intro (Nat.le_of_ble_eq_true rfl) ?_
  show xw _ _ _ _ _ _ _ _ _ _ [xvr 0, xvi p, xvi 0, xvu] _ _
  have lp_7 : ∀ (m7 : Nat) (ro : Int) (u2_3 : xV) (s1 : xS), ((4 - ro).toNat) = m7 → (Fr [4] [8, 9, 11] σ s1 ∧ (0 ≤ s1 0 8 ∧ s1 0 8 ≤ 4) ∧ (0 ≤ ro ∧ ro ≤ 4)) → X 7 [xvr 0, xvi p, xvi ro, u2_3] s1 := by
    intro m7
    induction m7 using Nat.strongRecOn with
    | _ m7 ih_7 =>
    intro ro u2_3 s1 hm_7 hv_7
    obtain ⟨hF, h18, hv_7⟩ := hv_7
    have h13 : s1 0 3 = σ 0 3 := hF.2 3 (by decide)
    refine hX 400 7 _ _ ?_
    have lp_58 : ∀ (_ : Unit), (True) → X 58 [xvr 0, xvi p, xvi ro, u2_3] s1 := by
      intro _ hv_58
      refine hX 400 58 _ _ ?_
      refine sX0_cardsOf (σ := s1) (p := p) (show 0 ≤ p ∧ p ≤ 1 from by omega) (fun r4 => ?_)
      refine And.intro (fun c5 => ?_) (fun c5 => ?_)
      · refine And.intro rfl ?_
        refine And.intro (by omega) ?_
        exact hQ _ _ hF ⟨(show 0 ≤ s1 0 8 ∧ s1 0 8 ≤ 4 from by omega), by omega⟩
      · refine And.intro rfl ?_
        refine And.intro (by omega) ?_
        exact hQ _ _ hF ⟨(show 0 ≤ s1 0 8 ∧ s1 0 8 ≤ 4 from by omega), by omega⟩
    refine And.intro (fun c6 => ?_) (fun c6 => ?_)
    · exact lp_58 () (show True from by first | trivial | omega | (refine ⟨by assumption, ?_⟩; omega) | (refine ⟨?_, ?_⟩ <;> omega))
    · refine sX0_cardsOf (σ := s1) (p := p) (show 0 ≤ p ∧ p ≤ 1 from by omega) (fun r7 => ?_)
      refine And.intro (fun c8 => ?_) (fun c8 => ?_)
      · exact lp_58 () (show True from by first | trivial | omega | (refine ⟨by assumption, ?_⟩; omega) | (refine ⟨?_, ?_⟩ <;> omega))
      · refine And.intro (Nat.le_of_ble_eq_true rfl) ?_
        show xw _ _ _ _ _ _ _ _ _ _ [xvr 0, xvi p, xvi ro, xvi 0] _ _
        have lp_22 : ∀ (m22 : Nat) (i : Int) (s2 : xS), ((4 - s2 0 8).toNat) = m22 → (Fr [4] [8, 9, 11] σ s2 ∧ (0 ≤ s2 0 8 ∧ s2 0 8 ≤ 4) ∧ 0 ≤ i) → X 22 [xvr 0, xvi p, xvi ro, xvi i] s2 := by
          intro m22
          induction m22 using Nat.strongRecOn with
          | _ m22 ih_22 =>
          intro i s2 hm_22 hv_22
          obtain ⟨hF, h28, hv_22⟩ := hv_22
          have h23 : s2 0 3 = σ 0 3 := hF.2 3 (by decide)
          refine hX 400 22 _ _ ?_
          have lp_52 : ∀ (_ : Unit), (True) → X 52 [xvr 0, xvi p, xvi ro, xvi i] s2 := by
            intro _ hv_52
            refine hX 400 52 _ _ ?_
            intro z11 t11 e11 l11 h11
            try have w11 : t11 = 0 := by omega
            show xw _ _ _ _ _ _ _ _ _ _ [xvr 0, xvi p, xvi z11, xvi i] _ _
            exact ih_7 _ (show (4 - z11).toNat < m7 from by omega) z11 (xvi i) s2 rfl ⟨hF, (show 0 ≤ s2 0 8 ∧ s2 0 8 ≤ 4 from by omega), by omega⟩
          intro v12 e12 l12 h12
          have e12 : v12 = s2 0 6 := e12
          refine And.intro (fun c13 => ?_) (fun c13 => ?_)
          · exact lp_52 () (show True from by first | trivial | omega | (refine ⟨by assumption, ?_⟩; omega) | (refine ⟨?_, ?_⟩ <;> omega))
          · intro v14 e14 l14 h14
            have e14 : v14 = s2 0 8 := e14
            intro v15 e15 l15 h15
            have e15 : v15 = s2 0 3 := e15
            refine And.intro (fun c16 => ?_) (fun c16 => ?_)
            · exact lp_52 () (show True from by first | trivial | omega | (refine ⟨by assumption, ?_⟩; omega) | (refine ⟨?_, ?_⟩ <;> omega))
            · refine sX0_drawCard (σ := s2) (p := p) (show 0 ≤ p ∧ p ≤ 1 from by omega) (show 0 ≤ (s2 0 8) ∧ (s2 0 8) ≤ 3 from by omega) (show 0 ≤ s2 3 ((s2 0 8)).toNat ∧ s2 3 ((s2 0 8)).toNat ≤ 2 from by rw [hF.1 3 (by decide) (by decide)]; exact hp3 _ (by omega)) (fun σ17 f17 p17 => ?_)
              have hF := hF.tr f17 (by decide) (by decide)
              have p17 : σ17 0 8 = (s2 0 8) + 1 := p17
              intro z18 t18 e18 l18 h18
              try have w18 : t18 = 0 := by omega
              show xw _ _ _ _ _ _ _ _ _ _ [xvr 0, xvi p, xvi ro, xvi z18] _ _
              exact ih_22 _ (show (4 - (σ17 0 8)).toNat < m22 from by omega) z18 σ17 rfl ⟨hF, (show 0 ≤ σ17 0 8 ∧ σ17 0 8 ≤ 4 from by omega), by omega⟩
        exact lp_22 _ 0 s1 rfl ⟨hF, (show 0 ≤ s1 0 8 ∧ s1 0 8 ≤ 4 from by omega), by omega⟩
  exact lp_7 _ 0 (xvu) (xput σ 0 9 p) rfl ⟨hF, (show 0 ≤ σ 0 8 ∧ σ 0 8 ≤ 4 from by omega), by omega⟩
set_option maxHeartbeats 4000000 in
set_option maxRecDepth 100000 in
theorem sX0_move {σ : xS} {p kind : Int} {Q : Option xV → xS → Prop} (hp0 : 0 ≤ p ∧ p ≤ 1) (hp1 : 0 ≤ kind ∧ kind ≤ 2) (hp2 : 0 ≤ σ 0 8 ∧ σ 0 8 ≤ 4) (hp3 : 0 ≤ σ 0 3 ∧ σ 0 3 ≤ 4) (hp4 : ∀ i : Nat, (i : Int) < σ 0 3 → 0 ≤ σ 3 i ∧ σ 3 i ≤ 2) (hQ : ∀ r : Int, ∀ σ' : xS, Fr [4] [8, 9, 10, 11] σ σ' → ((0 ≤ σ' 0 8 ∧ σ' 0 8 ≤ 4) ∧ (r = 0 ∨ r = 1)) → Q (some (xvi r)) σ') : xT kX0_move [xvr 0, xvi p, xvi kind] σ Q := by
  refine ⟨Nat.le_of_ble_eq_true rfl, fun X hX => ?_⟩
  show X 0 [xvr 0, xvi p, xvi kind, xvu, xvu, xvu] σ
  have hF : Fr [4] [8, 9, 10, 11] σ σ := Fr.rf
  refine hX 400 0 _ _ ?_
  have hF := hF.p (j := 11) (v := 0) (by decide)
  intro z2 t2 e2 l2 h2
  try have w2 : t2 = 0 := by omega
  refine And.intro (Nat.le_of_ble_eq_true rfl) ?_
  show xw _ _ _ _ _ _ _ _ _ _ [xvr 0, xvi p, xvi kind, xvi z2, xvu, xvu] _ _
  intro z3 t3 e3 l3 h3
  try have w3 : t3 = 0 := by omega
  intro z4 t4 e4 l4 h4
  try have w4 : t4 = 0 := by omega
  refine And.intro (rfl) (And.intro (⟨by omega, by omega⟩) ?_)
  intro v5 e5 l5 h5
  have e5 : v5 = σ 4 z4.toNat := e5
  refine And.intro (Nat.le_of_ble_eq_true rfl) ?_
  show xw _ _ _ _ _ _ _ _ _ _ [xvr 0, xvi p, xvi kind, xvi z2, xvi v5, xvu] _ _
  refine And.intro (Nat.le_of_ble_eq_true rfl) ?_
  show xw _ _ _ _ _ _ _ _ _ _ [xvr 0, xvi p, xvi kind, xvi z2, xvi v5, xvi z2] _ _
  have lp_133 : ∀ (heir : Int) (s1 : xS), (Fr [4] [8, 9, 10, 11] σ s1 ∧ (0 ≤ s1 0 8 ∧ s1 0 8 ≤ 4) ∧ (0 ≤ heir ∧ heir ≤ 1)) → X 133 [xvr 0, xvi p, xvi kind, xvi z2, xvi v5, xvi heir] s1 := by
    intro heir s1 hv_133
    obtain ⟨hF, h18, hv_133⟩ := hv_133
    have h13 : s1 0 3 = σ 0 3 := hF.2 3 (by decide)
    refine hX 400 133 _ _ ?_
    intro v7 e7 l7 h7
    have e7 : v7 = s1 0 10 := e7
    refine And.intro (fun c8 => ?_) (fun c8 => ?_)
    · refine hX 400 165 _ _ ?_
      refine And.intro rfl ?_
      refine And.intro (by omega) ?_
      exact hQ _ _ hF ⟨(show 0 ≤ s1 0 8 ∧ s1 0 8 ≤ 4 from by omega), by omega⟩
    · refine sX0_settle (σ := s1) (p := heir) (show 0 ≤ heir ∧ heir ≤ 1 from by omega) (show 0 ≤ (s1 0 8) ∧ (s1 0 8) ≤ 4 from by omega) (show 0 ≤ (s1 0 3) ∧ (s1 0 3) ≤ 4 from by omega) (show ∀ i : Nat, (i : Int) < (s1 0 3) → 0 ≤ s1 3 i ∧ s1 3 i ≤ 2 from fun i hi => (by
        rw [show s1 3 = σ 3 from hF.1 3 (by decide) (by decide)]; exact hp4 i (by omega))) (fun r9 σ9 f9 p9 => ?_)
      have hF := hF.tr f9 (by decide) (by decide)
      have p9 : (0 ≤ σ9 0 8 ∧ σ9 0 8 ≤ 4) ∧ (r9 = 0 ∨ r9 = 1) := p9
      refine And.intro (fun c10 => ?_) (fun c10 => ?_)
      · refine hX 400 161 _ _ ?_
        refine And.intro rfl ?_
        refine And.intro (by omega) ?_
        exact hQ _ _ hF ⟨(show 0 ≤ σ9 0 8 ∧ σ9 0 8 ≤ 4 from by omega), by omega⟩
      · have h33 : σ9 0 3 = σ 0 3 := hF.2 3 (by decide)
        have h3h : σ9 3 = σ 3 := hF.1 3 (by decide) (by decide)
        intro z11 t11 e11 l11 h11
        try have w11 : t11 = 0 := by omega
        refine sX0_settle (σ := σ9) (p := z11) (show 0 ≤ z11 ∧ z11 ≤ 1 from by omega) (show 0 ≤ (σ9 0 8) ∧ (σ9 0 8) ≤ 4 from by omega) (show 0 ≤ (σ9 0 3) ∧ (σ9 0 3) ≤ 4 from by omega) (show ∀ i : Nat, (i : Int) < (σ9 0 3) → 0 ≤ σ9 3 i ∧ σ9 3 i ≤ 2 from fun i hi => (by rw [h3h]; exact hp4 i (by omega))) (fun r12 σ12 f12 p12 => ?_)
        have hF := hF.tr f12 (by decide) (by decide)
        have p12 : (0 ≤ σ12 0 8 ∧ σ12 0 8 ≤ 4) ∧ (r12 = 0 ∨ r12 = 1) := p12
        refine And.intro (fun c13 => ?_) (fun c13 => ?_)
        · refine hX 400 165 _ _ ?_
          refine And.intro rfl ?_
          refine And.intro (by omega) ?_
          exact hQ _ _ hF ⟨(show 0 ≤ σ12 0 8 ∧ σ12 0 8 ≤ 4 from by omega), by omega⟩
        · refine hX 400 161 _ _ ?_
          refine And.intro rfl ?_
          refine And.intro (by omega) ?_
          exact hQ _ _ hF ⟨(show 0 ≤ σ12 0 8 ∧ σ12 0 8 ≤ 4 from by omega), by omega⟩
  refine And.intro (fun c14 => ?_) (fun c14 => ?_)
  · intro v15 e15 l15 h15
    have e15 : v15 = σ 0 8 := e15
    intro v16 e16 l16 h16
    have e16 : v16 = σ 0 3 := e16
    refine And.intro (fun c17 => ?_) (fun c17 => ?_)
    · intro v18 e18 l18 h18
      have e18 : v18 = σ 0 10 := e18
      intro z19 t19 e19 l19 h19
      try have w19 : t19 = 0 := by omega
      have hF := hF.p (j := 10) (v := z19) (by decide)
      exact lp_133 z2 (xput (xput σ 0 11 0) 0 10 z19) ⟨hF, (show 0 ≤ σ 0 8 ∧ σ 0 8 ≤ 4 from by omega), by omega⟩
    · have hF := hF.p (j := 10) (v := 0) (by decide)
      intro v22 e22 l22 h22
      have e22 : v22 = σ 0 5 := e22
      refine And.intro (fun c23 => ?_) (fun c23 => ?_)
      · refine hX 400 112 _ _ ?_
        refine And.intro (Nat.le_of_ble_eq_true rfl) ?_
        show xw _ _ _ _ _ _ _ _ _ _ [xvr 0, xvi p, xvi kind, xvi z2, xvi v5, xvi z2] _ _
        refine sX0_drawCard (σ := (xput (xput σ 0 11 0) 0 10 0)) (p := p) (show 0 ≤ p ∧ p ≤ 1 from by omega) (show 0 ≤ (σ 0 8) ∧ (σ 0 8) ≤ 3 from by omega) (show 0 ≤ σ 3 ((σ 0 8)).toNat ∧ σ 3 ((σ 0 8)).toNat ≤ 2 from hp4 _ (by omega)) (fun σ24 f24 p24 => ?_)
        have hF := hF.tr f24 (by decide) (by decide)
        have p24 : σ24 0 8 = (σ 0 8) + 1 := p24
        exact lp_133 z2 σ24 ⟨hF, (show 0 ≤ σ24 0 8 ∧ σ24 0 8 ≤ 4 from by omega), by omega⟩
      · intro v25 e25 l25 h25
        have e25 : v25 = σ 0 8 := e25
        refine And.intro (rfl) (And.intro (⟨by omega, by omega⟩) ?_)
        intro v26 e26 l26 h26
        have e26 : v26 = σ 3 v25.toNat := e26
        refine And.intro (fun c27 => ?_) (fun c27 => ?_)
        · refine hX 400 112 _ _ ?_
          refine And.intro (Nat.le_of_ble_eq_true rfl) ?_
          show xw _ _ _ _ _ _ _ _ _ _ [xvr 0, xvi p, xvi kind, xvi z2, xvi v5, xvi z2] _ _
          refine sX0_drawCard (σ := (xput (xput σ 0 11 0) 0 10 0)) (p := p) (show 0 ≤ p ∧ p ≤ 1 from by omega) (show 0 ≤ (σ 0 8) ∧ (σ 0 8) ≤ 3 from by omega) (show 0 ≤ σ 3 ((σ 0 8)).toNat ∧ σ 3 ((σ 0 8)).toNat ≤ 2 from hp4 _ (by omega)) (fun σ28 f28 p28 => ?_)
          have hF := hF.tr f28 (by decide) (by decide)
          have p28 : σ28 0 8 = (σ 0 8) + 1 := p28
          exact lp_133 z2 σ28 ⟨hF, (show 0 ≤ σ28 0 8 ∧ σ28 0 8 ≤ 4 from by omega), by omega⟩
        · refine And.intro (Nat.le_of_ble_eq_true rfl) ?_
          show xw _ _ _ _ _ _ _ _ _ _ [xvr 0, xvi p, xvi kind, xvi z2, xvi v5, xvi p] _ _
          refine sX0_drawCard (σ := (xput (xput σ 0 11 0) 0 10 0)) (p := p) (show 0 ≤ p ∧ p ≤ 1 from by omega) (show 0 ≤ (σ 0 8) ∧ (σ 0 8) ≤ 3 from by omega) (show 0 ≤ σ 3 ((σ 0 8)).toNat ∧ σ 3 ((σ 0 8)).toNat ≤ 2 from hp4 _ (by omega)) (fun σ29 f29 p29 => ?_)
          have hF := hF.tr f29 (by decide) (by decide)
          have p29 : σ29 0 8 = (σ 0 8) + 1 := p29
          exact lp_133 p σ29 ⟨hF, (show 0 ≤ σ29 0 8 ∧ σ29 0 8 ≤ 4 from by omega), by omega⟩
  · intro z30 t30 e30 l30 h30
    try have w30 : t30 = 0 := by omega
    intro z31 t31 e31 l31 h31
    try have w31 : t31 = 0 := by omega
    refine And.intro (rfl) (And.intro (⟨by omega, by omega⟩) ?_)
    have hF := hF.pt (t := 4) (j := z31.toNat) (v := 0) (by decide) (by decide)
    intro z33 t33 e33 l33 h33
    try have w33 : t33 = 0 := by omega
    intro z34 t34 e34 l34 h34
    try have w34 : t34 = 0 := by omega
    refine And.intro (rfl) (And.intro (⟨by omega, by omega⟩) ?_)
    intro v35 e35 l35 h35
    have e35 : v35 = (xput (xput σ 0 11 0) 4 z31.toNat 0) 4 z34.toNat := e35
    intro z36 t36 e36 l36 h36
    try have w36 : t36 = 0 := by omega
    refine And.intro (rfl) (And.intro (⟨by omega, by omega⟩) ?_)
    have hF := hF.pt (t := 4) (j := z34.toNat) (v := z36) (by decide) (by decide)
    have hF := hF.p (j := 10) (v := 0) (by decide)
    refine And.intro (Nat.le_of_ble_eq_true rfl) ?_
    show xw _ _ _ _ _ _ _ _ _ _ [xvr 0, xvi p, xvi kind, xvi z2, xvi v5, xvi p] _ _
    
    refine sX0_layDown (σ := (xput (xput (xput (xput σ 0 11 0) 4 z31.toNat 0) 4 z34.toNat z36) 0 10 0)) (p := p) (kind := kind) (show 0 ≤ p ∧ p ≤ 1 from by omega) (show 0 ≤ kind ∧ kind ≤ 2 from by omega) (fun σ39 f39 => ?_)
    have hF := hF.tr f39 (by decide) (by decide)
    have k8_39 : σ39 0 8 = σ 0 8 := f39.2 8 (by decide)
    exact lp_133 p σ39 ⟨hF, (show 0 ≤ σ39 0 8 ∧ σ39 0 8 ≤ 4 from by omega), by omega⟩
