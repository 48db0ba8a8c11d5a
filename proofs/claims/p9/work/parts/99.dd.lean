set_option maxHeartbeats 4000000 in
set_option maxRecDepth 100000 in
theorem sX0_pack {σ : xS} {Q : Option xV → xS → Prop} (hQ : ∀ r : Int, Q (some (xvi r)) σ) : xT kX0_pack [xvr 0] σ Q := by
  refine ⟨Nat.le_of_ble_eq_true rfl, fun X hX => ?_⟩
  show X 0 [xvr 0, xvu, xvu, xvu] σ
  refine hX 400 0 _ _ ?_
  refine And.intro (Nat.le_of_ble_eq_true rfl) ?_
  show xw _ _ _ _ _ _ _ _ _ _ [xvr 0, xvi 0, xvu, xvu] _ _
  refine And.intro (Nat.le_of_ble_eq_true rfl) ?_
  show xw _ _ _ _ _ _ _ _ _ _ [xvr 0, xvi 0, xvi 0, xvu] _ _
  have lp_4 : ∀ (m4 : Nat) (sa : Int) (k : Int) (u1_3 : xV), ((3 - k).toNat) = m4 → (0 ≤ k ∧ k ≤ 3) → X 4 [xvr 0, xvi sa, xvi k, u1_3] σ := by
    intro m4
    induction m4 using Nat.strongRecOn with
    | _ m4 ih_4 =>
    intro sa k u1_3 hm_4 hv_4
    refine hX 400 4 _ _ ?_
    refine And.intro (fun c2 => ?_) (fun c2 => ?_)
    · intro z3 t3 e3 l3 h3
      try have w3 : t3 = 0 := by omega
      intro v4 e4 l4 h4
      have e4 : v4 = σ 0 8 := e4
      intro z5 t5 e5 l5 h5
      try have w5 : t5 = 0 := by omega
      intro z6 t6 e6 l6 h6
      try have w6 : t6 = 0 := by omega
      intro v7 e7 l7 h7
      have e7 : v7 = σ 0 9 := e7
      intro z8 t8 e8 l8 h8
      try have w8 : t8 = 0 := by omega
      intro z9 t9 e9 l9 h9
      try have w9 : t9 = 0 := by omega
      intro v10 e10 l10 h10
      have e10 : v10 = σ 0 10 := e10
      intro z11 t11 e11 l11 h11
      try have w11 : t11 = 0 := by omega
      refine And.intro rfl ?_
      exact hQ _ 
    · refine And.intro (rfl) (And.intro (⟨by omega, by omega⟩) ?_)
      intro v12 e12 l12 h12
      have e12 : v12 = σ 4 k.toNat := e12
      intro z13 t13 e13 l13 h13
      try have w13 : t13 = 0 := by omega
      refine And.intro (rfl) (And.intro (⟨by omega, by omega⟩) ?_)
      intro v14 e14 l14 h14
      have e14 : v14 = σ 4 z13.toNat := e14
      intro z15 t15 e15 l15 h15
      try have w15 : t15 = 0 := by omega
      refine And.intro (fun c16 => ?_) (fun c16 => ?_)
      · refine And.intro (Nat.le_of_ble_eq_true rfl) ?_
        show xw _ _ _ _ _ _ _ _ _ _ [xvr 0, xvi sa, xvi k, xvi 0] _ _
        intro z17 t17 e17 l17 h17
        try have w17 : t17 = 0 := by omega
        refine And.intro (fun _ => ?_) (fun c18 => absurd (by decide) c18)
        refine And.intro (rfl) (And.intro (⟨by omega, by omega⟩) ?_)
        intro v19 e19 l19 h19
        have e19 : v19 = σ 4 k.toNat := e19
        intro z20 t20 e20 l20 h20
        try have w20 : t20 = 0 := by omega
        refine And.intro (Nat.le_of_ble_eq_true rfl) ?_
        show xw _ _ _ _ _ _ _ _ _ _ [xvr 0, xvi z20, xvi k, xvi 0] _ _
        intro z21 t21 e21 l21 h21
        try have w21 : t21 = 0 := by omega
        show xw _ _ _ _ _ _ _ _ _ _ [xvr 0, xvi z20, xvi z21, xvi 0] _ _
        exact ih_4 _ (show (3 - z21).toNat < m4 from by omega) z20 z21 (xvi 0) rfl (show 0 ≤ z21 ∧ z21 ≤ 3 from by first | trivial | omega | (refine ⟨by assumption, ?_⟩; omega) | (refine ⟨?_, ?_⟩ <;> omega))
      · refine And.intro (Nat.le_of_ble_eq_true rfl) ?_
        show xw _ _ _ _ _ _ _ _ _ _ [xvr 0, xvi sa, xvi k, xvi 1] _ _
        intro z22 t22 e22 l22 h22
        try have w22 : t22 = 0 := by omega
        refine And.intro (fun c23 => absurd c23 (by decide)) (fun _ => ?_)
        intro z24 t24 e24 l24 h24
        try have w24 : t24 = 0 := by omega
        refine And.intro (Nat.le_of_ble_eq_true rfl) ?_
        show xw _ _ _ _ _ _ _ _ _ _ [xvr 0, xvi z24, xvi k, xvi 1] _ _
        intro z25 t25 e25 l25 h25
        try have w25 : t25 = 0 := by omega
        show xw _ _ _ _ _ _ _ _ _ _ [xvr 0, xvi z24, xvi z25, xvi 1] _ _
        exact ih_4 _ (show (3 - z25).toNat < m4 from by omega) z24 z25 (xvi 1) rfl (show 0 ≤ z25 ∧ z25 ≤ 3 from by first | trivial | omega | (refine ⟨by assumption, ?_⟩; omega) | (refine ⟨?_, ?_⟩ <;> omega))
  exact lp_4 _ 0 0 (xvu) rfl (show 0 ≤ 0 ∧ 0 ≤ 3 from by first | trivial | omega | (refine ⟨by assumption, ?_⟩; omega) | (refine ⟨?_, ?_⟩ <;> omega))
set_option maxHeartbeats 4000000 in
set_option maxRecDepth 100000 in
theorem sX0_leftInHeap {σ : xS} {kind : Int} {Q : Option xV → xS → Prop} (hp0 : 0 ≤ σ 0 8) (hp1 : 0 ≤ σ 0 3 ∧ σ 0 3 ≤ 4) (hQ : ∀ r : Int, Q (some (xvi r)) σ) : xT kX0_leftInHeap [xvr 0, xvi kind] σ Q := by
  refine ⟨Nat.le_of_ble_eq_true rfl, fun X hX => ?_⟩
  show X 0 [xvr 0, xvi kind, xvu, xvu] σ
  refine hX 400 0 _ _ ?_
  refine And.intro (Nat.le_of_ble_eq_true rfl) ?_
  show xw _ _ _ _ _ _ _ _ _ _ [xvr 0, xvi kind, xvi 0, xvu] _ _
  intro v1 e1 l1 h1
  have e1 : v1 = σ 0 8 := e1
  refine And.intro (Nat.le_of_ble_eq_true rfl) ?_
  show xw _ _ _ _ _ _ _ _ _ _ [xvr 0, xvi kind, xvi 0, xvi v1] _ _
  have lp_7 : ∀ (m7 : Nat) (f : Int) (i : Int), ((4 - i).toNat) = m7 → (0 ≤ i) → X 7 [xvr 0, xvi kind, xvi f, xvi i] σ := by
    intro m7
    induction m7 using Nat.strongRecOn with
    | _ m7 ih_7 =>
    intro f i hm_7 hv_7
    refine hX 400 7 _ _ ?_
    intro v3 e3 l3 h3
    have e3 : v3 = σ 0 3 := e3
    refine And.intro (fun c4 => ?_) (fun c4 => ?_)
    · refine And.intro rfl ?_
      exact hQ _ 
    · have lp_28 : ∀ (f2 : Int), (True) → X 28 [xvr 0, xvi kind, xvi f2, xvi i] σ := by
        intro f2 hv_28
        refine hX 400 28 _ _ ?_
        intro z6 t6 e6 l6 h6
        try have w6 : t6 = 0 := by omega
        show xw _ _ _ _ _ _ _ _ _ _ [xvr 0, xvi kind, xvi f2, xvi z6] _ _
        exact ih_7 _ (show (4 - z6).toNat < m7 from by omega) f2 z6 rfl (show 0 ≤ z6 from by first | trivial | omega | (refine ⟨by assumption, ?_⟩; omega) | (refine ⟨?_, ?_⟩ <;> omega))
      refine And.intro (rfl) (And.intro (⟨by omega, by omega⟩) ?_)
      intro v7 e7 l7 h7
      have e7 : v7 = σ 3 i.toNat := e7
      refine And.intro (fun c8 => ?_) (fun c8 => ?_)
      · exact lp_28 f (show True from by first | trivial | omega | (refine ⟨by assumption, ?_⟩; omega) | (refine ⟨?_, ?_⟩ <;> omega))
      · intro z9 t9 e9 l9 h9
        try have w9 : t9 = 0 := by omega
        show xw _ _ _ _ _ _ _ _ _ _ [xvr 0, xvi kind, xvi z9, xvi i] _ _
        exact lp_28 z9 (show True from by first | trivial | omega | (refine ⟨by assumption, ?_⟩; omega) | (refine ⟨?_, ?_⟩ <;> omega))
  exact lp_7 _ 0 v1 rfl (show 0 ≤ v1 from by first | trivial | omega | (refine ⟨by assumption, ?_⟩; omega) | (refine ⟨?_, ?_⟩ <;> omega))
set_option maxHeartbeats 4000000 in
set_option maxRecDepth 100000 in
theorem sX0_cardsOf {σ : xS} {p : Int} {Q : Option xV → xS → Prop} (hp0 : 0 ≤ p ∧ p ≤ 1) (hQ : ∀ r : Int, Q (some (xvi r)) σ) : xT kX0_cardsOf [xvr 0, xvi p] σ Q := by
  refine ⟨Nat.le_of_ble_eq_true rfl, fun X hX => ?_⟩
  show X 0 [xvr 0, xvi p, xvu, xvu] σ
  refine hX 400 0 _ _ ?_
  refine And.intro (Nat.le_of_ble_eq_true rfl) ?_
  show xw _ _ _ _ _ _ _ _ _ _ [xvr 0, xvi p, xvi 0, xvu] _ _
  refine And.intro (Nat.le_of_ble_eq_true rfl) ?_
  show xw _ _ _ _ _ _ _ _ _ _ [xvr 0, xvi p, xvi 0, xvi 0] _ _
  have lp_4 : ∀ (m4 : Nat) (f : Int) (k : Int), ((3 - k).toNat) = m4 → (0 ≤ k ∧ k ≤ 3) → X 4 [xvr 0, xvi p, xvi f, xvi k] σ := by
    intro m4
    induction m4 using Nat.strongRecOn with
    | _ m4 ih_4 =>
    intro f k hm_4 hv_4
    refine hX 400 4 _ _ ?_
    refine And.intro (fun c2 => ?_) (fun c2 => ?_)
    · refine And.intro rfl ?_
      exact hQ _ 
    · intro z3 t3 e3 l3 h3
      try have w3 : t3 = 0 := by omega
      intro z4 t4 e4 l4 h4
      try have w4 : t4 = 0 := by omega
      refine And.intro (rfl) (And.intro (⟨by omega, by omega⟩) ?_)
      intro v5 e5 l5 h5
      have e5 : v5 = σ 4 z4.toNat := e5
      intro z6 t6 e6 l6 h6
      try have w6 : t6 = 0 := by omega
      refine And.intro (Nat.le_of_ble_eq_true rfl) ?_
      show xw _ _ _ _ _ _ _ _ _ _ [xvr 0, xvi p, xvi z6, xvi k] _ _
      intro z7 t7 e7 l7 h7
      try have w7 : t7 = 0 := by omega
      show xw _ _ _ _ _ _ _ _ _ _ [xvr 0, xvi p, xvi z6, xvi z7] _ _
      exact ih_4 _ (show (3 - z7).toNat < m4 from by omega) z6 z7 rfl (show 0 ≤ z7 ∧ z7 ≤ 3 from by first | trivial | omega | (refine ⟨by assumption, ?_⟩; omega) | (refine ⟨?_, ?_⟩ <;> omega))
  exact lp_4 _ 0 0 rfl (show 0 ≤ 0 ∧ 0 ≤ 3 from by first | trivial | omega | (refine ⟨by assumption, ?_⟩; omega) | (refine ⟨?_, ?_⟩ <;> omega))
set_option maxHeartbeats 4000000 in
set_option maxRecDepth 100000 in
theorem sX0_layDown {σ : xS} {p kind : Int} {Q : Option xV → xS → Prop} (hp0 : 0 ≤ p ∧ p ≤ 1) (hp1 : 0 ≤ kind ∧ kind ≤ 2) (hQ : ∀ σ' : xS, Fr [4] [11] σ σ' → Q none σ') : xT kX0_layDown [xvr 0, xvi p, xvi kind] σ Q := by
  refine ⟨Nat.le_of_ble_eq_true rfl, fun X hX => ?_⟩
  show X 0 [xvr 0, xvi p, xvi kind] σ
  have hF : Fr [4] [11] σ σ := Fr.rf
  refine hX 400 0 _ _ ?_
  intro z1 t1 e1 l1 h1
  try have w1 : t1 = 0 := by omega
  intro z2 t2 e2 l2 h2
  try have w2 : t2 = 0 := by omega
  refine And.intro (rfl) (And.intro (⟨by omega, by omega⟩) ?_)
  intro v3 e3 l3 h3
  have e3 : v3 = σ 4 z2.toNat := e3
  refine And.intro (fun c4 => ?_) (fun c4 => ?_)
  · refine hX 400 43 _ _ ?_
    refine And.intro rfl (And.intro rfl ?_)
    exact hQ _ hF 
  · intro z5 t5 e5 l5 h5
    try have w5 : t5 = 0 := by omega
    intro z6 t6 e6 l6 h6
    try have w6 : t6 = 0 := by omega
    refine And.intro (rfl) (And.intro (⟨by omega, by omega⟩) ?_)
    have hF := hF.pt (t := 4) (j := z6.toNat) (v := 0) (by decide) (by decide)
    intro v8 e8 l8 h8
    have e8 : v8 = σ 0 11 := e8
    refine And.intro (fun c9 => ?_) (fun c9 => ?_)
    · intro z10 t10 e10 l10 h10
      try have w10 : t10 = 0 := by omega
      have hF := hF.p (j := 11) (v := z10) (by decide)
      refine hX 400 43 _ _ ?_
      refine And.intro rfl (And.intro rfl ?_)
      exact hQ _ hF 
    · intro z12 t12 e12 l12 h12
      try have w12 : t12 = 0 := by omega
      have hF := hF.p (j := 11) (v := z12) (by decide)
      refine hX 400 43 _ _ ?_
      refine And.intro rfl (And.intro rfl ?_)
      exact hQ _ hF 
set_option maxHeartbeats 4000000 in
set_option maxRecDepth 100000 in
theorem sX0_drawCard {σ : xS} {p : Int} {Q : Option xV → xS → Prop} (hp0 : 0 ≤ p ∧ p ≤ 1) (hp1 : 0 ≤ σ 0 8 ∧ σ 0 8 ≤ 3) (hp2 : 0 ≤ σ 3 (σ 0 8).toNat ∧ σ 3 (σ 0 8).toNat ≤ 2) (hQ : ∀ σ' : xS, Fr [4] [8, 11] σ σ' → (σ' 0 8 = σ 0 8 + 1) → Q none σ') : xT kX0_drawCard [xvr 0, xvi p] σ Q := by
  refine ⟨Nat.le_of_ble_eq_true rfl, fun X hX => ?_⟩
  show X 0 [xvr 0, xvi p, xvu] σ
  have hF : Fr [4] [8, 11] σ σ := Fr.rf
  refine hX 400 0 _ _ ?_
  intro v1 e1 l1 h1
  have e1 : v1 = σ 0 8 := e1
  refine And.intro (rfl) (And.intro (⟨by omega, by omega⟩) ?_)
  intro v2 e2 l2 h2
  have e2 : v2 = σ 3 v1.toNat := e2
  rw [show v1 = σ 0 8 from by omega] at e2
  refine And.intro (Nat.le_of_ble_eq_true rfl) ?_
  show xw _ _ _ _ _ _ _ _ _ _ [xvr 0, xvi p, xvi v2] _ _
  intro v3 e3 l3 h3
  have e3 : v3 = σ 0 8 := e3
  intro z4 t4 e4 l4 h4
  try have w4 : t4 = 0 := by omega
  have hF := hF.p (j := 8) (v := z4) (by decide)
  intro z6 t6 e6 l6 h6
  try have w6 : t6 = 0 := by omega
  intro z7 t7 e7 l7 h7
  try have w7 : t7 = 0 := by omega
  refine And.intro (rfl) (And.intro (⟨by omega, by omega⟩) ?_)
  intro v8 e8 l8 h8
  have e8 : v8 = σ 4 z7.toNat := e8
  intro z9 t9 e9 l9 h9
  try have w9 : t9 = 0 := by omega
  refine And.intro (rfl) (And.intro (⟨by omega, by omega⟩) ?_)
  have hF := hF.pt (t := 4) (j := z7.toNat) (v := z9) (by decide) (by decide)
  
  refine sX0_layDown (σ := (xput (xput σ 0 8 z4) 4 z7.toNat z9)) (p := p) (kind := v2) (show 0 ≤ p ∧ p ≤ 1 from by omega) (show 0 ≤ v2 ∧ v2 ≤ 2 from by omega) (fun σ11 f11 => ?_)
  have hF := hF.tr f11 (by decide) (by decide)
  refine And.intro rfl (And.intro rfl ?_)
  exact hQ _ hF ((f11.2 8 (by decide)).trans (show z4 = σ 0 8 + 1 from by omega))
