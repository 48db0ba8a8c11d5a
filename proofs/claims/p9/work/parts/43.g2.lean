set_option maxHeartbeats 4000000 in
set_option maxRecDepth 100000 in
theorem s_hand0v {σ : xS} {k kind : Int} {Q : Option xV → xS → Prop} (hV : V0 (σ 2)) (hp0 : 0 ≤ k ∧ k ≤ 5) (hp1 : 0 ≤ kind ∧ kind ≤ 12) (hQ : ∀ r : Int, r = σ 2 (60 + 13 * k + kind).toNat → Q (some (xvi r)) σ) : xT kX11_handOf [xvr 0, xvi k, xvi kind, xvi 0] σ Q := by
  refine ⟨Nat.le_of_ble_eq_true rfl, fun X hX => ?_⟩
  show X 0 [xvr 0, xvi k, xvi kind, xvi 0] σ
  refine hX 400 0 _ _ ?_
  intro z1 t1 e1 l1 h1
  try have w1 : t1 = 0 := by omega
  intro z2 t2 e2 l2 h2
  try have w2 : t2 = 0 := by omega
  intro z3 t3 e3 l3 h3
  try have w3 : t3 = 0 := by omega
  refine And.intro (rfl) (And.intro (⟨by omega, by omega⟩) ?_)
  intro v4 e4 l4 h4
  have e4 : v4 = σ 2 z3.toNat := e4
  intro z5 t5 e5 l5 h5
  try have w5 : t5 = 0 := by omega
  refine And.intro (rfl) (And.intro (⟨by omega, by omega⟩) ?_)
  intro z7 t7 e7 l7 h7
  try have w7 : t7 = 0 := by omega
  intro z8 t8 e8 l8 h8
  try have w8 : t8 = 0 := by omega
  intro z9 t9 e9 l9 h9
  try have w9 : t9 = 0 := by omega
  refine And.intro (rfl) (And.intro (⟨by omega, by omega⟩) ?_)
  intro v10 e10 l10 h10
  have e10 : v10 = (xput σ 2 z3.toNat z5) 2 z9.toNat := e10
  refine And.intro rfl ?_
  have hx : xput σ 2 z3.toNat z5 = σ := xput_id (by rw [← e4]; omega)
  have hz : z9 = 60 + 13 * k + kind := by omega
  rw [hx] at e10
  rw [hz] at e10
  have hq := hQ v10 e10
  rw [← hx] at hq
  exact hq
set_option maxHeartbeats 4000000 in
set_option maxRecDepth 100000 in
theorem s_books {σ : xS} {k kind : Int} {Q : Option xV → xS → Prop} (hp0 : 0 ≤ k ∧ k ≤ 5) (hp1 : 0 ≤ kind ∧ kind ≤ 12) (hp2 : V0 (σ 2)) (hQ : ∀ r : Int, ∀ σ' : xS, Fr [2] [] σ σ' → (V0 (σ' 2) ∧ LO (σ 2) (σ' 2) ∧ (r = 0 ∨ r = 1)) → Q (some (xvi r)) σ') : xT kX11_books [xvr 0, xvi k, xvi kind] σ Q := by
  refine ⟨Nat.le_of_ble_eq_true rfl, fun X hX => ?_⟩
  show X 0 [xvr 0, xvi k, xvi kind, xvu] σ
  have hF : Fr [2] [] σ σ := Fr.rf
  have hA : AG (σ 2) (σ 2) := AG.rf
  refine hX 400 0 _ _ ?_
  have hV := hp2
  refine s_hand0v (σ := σ) (k := k) (kind := kind) hV (by omega) (by omega) (fun r1 p1 => ?_)
  refine And.intro (fun c2 => ?_) (fun c2 => ?_)
  · have hH0 : hd (σ 2) k.toNat kind.toNat = 4 := by have i1 := hdI (σ 2) (k := k) (kind := kind) (by omega) (by omega); have i2 := knI' (σ 2) (k := k) (kind := kind) (by omega) (by omega); have i3 := otI (σ 2) (k := k) (by omega); have a1 := hV.some (p := k.toNat) (k := kind.toNat) (by omega) (by omega); have a2 := hV.others (p := k.toNat) (by omega); have a3 := hV.2.2.1 k.toNat kind.toNat (by omega) (by omega); have a4 := hV.hand (p := k.toNat) (k := kind.toNat) (by omega) (by omega); omega
    intro z3 t3 e3 l3 h3
    try have w3 : t3 = 0 := by omega
    intro z4 t4 e4 l4 h4
    try have w4 : t4 = 0 := by omega
    intro z5 t5 e5 l5 h5
    try have w5 : t5 = 0 := by omega
    refine And.intro (rfl) (And.intro (⟨by omega, by omega⟩) ?_)
    intro v6 e6 l6 h6
    have e6 : v6 = σ 2 z5.toNat := e6
    have gv6 : v6 = (σ 2) (151 + 13 * k + kind).toNat := hA.rd e6 (by omega) (by omega) (by omega) (by omega)
    have gv6 : v6 = (σ 2) (151 + 13 * k + kind).toNat := gv6
    refine And.intro (Nat.le_of_ble_eq_true rfl) ?_
    have lp_29 : ∀ (m29 : Nat) (i : Int) (s1 : xS), ((4 - i).toNat) = m29 → (Fr [2] [] σ s1 ∧ V0 (s1 2) ∧ LO (σ 2) (s1 2) ∧ kn (s1 2) k.toNat kind.toNat = i ∧ hd (s1 2) k.toNat kind.toNat = 4 ∧ (0 ≤ i ∧ i ≤ 4)) → X 29 [xvr 0, xvi k, xvi kind, xvi i] s1 := by
      intro m29
      induction m29 using Nat.strongRecOn with
      | _ m29 ih_29 =>
      intro i s1 hm_29 hv_29
      obtain ⟨hF, hV, hL, hN, hH, hv_29⟩ := hv_29
      have hA : AG (s1 2) (s1 2) := AG.rf
      refine hX 400 29 _ _ ?_
      refine And.intro (fun c8 => ?_) (fun c8 => ?_)
      · intro z9 t9 e9 l9 h9
        try have w9 : t9 = 0 := by omega
        intro z10 t10 e10 l10 h10
        try have w10 : t10 = 0 := by omega
        intro z11 t11 e11 l11 h11
        try have w11 : t11 = 0 := by omega
        refine And.intro (rfl) (And.intro (⟨by omega, by omega⟩) ?_)
        have hF := hF.pt (t := 2) (j := z11.toNat) (v := 0) (by decide) (by decide)
        have hA := hA.pu (j := z11.toNat) (j' := (151 + 13 * k + kind).toNat) (v := 0) (v' := 0) (by omega) (by omega)
        have q13 : (xput s1 2 z11.toNat 0) 2 (60 + 13 * k + kind).toNat = (s1 2) (60 + 13 * k + kind).toNat := by rw [hA _ (nir (by omega) (by omega) (by omega)), up_n (by omega)]
        refine s_handM (σ := (xput s1 2 z11.toNat 0)) (k := k) (kind := kind) (more := (-4)) (by omega) (by omega) (by have i1 := hdI (s1 2) (k := k) (kind := kind) (by omega) (by omega); have i2 := knI' (s1 2) (k := k) (kind := kind) (by omega) (by omega); have i3 := otI (s1 2) (k := k) (by omega); omega) (fun r13 σ13 f13 p13 => ?_)
        rw [q13] at p13
        have hF := hF.tr f13 (by decide) (by decide)
        have hA := (AG.up (i := (60 + 13 * k + kind).toNat) (v := (s1 2) (60 + 13 * k + kind).toNat + (-4)) hA).tr p13.2
        intro z14 t14 e14 l14 h14
        try have w14 : t14 = 0 := by omega
        intro z15 t15 e15 l15 h15
        try have w15 : t15 = 0 := by omega
        refine And.intro (rfl) (And.intro (⟨by omega, by omega⟩) ?_)
        have hF := hF.pt (t := 2) (j := z14.toNat) (v := z15) (by decide) (by decide)
        have hA := hA.pu (j := z14.toNat) (j' := (138 + kind).toNat) (v := z15) (v' := k + 1) (by omega) (by omega)
        refine And.intro rfl ?_
        refine And.intro (by omega) ?_
        have hx := hV.book (by omega) (by omega) hH (by omega) hA
        exact hQ _ _ hF ⟨hx.1, hL.tr hx.2, by omega⟩
      · refine s_learns (σ := s1) (k := k) (kind := kind) (by omega) (by omega) (by have i1 := hdI (s1 2) (k := k) (kind := kind) (by omega) (by omega); have i2 := knI' (s1 2) (k := k) (kind := kind) (by omega) (by omega); have i3 := otI (s1 2) (k := k) (by omega); have a1 := hV.some (p := k.toNat) (k := kind.toNat) (by omega) (by omega); have a2 := hV.others (p := k.toNat) (by omega); have a3 := hV.2.2.1 k.toNat kind.toNat (by omega) (by omega); have a4 := hV.hand (p := k.toNat) (k := kind.toNat) (by omega) (by omega); omega) (by have i1 := hdI (s1 2) (k := k) (kind := kind) (by omega) (by omega); have i2 := knI' (s1 2) (k := k) (kind := kind) (by omega) (by omega); have i3 := otI (s1 2) (k := k) (by omega); have a1 := hV.some (p := k.toNat) (k := kind.toNat) (by omega) (by omega); have a2 := hV.others (p := k.toNat) (by omega); have a3 := hV.2.2.1 k.toNat kind.toNat (by omega) (by omega); have a4 := hV.hand (p := k.toNat) (k := kind.toNat) (by omega) (by omega); omega) (fun σ17 f17 p17 => ?_)
        have hF := hF.tr f17 (by decide) (by decide)
        obtain ⟨hV17, n17, o17, d17, u17⟩ := hV.learn (by omega) (by omega) (by omega) p17
        intro z18 t18 e18 l18 h18
        try have w18 : t18 = 0 := by omega
        exact ih_29 _ (show (4 - z18).toNat < m29 from by omega) z18 σ17 rfl ⟨hF, hV17, hL.tr o17, by rw [n17, hN]; omega, by rw [d17 _ _ (by omega) (by omega)]; exact hH, by omega⟩
    exact lp_29 _ v6 σ rfl ⟨hF, hV, LO.rf, (by have i1 := hdI (σ 2) (k := k) (kind := kind) (by omega) (by omega); have i2 := knI' (σ 2) (k := k) (kind := kind) (by omega) (by omega); have i3 := otI (σ 2) (k := k) (by omega); omega), hH0, (by have i1 := hdI (σ 2) (k := k) (kind := kind) (by omega) (by omega); have i2 := knI' (σ 2) (k := k) (kind := kind) (by omega) (by omega); have i3 := otI (σ 2) (k := k) (by omega); have a1 := hV.some (p := k.toNat) (k := kind.toNat) (by omega) (by omega); have a2 := hV.others (p := k.toNat) (by omega); have a3 := hV.2.2.1 k.toNat kind.toNat (by omega) (by omega); have a4 := hV.hand (p := k.toNat) (k := kind.toNat) (by omega) (by omega); omega)⟩
  · refine And.intro rfl ?_
    refine And.intro (by omega) ?_
    exact hQ _ _ hF ⟨hV, LO.rf, by omega⟩
