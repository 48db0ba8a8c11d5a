set_option maxHeartbeats 4000000 in
set_option maxRecDepth 100000 in
theorem s_cards {σ : xS} {k : Int} {Q : Option xV → xS → Prop} (hV : V0 (σ 2)) (hp0 : 0 ≤ k ∧ k ≤ 5) (hQ : ∀ r : Int, (r = sm 13 (hd (σ 2) k.toNat) ∧ 0 ≤ r ∧ r ≤ 52) → Q (some (xvi r)) σ) : xT kX11_cards [xvr 0, xvi k] σ Q := by
  refine ⟨Nat.le_of_ble_eq_true rfl, fun X hX => ?_⟩
  show X 0 [xvr 0, xvi k, xvu, xvu] σ
  refine hX 400 0 _ _ ?_
  refine And.intro (Nat.le_of_ble_eq_true rfl) ?_
  refine And.intro (Nat.le_of_ble_eq_true rfl) ?_
  have lp_4 : ∀ (m4 : Nat) (n : Int) (kind : Int), ((13 - kind).toNat) = m4 → (n = sm kind.toNat (hd (σ 2) k.toNat) ∧ (0 ≤ kind ∧ kind ≤ 13 ∧ 0 ≤ n ∧ n ≤ 4 * kind)) → X 4 [xvr 0, xvi k, xvi n, xvi kind] σ := by
    intro m4
    induction m4 using Nat.strongRecOn with
    | _ m4 ih_4 =>
    intro n kind hm_4 hv_4
    refine hX 400 4 _ _ ?_
    refine And.intro (fun c2 => ?_) (fun c2 => ?_)
    · refine And.intro rfl ?_
      exact hQ _ ⟨by rw [hv_4.1, show kind.toNat = 13 from by omega], by omega⟩
    · intro z3 t3 e3 l3 h3
      try have w3 : t3 = 0 := by omega
      intro z4 t4 e4 l4 h4
      try have w4 : t4 = 0 := by omega
      intro z5 t5 e5 l5 h5
      try have w5 : t5 = 0 := by omega
      refine And.intro (rfl) (And.intro (⟨by omega, by omega⟩) ?_)
      intro v6 e6 l6 h6
      have e6 : v6 = σ 2 z5.toNat := e6
      have a4 := hV.hand (p := k.toNat) (k := kind.toNat) (by omega) (by omega); have i1 := hdI (σ 2) (k := k) (kind := kind) (by omega) (by omega); rw [show (60 + 13 * k + kind) = z5 from by omega] at i1
      intro z7 t7 e7 l7 h7
      try have w7 : t7 = 0 := by omega
      refine And.intro (Nat.le_of_ble_eq_true rfl) ?_
      intro z8 t8 e8 l8 h8
      try have w8 : t8 = 0 := by omega
      exact ih_4 _ (show (13 - z8).toNat < m4 from by omega) z7 z8 rfl ⟨by rw [show z8.toNat = kind.toNat + 1 from by omega]; show z7 = sm kind.toNat _ + hd (σ 2) k.toNat kind.toNat; have i1 := hdI (σ 2) (k := k) (kind := kind) (by omega) (by omega); rw [show (60 + 13 * k + kind) = z5 from by omega] at i1; omega, by have a4 := hV.hand (p := k.toNat) (k := kind.toNat) (by omega) (by omega); have i1 := hdI (σ 2) (k := k) (kind := kind) (by omega) (by omega); rw [show (60 + 13 * k + kind) = z5 from by omega] at i1; omega⟩
  exact lp_4 _ 0 0 rfl ⟨rfl, by omega⟩
set_option maxHeartbeats 4000000 in
set_option maxRecDepth 100000 in
theorem s_draws {σ : xS} {k : Int} {Q : Option xV → xS → Prop} (hp0 : V0 (σ 2)) (hp1 : 0 ≤ k ∧ k < σ 2 1) (hp2 : 1 ≤ σ 2 7) (hQ : ∀ r : Int, ∀ σ' : xS, Fr [2] [] σ σ' → (r = σ 2 8 ∧ DRW (σ 2) (σ' 2) k.toNat r.toNat) → Q (some (xvi r)) σ') : xT kX11_draws [xvr 0, xvi k] σ Q := by
  refine ⟨Nat.le_of_ble_eq_true rfl, fun X hX => ?_⟩
  show X 0 [xvr 0, xvi k, xvu, xvu] σ
  have hF : Fr [2] [] σ σ := Fr.rf
  refine hX 400 0 _ _ ?_
  have m0 := hp0.1.1; have m1 := hp0.1.2.1; have m3 := hp0.1.2.2.1; have m7 := hp0.1.2.2.2; have hc := hp0.c8 hp2
  refine And.intro (rfl) (And.intro (⟨by omega, by omega⟩) ?_)
  intro v1 e1 l1 h1
  have e1 : v1 = σ 2 8 := e1
  refine And.intro (Nat.le_of_ble_eq_true rfl) ?_
  refine And.intro (rfl) (And.intro (⟨by omega, by omega⟩) ?_)
  intro v2 e2 l2 h2
  have e2 : v2 = σ 2 7 := e2
  intro z3 t3 e3 l3 h3
  try have w3 : t3 = 0 := by omega
  refine And.intro (rfl) (And.intro (⟨by omega, by omega⟩) ?_)
  have hF := hF.pt (t := 2) (j := 7) (v := z3) (by decide) (by decide)
  refine And.intro (Nat.le_of_ble_eq_true rfl) ?_
  have lp_21 : ∀ (m21 : Nat) (i : Int) (s1 : xS), ((52 - i).toNat) = m21 → (Fr [2] [] σ s1 ∧ s1 2 7 = σ 2 7 - 1 ∧ (∀ j : Nat, (j : Int) < i → s1 2 (8 + j) = σ 2 (8 + j + 1)) ∧ (∀ j : Nat, j ≠ 7 → ¬ (8 ≤ j ∧ (j : Int) < 8 + i) → s1 2 j = σ 2 j) ∧ (0 ≤ i ∧ i ≤ σ 2 7 - 1)) → X 21 [xvr 0, xvi k, xvi v1, xvi i] s1 := by
    intro m21
    induction m21 using Nat.strongRecOn with
    | _ m21 ih_21 =>
    intro i s1 hm_21 hv_21
    obtain ⟨hF, h7, hA, hB, hv_21⟩ := hv_21
    refine hX 400 21 _ _ ?_
    refine And.intro (rfl) (And.intro (⟨by omega, by omega⟩) ?_)
    intro v6 e6 l6 h6
    have e6 : v6 = s1 2 7 := e6
    refine And.intro (fun c7 => ?_) (fun c7 => ?_)
    · have q8 : s1 2 (60 + 13 * k + v1).toNat = σ 2 (60 + 13 * k + v1).toNat := hB _ (by omega) (by omega)
      refine s_handM (σ := s1) (k := k) (kind := v1) (more := 1) (by omega) (by omega) (by have i1 := hdI (σ 2) (k := k) (kind := v1) (by omega) (by omega); have a4 := hp0.hand (p := k.toNat) (k := v1.toNat) (by omega) (by omega); omega) (fun r8 σ8 f8 p8 => ?_)
      have hF := hF.tr f8 (by decide) (by decide)
      intro z9 t9 e9 l9 h9
      try have w9 : t9 = 0 := by omega
      intro z10 t10 e10 l10 h10
      try have w10 : t10 = 0 := by omega
      refine And.intro (rfl) (And.intro (⟨by omega, by omega⟩) ?_)
      have hF := hF.pt (t := 2) (j := z9.toNat) (v := z10) (by decide) (by decide)
      refine And.intro rfl ?_
      exact hQ _ _ hF ⟨by omega, by
            rw [xput_up, show z9.toNat = 565 + k.toNat from by omega, show z10 = (v1.toNat : Int) + 1 from by omega]
            refine DRW.mk (g := s1 2) (by omega) (by omega) (by omega) (by omega) h7 (fun j hj => hA j (by omega)) (fun j h1 h2 => hB j h1 (by omega)) ?_
            rw [show 60 + 13 * k.toNat + v1.toNat = (60 + 13 * k + v1).toNat from by omega]
            exact p8.2⟩
    · intro z12 t12 e12 l12 h12
      try have w12 : t12 = 0 := by omega
      intro z13 t13 e13 l13 h13
      try have w13 : t13 = 0 := by omega
      intro z14 t14 e14 l14 h14
      try have w14 : t14 = 0 := by omega
      refine And.intro (rfl) (And.intro (⟨by omega, by omega⟩) ?_)
      intro v15 e15 l15 h15
      have e15 : v15 = s1 2 z14.toNat := e15
      refine And.intro (rfl) (And.intro (⟨by omega, by omega⟩) ?_)
      have hF := hF.pt (t := 2) (j := z12.toNat) (v := v15) (by decide) (by decide)
      intro z17 t17 e17 l17 h17
      try have w17 : t17 = 0 := by omega
      exact ih_21 _ (show (52 - z17).toNat < m21 from by omega) z17 (xput s1 2 z12.toNat v15) rfl ⟨hF, (by rw [xput_o (by omega)]; exact h7), (fun q hq => by
                by_cases e : q = i.toNat
                · rw [show 8 + q = z12.toNat from by omega, xput_s, e15, hB _ (by omega) (by omega)]; rw [show z14.toNat = z12.toNat + 1 from by omega]
                · rw [xput_o (by omega)]; exact hA q (by omega)), (fun q h1 h2 => by rw [xput_o (by omega)]; exact hB q h1 (by omega)), by omega⟩
  exact lp_21 _ 0 (xput σ 2 7 z3) rfl ⟨hF, (show z3 = σ 2 7 - 1 from by omega), (fun j hj => by omega), (fun j h1 h2 => xput_o h1), by omega⟩
