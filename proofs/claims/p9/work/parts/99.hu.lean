set_option maxHeartbeats 4000000 in
set_option maxRecDepth 100000 in
theorem s_nextWithCardsF {σ : xS} {a : Int} {Q : Option xV → xS → Prop} (hp0 : VX (σ 2)) (hp1 : 0 ≤ a ∧ a < σ 2 1) (hQ : ∀ r : Int, (r = nwF (σ 2) a) → Q (some (xvi r)) σ) : xT kX11_nextWithCards [xvr 0, xvi a] σ Q := by
  refine ⟨Nat.le_of_ble_eq_true rfl, fun X hX => ?_⟩
  show X 0 [xvr 0, xvi a, xvu] σ
  refine hX 400 0 _ _ ?_
  have m1 := hp0.1.1.2.1
  refine And.intro (Nat.le_of_ble_eq_true rfl) ?_
  show xw _ _ _ _ _ _ _ _ _ _ [xvr 0, xvi a, xvi 1] _ _
  have lp_2 : ∀ (m2 : Nat) (i : Int), ((6 - i).toNat) = m2 → ((1 ≤ i ∧ i ≤ σ 2 1) ∧ nwN (σ 2) a ((a + i) % σ 2 1) (σ 2 1 - i).toNat = nwF (σ 2) a) → X 2 [xvr 0, xvi a, xvi i] σ := by
    intro m2
    induction m2 using Nat.strongRecOn with
    | _ m2 ih_2 =>
    intro i hm_2 hv_2
    obtain ⟨hv_2, hN⟩ := hv_2
    refine hX 400 2 _ _ ?_
    refine And.intro (rfl) (And.intro (⟨by omega, by omega⟩) ?_)
    intro v2 e2 l2 h2
    have e2 : v2 = σ 2 1 := e2
    refine And.intro (fun c3 => ?_) (fun c3 => ?_)
    · intro z4 t4 e4 l4 h4
      try have w4 : t4 = 0 := by omega
      refine And.intro (rfl) (And.intro (⟨by omega, by omega⟩) ?_)
      intro v5 e5 l5 h5
      have e5 : v5 = σ 2 1 := e5
      -- rem
      refine And.intro (by omega) ?_
      intro z6 e6 f6 l6 h6
      replace f6 := f6 (by omega) (by omega)
      have g6 := Int.emod_nonneg z4 (b := v5) (by omega); have k6 := Int.emod_lt_of_pos z4 (b := v5) (by omega); rw [← f6] at g6 k6
      refine And.intro rfl ?_
      have hz : z6 = aft (σ 2 1) a := by
        have y := aft_mod (n := σ 2 1) (x := a) (by omega) (by omega)
        rw [Int.emod_eq_of_lt (by omega) (by omega)] at y
        rw [y, f6, show z4 = a + 1 from by omega, show v5 = σ 2 1 from by omega]
      exact hQ _ (by rw [← hN, show (σ 2 1 - i).toNat = 0 from by omega, hz]; rfl)
    · intro z7 t7 e7 l7 h7
      try have w7 : t7 = 0 := by omega
      refine And.intro (rfl) (And.intro (⟨by omega, by omega⟩) ?_)
      intro v8 e8 l8 h8
      have e8 : v8 = σ 2 1 := e8
      -- rem
      refine And.intro (by omega) ?_
      intro z9 e9 f9 l9 h9
      replace f9 := f9 (by omega) (by omega)
      have g9 := Int.emod_nonneg z7 (b := v8) (by omega); have k9 := Int.emod_lt_of_pos z7 (b := v8) (by omega); rw [← f9] at g9 k9
      have hk9 : z9 = (a + i) % σ 2 1 := by rw [f9, show z7 = a + i from by omega, show v8 = σ 2 1 from by omega]
      have hk09 := Int.emod_nonneg (a + i) (show σ 2 1 ≠ 0 by omega)
      have hk19 := Int.emod_lt_of_pos (a + i) (show 0 < σ 2 1 by omega)
      refine s_cards (σ := σ) (k := z9) hp0.1 (by omega) (fun r10 p10 => ?_)
      have p10 : r10 = cd (σ 2) z9.toNat ∧ 0 ≤ r10 ∧ r10 ≤ 52 := p10
      refine And.intro (fun c11 => ?_) (fun c11 => ?_)
      · intro z12 t12 e12 l12 h12
        try have w12 : t12 = 0 := by omega
        show xw _ _ _ _ _ _ _ _ _ _ [xvr 0, xvi a, xvi z12] _ _
        exact ih_2 _ (show (6 - z12).toNat < m2 from by omega) z12 rfl ⟨by omega, by
              rw [← hN, show (σ 2 1 - i).toNat = (σ 2 1 - z12).toNat + 1 from by omega, nwN_s, if_neg (by rw [← hk9]; omega), aft_mod (by omega) (by omega), show a + z12 = a + i + 1 from by omega]⟩
      · intro z13 t13 e13 l13 h13
        try have w13 : t13 = 0 := by omega
        refine And.intro (rfl) (And.intro (⟨by omega, by omega⟩) ?_)
        intro v14 e14 l14 h14
        have e14 : v14 = σ 2 1 := e14
        -- rem
        refine And.intro (by omega) ?_
        intro z15 e15 f15 l15 h15
        replace f15 := f15 (by omega) (by omega)
        have g15 := Int.emod_nonneg z13 (b := v14) (by omega); have k15 := Int.emod_lt_of_pos z13 (b := v14) (by omega); rw [← f15] at g15 k15
        refine And.intro rfl ?_
        have hz : z15 = (a + i) % σ 2 1 := by rw [f15, show z13 = a + i from by omega, show v14 = σ 2 1 from by omega]
        exact hQ _ (by rw [← hN, show (σ 2 1 - i).toNat = (σ 2 1 - (i + 1)).toNat + 1 from by omega, nwN_s, if_pos (by rw [← hk9]; omega), hz])
  exact lp_2 _ 1 rfl ⟨by omega, by
        unfold nwF
        have y := aft_mod (n := σ 2 1) (x := a) (by omega) (by omega)
        rw [Int.emod_eq_of_lt (by omega) (by omega)] at y
        rw [y]⟩
