set_option maxHeartbeats 4000000 in
set_option maxRecDepth 100000 in
theorem s_cannotF {σ : xS} {k kind : Int} {Q : Option xV → xS → Prop} (hp0 : 0 ≤ k ∧ k ≤ 5) (hp1 : 0 ≤ kind ∧ kind ≤ 12) (hp2 : 0 ≤ σ 2 (229 + k.toNat) ∧ σ 2 (229 + k.toNat) ≤ 52) (hp3 : MSK (σ 2)) (hQ : ∀ σ' : xS, Fr [2] [] σ σ' → (σ' 2 = barsF (σ 2) k.toNat (fun m => orF m kind)) → Q none σ') : xT kX11_cannot [xvr 0, xvi k, xvi kind] σ Q := by
  refine ⟨Nat.le_of_ble_eq_true rfl, fun X hX => ?_⟩
  show X 0 [xvr 0, xvi k, xvi kind, xvu] σ
  have hF : Fr [2] [] σ σ := Fr.rf
  refine hX 400 0 _ _ ?_
  refine And.intro (Nat.le_of_ble_eq_true rfl) ?_
  show xw _ _ _ _ _ _ _ _ _ _ [xvr 0, xvi k, xvi kind, xvi 0] _ _
  have lp_2 : ∀ (m2 : Nat) (i : Int) (s1 : xS), ((52 - i).toNat) = m2 → (Fr [2] [] σ s1 ∧ s1 2 = brF (σ 2) k.toNat kind i.toNat ∧ (0 ≤ i ∧ i ≤ σ 2 (229 + k.toNat))) → X 2 [xvr 0, xvi k, xvi kind, xvi i] s1 := by
    intro m2
    induction m2 using Nat.strongRecOn with
    | _ m2 ih_2 =>
    intro i s1 hm_2 hv_2
    obtain ⟨hF, hB, hv_2⟩ := hv_2
    have s229 : s1 2 (229 + k.toNat) = σ 2 (229 + k.toNat) := by rw [hB]; exact brF_o (Or.inl (by omega))
    refine hX 400 2 _ _ ?_
    intro z2 t2 e2 l2 h2
    try have w2 : t2 = 0 := by omega
    refine And.intro (rfl) (And.intro (⟨by omega, by omega⟩) ?_)
    intro v3 e3 l3 h3
    have e3 : v3 = s1 2 z2.toNat := e3
    rw [show z2.toNat = 229 + k.toNat from by omega] at e3
    refine And.intro (fun c4 => ?_) (fun c4 => ?_)
    · refine And.intro rfl (And.intro rfl ?_)
      exact hQ _ hF (by rw [hB]; exact brF_e (by omega))
    · intro z5 t5 e5 l5 h5
      try have w5 : t5 = 0 := by omega
      intro z6 t6 e6 l6 h6
      try have w6 : t6 = 0 := by omega
      intro z7 t7 e7 l7 h7
      try have w7 : t7 = 0 := by omega
      refine And.intro (rfl) (And.intro (⟨by omega, by omega⟩) ?_)
      intro v8 e8 l8 h8
      have e8 : v8 = s1 2 z7.toNat := e8
      rw [show z7.toNat = 235 + 52 * k.toNat + i.toNat from by omega, hB] at e8
      intro z9 e9 l9 h9
      -- or
      intro z10 e10 l10 h10
      refine And.intro (rfl) (And.intro (⟨by omega, by omega⟩) ?_)
      have hF := hF.pt (t := 2) (j := z7.toNat) (v := z10) (by decide) (by decide)
      intro z12 t12 e12 l12 h12
      try have w12 : t12 = 0 := by omega
      show xw _ _ _ _ _ _ _ _ _ _ [xvr 0, xvi k, xvi kind, xvi z12] _ _
      exact ih_2 _ (show (52 - z12).toNat < m2 from by omega) z12 (xput s1 2 z7.toNat z10) rfl ⟨hF, (by
                show xput s1 2 z7.toNat z10 2 = _
                rw [xput_up, hB, show z7.toNat = 235 + 52 * k.toNat + i.toNat from by omega, show z12.toNat = i.toNat + 1 from by omega, ← brF_s]
                congr 1
                have hm := hp3 k.toNat i.toNat (by omega) (by omega)
                exact xorb (by omega) hp1 e9 (by rw [e10, e8, brF_o (Or.inr (Nat.le_refl _))])), by omega⟩
  exact lp_2 _ 0 σ rfl ⟨hF, brF_z.symm, by omega⟩

