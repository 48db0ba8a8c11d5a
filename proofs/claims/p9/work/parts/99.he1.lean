set_option maxHeartbeats 4000000 in
set_option maxRecDepth 100000 in
theorem s_learnsF {σ : xS} {k kind : Int} {Q : Option xV → xS → Prop} (hp0 : 0 ≤ k ∧ k ≤ 5) (hp1 : 0 ≤ kind ∧ kind ≤ 12) (hp2 : 0 ≤ σ 2 (229 + k.toNat) ∧ σ 2 (229 + k.toNat) ≤ 52) (hp3 : MSK (σ 2)) (hp4 : 0 ≤ σ 2 (151 + 13 * k.toNat + kind.toNat) ∧ σ 2 (151 + 13 * k.toNat + kind.toNat) ≤ 1000) (hQ : ∀ σ' : xS, Fr [2] [] σ σ' → (σ' 2 = learnF (σ 2) k.toNat kind) → Q none σ') : xT kX11_learns [xvr 0, xvi k, xvi kind] σ Q := by
  refine ⟨Nat.le_of_ble_eq_true rfl, fun X hX => ?_⟩
  show X 0 [xvr 0, xvi k, xvi kind, xvu, xvu] σ
  have hF : Fr [2] [] σ σ := Fr.rf
  refine hX 400 0 _ _ ?_
  intro z1 t1 e1 l1 h1
  try have w1 : t1 = 0 := by omega
  refine And.intro (rfl) (And.intro (⟨by omega, by omega⟩) ?_)
  intro v2 e2 l2 h2
  have e2 : v2 = σ 2 z1.toNat := e2
  rw [show z1.toNat = 229 + k.toNat from by omega] at e2
  refine And.intro (fun c3 => ?_) (fun c3 => ?_)
  · intro z4 t4 e4 l4 h4
    try have w4 : t4 = 0 := by omega
    intro z5 t5 e5 l5 h5
    try have w5 : t5 = 0 := by omega
    refine And.intro (Nat.le_of_ble_eq_true rfl) ?_
    show xw _ _ _ _ _ _ _ _ _ _ [xvr 0, xvi k, xvi kind, xvi z5, xvu] _ _
    refine And.intro (Nat.le_of_ble_eq_true rfl) ?_
    show xw _ _ _ _ _ _ _ _ _ _ [xvr 0, xvi k, xvi kind, xvi z5, xvi 0] _ _
    have lp_26 : ∀ (m26 : Nat) (i : Int), ((52 - i).toNat) = m26 → ((0 ≤ i ∧ i ≤ σ 2 (229 + k.toNat)) ∧ ∀ j : Nat, (j : Int) < i → ¬ bF (σ 2 (235 + 52 * k.toNat + j)) kind = 0) → X 26 [xvr 0, xvi k, xvi kind, xvi z5, xvi i] σ := by
      intro m26
      induction m26 using Nat.strongRecOn with
      | _ m26 ih_26 =>
      intro i hm_26 hv_26
      obtain ⟨hv_26, hnb⟩ := hv_26
      refine hX 400 26 _ _ ?_
      have lp_63 : ∀ (_ : Unit), (i = σ 2 (229 + k.toNat) ∨ bF (σ 2 (235 + 52 * k.toNat + i.toNat)) kind = 0) → X 63 [xvr 0, xvi k, xvi kind, xvi z5, xvi i] σ := by
        intro _ hv_63
        refine hX 400 63 _ _ ?_
        have lp_95 : ∀ (i2 : Int) (s1 : xS), (Fr [2] [] σ s1 ∧ ((i = σ 2 (229 + k.toNat) ∧ i2 = 0 ∧ s1 2 = up (σ 2) (547 + k.toNat) (wr (σ 2 (547 + k.toNat) + 1))) ∨ (¬ i = σ 2 (229 + k.toNat) ∧ i2 = i ∧ s1 2 = σ 2)) ∧ (0 ≤ i2 ∧ i2 ≤ σ 2 (229 + k.toNat))) → X 95 [xvr 0, xvi k, xvi kind, xvi z5, xvi i2] s1 := by
          intro i2 s1 hv_95
          obtain ⟨hF, hg, hi2⟩ := hv_95
          have g229 : s1 2 (229 + k.toNat) = σ 2 (229 + k.toNat) := by
            rcases hg with ⟨_, _, g⟩ | ⟨_, _, g⟩
            · rw [g, up_n (by omega)]
            · rw [g]
          have gkn : s1 2 (151 + 13 * k.toNat + kind.toNat) = σ 2 (151 + 13 * k.toNat + kind.toNat) := by
            rcases hg with ⟨_, _, g⟩ | ⟨_, _, g⟩
            · rw [g, up_n (by omega)]
            · rw [g]
          refine hX 400 95 _ _ ?_
          intro z9 t9 e9 l9 h9
          try have w9 : t9 = 0 := by omega
          refine And.intro (rfl) (And.intro (⟨by omega, by omega⟩) ?_)
          intro v10 e10 l10 h10
          have e10 : v10 = s1 2 z9.toNat := e10
          rw [show z9.toNat = 229 + k.toNat from by omega] at e10
          intro z11 t11 e11 l11 h11
          try have w11 : t11 = 0 := by omega
          refine And.intro (rfl) (And.intro (⟨by omega, by omega⟩) ?_)
          have hF := hF.pt (t := 2) (j := z9.toNat) (v := z11) (by decide) (by decide)
          have lp_109 : ∀ (m109 : Nat) (i3 : Int) (s2 : xS), ((52 - i3).toNat) = m109 → (Fr [2] [] σ s2 ∧ s2 2 = shfF (s1 2) k.toNat i2.toNat i3.toNat ∧ (i2 ≤ i3 ∧ (i3 < σ 2 (229 + k.toNat) ∨ i3 = i2) ∧ i3 ≤ 52)) → X 109 [xvr 0, xvi k, xvi kind, xvi z5, xvi i3] s2 := by
            intro m109
            induction m109 using Nat.strongRecOn with
            | _ m109 ih_109 =>
            intro i3 s2 hm_109 hv_109
            obtain ⟨hF, hS, hv_109⟩ := hv_109
            have s229 : s2 2 (229 + k.toNat) = σ 2 (229 + k.toNat) - 1 := by rw [hS]; unfold shfF; rw [if_pos rfl, g229]
            refine hX 400 109 _ _ ?_
            intro z14 t14 e14 l14 h14
            try have w14 : t14 = 0 := by omega
            refine And.intro (rfl) (And.intro (⟨by omega, by omega⟩) ?_)
            intro v15 e15 l15 h15
            have e15 : v15 = s2 2 z14.toNat := e15
            rw [show z14.toNat = 229 + k.toNat from by omega] at e15
            refine And.intro (fun c16 => ?_) (fun c16 => ?_)
            · intro z17 t17 e17 l17 h17
              try have w17 : t17 = 0 := by omega
              intro z18 t18 e18 l18 h18
              try have w18 : t18 = 0 := by omega
              intro z19 t19 e19 l19 h19
              try have w19 : t19 = 0 := by omega
              refine And.intro (rfl) (And.intro (⟨by omega, by omega⟩) ?_)
              intro v20 e20 l20 h20
              have e20 : v20 = s2 2 z19.toNat := e20
              rw [show z19.toNat = 151 + 13 * k.toNat + kind.toNat from by omega, hS] at e20
              have h16 : v20 = s1 2 (151 + 13 * k.toNat + kind.toNat) := by rw [e20]; unfold shfF; rw [if_neg (by omega), if_neg (by omega)]
              intro z21 t21 e21 l21 h21
              try have w21 : t21 = 0 := by omega
              refine And.intro (rfl) (And.intro (⟨by omega, by omega⟩) ?_)
              have hF := hF.pt (t := 2) (j := z19.toNat) (v := z21) (by decide) (by decide)
              refine And.intro rfl (And.intro rfl ?_)
              have hE : (xput s2 2 z19.toNat z21) 2 = up (takesF (s1 2) k.toNat i2.toNat) (151 + 13 * k.toNat + kind.toNat) (s1 2 (151 + 13 * k.toNat + kind.toNat) + 1) := by
                show xput s2 2 z19.toNat z21 2 = _
                rw [xput_up, hS, shfF_e (by omega), show z19.toNat = 151 + 13 * k.toNat + kind.toNat from by omega, show z21 = s1 2 (151 + 13 * k.toNat + kind.toNat) + 1 from by omega]
              refine hQ _ hF (hE.trans ?_)
              unfold learnF
              rw [if_neg (show ¬ σ 2 (229 + k.toNat) = 0 from by omega)]
              rcases hg with ⟨g1, g2, g3⟩ | ⟨g1, g2, g3⟩
              · rw [show ffx (σ 2) k.toNat kind (σ 2 (229 + k.toNat)).toNat 0 = (σ 2 (229 + k.toNat)).toNat from (ffx_no _ 0 (fun j _ hj => hnb j (by omega))).trans (by omega), if_pos rfl, g3, g2, takesF_up (by omega) (by omega) (by omega), up_n (show 151 + 13 * k.toNat + kind.toNat ≠ 547 + k.toNat from by omega)]
                rfl
              · rw [show ffx (σ 2) k.toNat kind (σ 2 (229 + k.toNat)).toNat 0 = i.toNat from ffx_hit _ 0 (Nat.zero_le _) (by omega) (fun j _ hj => hnb j (by omega)) (by rcases hv_63 with q | q; exact absurd q g1; exact q), if_neg (by omega), g3, g2]
            · intro z23 t23 e23 l23 h23
              try have w23 : t23 = 0 := by omega
              intro z24 t24 e24 l24 h24
              try have w24 : t24 = 0 := by omega
              intro z25 t25 e25 l25 h25
              try have w25 : t25 = 0 := by omega
              refine And.intro (rfl) (And.intro (⟨by omega, by omega⟩) ?_)
              intro v26 e26 l26 h26
              have e26 : v26 = s2 2 z25.toNat := e26
              rw [show z25.toNat = 235 + 52 * k.toNat + i3.toNat + 1 from by omega, hS] at e26
              have h14 : v26 = s1 2 (235 + 52 * k.toNat + i3.toNat + 1) := by rw [e26]; unfold shfF; rw [if_neg (by omega), if_neg (by omega)]
              refine And.intro (rfl) (And.intro (⟨by omega, by omega⟩) ?_)
              have hF := hF.pt (t := 2) (j := z23.toNat) (v := v26) (by decide) (by decide)
              intro z28 t28 e28 l28 h28
              try have w28 : t28 = 0 := by omega
              show xw _ _ _ _ _ _ _ _ _ _ [xvr 0, xvi k, xvi kind, xvi z5, xvi z28] _ _
              exact ih_109 _ (show (52 - z28).toNat < m109 from by omega) z28 (xput s2 2 z23.toNat v26) rfl ⟨hF, (by
                        show xput s2 2 z23.toNat v26 2 = _
                        rw [xput_up, hS, show z23.toNat = 235 + 52 * k.toNat + i3.toNat from by omega, show z28.toNat = i3.toNat + 1 from by omega, ← shfF_s (by omega), show v26 = s1 2 (235 + 52 * k.toNat + i3.toNat + 1) from by omega]), by omega⟩
          exact lp_109 _ i2 (xput s1 2 z9.toNat z11) rfl ⟨hF, (by
                    show xput s1 2 z9.toNat z11 2 = _
                    rw [xput_up, shfF_z, show z9.toNat = 229 + k.toNat from by omega, show z11 = s1 2 (229 + k.toNat) - 1 from by omega]), by omega⟩
        intro z29 t29 e29 l29 h29
        try have w29 : t29 = 0 := by omega
        refine And.intro (rfl) (And.intro (⟨by omega, by omega⟩) ?_)
        intro v30 e30 l30 h30
        have e30 : v30 = σ 2 z29.toNat := e30
        rw [show z29.toNat = 229 + k.toNat from by omega] at e30
        refine And.intro (fun c31 => ?_) (fun c31 => ?_)
        · exact lp_95 i σ ⟨hF, Or.inr ⟨by omega, rfl, rfl⟩, by omega⟩
        · refine And.intro (Nat.le_of_ble_eq_true rfl) ?_
          show xw _ _ _ _ _ _ _ _ _ _ [xvr 0, xvi k, xvi kind, xvi z5, xvi 0] _ _
          intro z32 t32 e32 l32 h32
          try have w32 : t32 = 0 := by omega
          refine And.intro (rfl) (And.intro (⟨by omega, by omega⟩) ?_)
          intro v33 e33 l33 h33
          have e33 : v33 = σ 2 z32.toNat := e33
          rw [show z32.toNat = 547 + k.toNat from by omega] at e33
          intro z34 t34 e34 l34 h34
          try have w34 : t34 = 0 := by omega
          refine And.intro (rfl) (And.intro (⟨by omega, by omega⟩) ?_)
          have hF := hF.pt (t := 2) (j := z32.toNat) (v := z34) (by decide) (by decide)
          exact lp_95 0 (xput σ 2 z32.toNat z34) ⟨hF, Or.inl ⟨by omega, rfl, by
                    show xput σ 2 z32.toNat z34 2 = _
                    rw [xput_up, show z32.toNat = 547 + k.toNat from by omega, show z34 = wr (σ 2 (547 + k.toNat) + 1) from by unfold wr; omega]⟩, by omega⟩
      intro z36 t36 e36 l36 h36
      try have w36 : t36 = 0 := by omega
      refine And.intro (rfl) (And.intro (⟨by omega, by omega⟩) ?_)
      intro v37 e37 l37 h37
      have e37 : v37 = σ 2 z36.toNat := e37
      rw [show z36.toNat = 229 + k.toNat from by omega] at e37
      refine And.intro (fun c38 => ?_) (fun c38 => ?_)
      · exact lp_63 () (by omega)
      · intro z39 t39 e39 l39 h39
        try have w39 : t39 = 0 := by omega
        refine And.intro (rfl) (And.intro (⟨by omega, by omega⟩) ?_)
        intro v40 e40 l40 h40
        have e40 : v40 = σ 2 z39.toNat := e40
        rw [show z39.toNat = 235 + 52 * k.toNat + i.toNat from by omega] at e40
        have hm := hp3 k.toNat i.toNat (by omega) (by omega)
        refine s_bitOfF (σ := σ) (set := v40) (kk := kind) (by omega) hp1 (fun r41 p41 => ?_)
        have hb0 := bF_r v40 kind
        have hbe : bF v40 kind = bF (σ 2 (235 + 52 * k.toNat + i.toNat)) kind := by rw [show v40 = σ 2 (235 + 52 * k.toNat + i.toNat) from by omega]
        refine And.intro (fun c42 => ?_) (fun c42 => ?_)
        · exact lp_63 () (by omega)
        · intro z43 t43 e43 l43 h43
          try have w43 : t43 = 0 := by omega
          show xw _ _ _ _ _ _ _ _ _ _ [xvr 0, xvi k, xvi kind, xvi z5, xvi z43] _ _
          exact ih_26 _ (show (52 - z43).toNat < m26 from by omega) z43 rfl ⟨by omega, fun j hj => by
                    by_cases e : (j : Int) = i
                    · rw [show j = i.toNat from by omega]; omega
                    · exact hnb j (by omega)⟩
    exact lp_26 _ 0 rfl ⟨by omega, fun j hj => by omega⟩
  · refine And.intro rfl (And.intro rfl ?_)
    exact hQ _ hF (by unfold learnF; rw [if_pos (by omega)])
