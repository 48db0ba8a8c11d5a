set_option maxHeartbeats 4000000 in
set_option maxRecDepth 100000 in
theorem s_gamesOfF {σ : xS} {i j n fr : Int} {Q : Option xV → xS → Prop} (hp0 : 1 ≤ σ 2 0 ∧ σ 2 0 ≤ 13) (hp1 : 2 ≤ σ 2 1 ∧ σ 2 1 ≤ 6) (hp2 : 0 ≤ σ 2 3 ∧ σ 2 3 ≤ 9) (hp3 : 1 ≤ n ∧ n ≤ 30) (hp4 : σ 2 2 = 0 ∨ σ 2 2 = 1) (hp5 : 5 * σ 2 1 ≤ 4 * σ 2 0) (hQ : ∀ r : Int, ∀ σ' : xS, Fr [2, 7, 9, 20, 21] [24, 49, 51] σ σ' → (σ' 2 = σ 2 ∧ r = gmW (σ 2) i j fr n.toNat ∧ σ' 0 51 = gmA (σ 2) i j fr n.toNat ∧ σ' 7 = σ 7 ∧ σ' 0 24 = σ 0 24) → Q (some (xvi r)) σ') : xT kX11_gamesOf [xvr 0, xvi i, xvi j, xvi n, xvi fr] σ Q := by
  refine ⟨Nat.le_of_ble_eq_true rfl, fun X hX => ?_⟩
  show X 0 [xvr 0, xvi i, xvi j, xvi n, xvi fr, xvu, xvu, xvu, xvu] σ
  have hF : Fr [2, 7, 9, 20, 21] [24, 49, 51] σ σ := Fr.rf
  refine hX 400 0 _ _ ?_
  refine s_tries (σ := σ) (fun σ1 f1 p1 => ?_)
  have hF := hF.tr f1 (by decide) (by decide)
  have t2 : σ1 2 = σ 2 := f1.1 2 (by decide) (by decide)
  refine And.intro (Nat.le_of_ble_eq_true rfl) ?_
  show xw _ _ _ _ _ _ _ _ _ _ [xvr 0, xvi i, xvi j, xvi n, xvi fr, xvi 0, xvu, xvu, xvu] _ _
  have hF := hF.p (j := 51) (v := 0) (by decide)
  refine And.intro (Nat.le_of_ble_eq_true rfl) ?_
  show xw _ _ _ _ _ _ _ _ _ _ [xvr 0, xvi i, xvi j, xvi n, xvi fr, xvi 0, xvi 0, xvu, xvu] _ _
  have lp_15 : ∀ (m15 : Nat) (won : Int) (g : Int) (u3_7 : xV) (u3_8 : xV) (s1 : xS), ((n - g).toNat) = m15 → (Fr [2, 7, 9, 20, 21] [24, 49, 51] σ s1 ∧ (∀ q : Nat, (q < 4 ∨ 584 ≤ q) → s1 2 q = σ 2 q) ∧ (∀ q : Nat, q < 580 → s1 9 (0 + q) = σ 2 (4 + q)) ∧ (s1 7 = σ 7 ∧ s1 0 24 = σ 0 24) ∧ won = gmW (σ 2) i j fr g.toNat ∧ s1 0 51 = gmA (σ 2) i j fr g.toNat ∧ ((0 ≤ g ∧ g ≤ n) ∧ (0 ≤ won ∧ won ≤ g) ∧ (0 ≤ s1 0 51 ∧ s1 0 51 ≤ 300 * g))) → X 15 [xvr 0, xvi i, xvi j, xvi n, xvi fr, xvi won, xvi g, u3_7, u3_8] s1 := by
    intro m15
    induction m15 using Nat.strongRecOn with
    | _ m15 ih_15 =>
    intro won g u3_7 u3_8 s1 hm_15 hv_15
    obtain ⟨hF, hL, hB, h7, hW, hSa, hv_15⟩ := hv_15
    refine hX 400 15 _ _ ?_
    refine And.intro (fun c4 => ?_) (fun c4 => ?_)
    · refine s_back (σ := s1) (fun σ5 f5 p5 => ?_)
      have hfin : σ5 2 = σ 2 := by
        funext q
        by_cases c : q < 4 ∨ 584 ≤ q
        · rw [p5.2 q c]; exact hL q c
        · have z := p5.1 (q - 4) (by omega)
          rw [show 4 + (q - 4) = q from by omega, hB (q - 4) (by omega), show 4 + (q - 4) = q from by omega] at z
          exact z
      have h51 : σ5 0 51 = s1 0 51 := f5.2 51 (by decide)
      have hb7 : σ5 7 = σ 7 ∧ σ5 0 24 = σ 0 24 := ⟨(f5.1 7 (by decide) (by decide)).trans h7.1, (f5.2 24 (by decide)).trans h7.2⟩
      have hF := hF.tr f5 (by decide) (by decide)
      refine And.intro rfl ?_
      exact hQ _ _ hF ⟨hfin, by rw [hW, show g.toNat = n.toNat from by omega], by rw [h51, hSa, show g.toNat = n.toNat from by omega], hb7.1, hb7.2⟩
    · intro z6 t6 e6 l6 h6
      try have w6 : t6 = 0 := by omega
      have hz : z6 = wr (fr + g) := by unfold wr; omega
      have d0 := hL 0 (by omega)
      have d1 := hL 1 (by omega)
      have d2 := hL 2 (by omega)
      have d3 := hL 3 (by omega)
      refine s_dealsF (σ := s1) (n := 5) (fr := z6) (by omega) (by omega) (by omega) (by omega) (by omega) (by omega) (fun σ7 f7 p7 => ?_)
      have hdc : dealF (s1 2) 5 z6 = dealF (σ 2) 5 z6 := dealF_c (fun i hi => hL i hi)
      rw [hdc] at p7
      obtain ⟨hTd, hOd, _, _⟩ := dealF_v (f := σ 2) (n := 5) (seed := z6) (by omega) (by omega) (by omega) (by omega) hp4
      have d51 : σ7 0 51 = s1 0 51 := f7.2 51 (by decide)
      have d9 : σ7 9 = s1 9 := f7.1 9 (by decide) (by decide)
      have d7 : σ7 7 = σ 7 ∧ σ7 0 24 = σ 0 24 := ⟨(f7.1 7 (by decide) (by decide)).trans h7.1, (f7.2 24 (by decide)).trans h7.2⟩
      have d1b : σ7 2 1 = σ 2 1 := by rw [p7]; exact hOd 1 (by omega)
      have hF := hF.tr f7 (by decide) (by decide)
      refine And.intro (Nat.le_of_ble_eq_true rfl) ?_
      show xw _ _ _ _ _ _ _ _ _ _ [xvr 0, xvi i, xvi j, xvi n, xvi fr, xvi won, xvi g, xvi 0, u3_8] _ _
      have lp_34 : ∀ (m34 : Nat) (k : Int) (u8_8 : xV) (s2 : xS), ((6 - k).toNat) = m34 → (Fr [2, 7, 9, 20, 21] [24, 49, 51] σ s2 ∧ s2 2 = dealF (σ 2) 5 z6 ∧ s2 9 = s1 9 ∧ s2 0 51 = s1 0 51 ∧ (s2 7 = σ 7 ∧ s2 0 24 = σ 0 24) ∧ (∀ q : Nat, (q : Int) < k → s2 20 q = rlF i j q) ∧ (0 ≤ k ∧ k ≤ σ 2 1)) → X 34 [xvr 0, xvi i, xvi j, xvi n, xvi fr, xvi won, xvi g, xvi k, u8_8] s2 := by
        intro m34
        induction m34 using Nat.strongRecOn with
        | _ m34 ih_34 =>
        intro k u8_8 s2 hm_34 hv_34
        obtain ⟨hF, q2x, q9x, q51x, q7x, hRl, hv_34⟩ := hv_34
        have s2p : s2 2 1 = σ 2 1 := by rw [q2x]; exact hOd 1 (by omega)
        refine hX 400 34 _ _ ?_
        refine And.intro (rfl) (And.intro (⟨by omega, by omega⟩) ?_)
        intro v9 e9 l9 h9
        have e9 : v9 = s2 2 1 := e9
        refine And.intro (fun c10 => ?_) (fun c10 => ?_)
        · intro v11 e11 l11 h11
          have e11 : v11 = s2 0 51 := e11
          have hTs : TV (s2 2) := by rw [q2x]; exact hTd
          have s21 : s2 2 1 = σ 2 1 := by rw [q2x]; exact hOd 1 (by omega)
          refine s_playsF (R := rlF i j) (σ := s2) (n := 300) (told := 0) hTs (by omega) (by omega) (fun q hq => hRl q (by omega)) (fun r12 σ12 f12 p12 => ?_)
          obtain ⟨⟨hTe, hOe, hre⟩, hEe, hDe, hTo⟩ := p12
          have x7 : σ12 7 = σ 7 ∧ σ12 0 24 = σ 0 24 := by
            rcases hTo with ⟨_, z1, z2⟩ | ⟨z, _⟩
            · exact ⟨z1.trans q7x.1, z2.trans q7x.2⟩
            · omega
          rw [q2x] at hEe hDe
          have hEe : σ12 2 = gmE (σ 2) i j z6 := hEe
          have x51 : σ12 0 51 = s2 0 51 := f12.2 51 (by decide)
          have x9 : σ12 9 = s2 9 := f12.1 9 (by decide) (by decide)
          have x1 : σ12 2 1 = σ 2 1 := (hOe 1 (by omega)).trans s21
          have hLe : ∀ q : Nat, (q < 4 ∨ 584 ≤ q) → σ12 2 q = σ 2 q := fun q hq => (hOe q (by omega)).trans (by rw [q2x]; exact hOd q hq)
          have hF := hF.tr f12 (by decide) (by decide)
          intro z13 t13 e13 l13 h13
          try have w13 : t13 = 0 := by omega
          have hF := hF.p (j := 51) (v := z13) (by decide)
          refine And.intro (Nat.le_of_ble_eq_true rfl) ?_
          show xw _ _ _ _ _ _ _ _ _ _ [xvr 0, xvi i, xvi j, xvi n, xvi fr, xvi won, xvi g, xvi 1, u8_8] _ _
          refine And.intro (Nat.le_of_ble_eq_true rfl) ?_
          show xw _ _ _ _ _ _ _ _ _ _ [xvr 0, xvi i, xvi j, xvi n, xvi fr, xvi won, xvi g, xvi 1, xvi 1] _ _
          have lp_91 : ∀ (m91 : Nat) (is : Int) (k2 : Int), ((6 - k2).toNat) = m91 → ((1 ≤ k2 ∧ k2 ≤ σ 2 1) ∧ ((is = 1 ∧ ∀ q : Nat, 1 ≤ q → (q : Int) < k2 → bksF (σ12 2) q < bksF (σ12 2) 0) ∨ (is = 0 ∧ ∃ q : Nat, 1 ≤ q ∧ (q : Int) < k2 ∧ ¬ bksF (σ12 2) q < bksF (σ12 2) 0))) → X 91 [xvr 0, xvi i, xvi j, xvi n, xvi fr, xvi won, xvi g, xvi is, xvi k2] (xput σ12 0 51 z13) := by
            intro m91
            induction m91 using Nat.strongRecOn with
            | _ m91 ih_91 =>
            intro is k2 hm_91 hv_91
            obtain ⟨hv_91, hI⟩ := hv_91
            have his : is = 0 ∨ is = 1 := by
              rcases hI with ⟨z, _⟩ | ⟨z, _⟩
              · exact Or.inr z
              · exact Or.inl z
            replace hI : OPQ _ := hI
            refine hX 400 91 _ _ ?_
            refine And.intro (rfl) (And.intro (⟨by omega, by omega⟩) ?_)
            intro v16 e16 l16 h16
            have e16 : v16 = σ12 2 1 := e16
            refine And.intro (fun c17 => ?_) (fun c17 => ?_)
            · refine And.intro (fun c18 => ?_) (fun c18 => ?_)
              · intro z19 t19 e19 l19 h19
                try have w19 : t19 = 0 := by omega
                refine And.intro (Nat.le_of_ble_eq_true rfl) ?_
                show xw _ _ _ _ _ _ _ _ _ _ [xvr 0, xvi i, xvi j, xvi n, xvi fr, xvi z19, xvi g, xvi is, xvi k2] _ _
                intro z20 t20 e20 l20 h20
                try have w20 : t20 = 0 := by omega
                show xw _ _ _ _ _ _ _ _ _ _ [xvr 0, xvi i, xvi j, xvi n, xvi fr, xvi z19, xvi z20, xvi is, xvi k2] _ _
                exact ih_15 _ (show (n - z20).toNat < m15 from by omega) z19 z20 (xvi is) (xvi k2) (xput σ12 0 51 z13) rfl (by
                            have hah : z19 - won = ahI (gmE (σ 2) i j z6) := by
                              rw [← hEe]
                              apply ahI_e
                              rcases hI with ⟨a, z⟩ | ⟨a, q, q1, q2, q3⟩
                              · exact Or.inl ⟨by omega, fun q hq hne => z q (by omega) (by omega)⟩
                              · exact Or.inr ⟨by omega, fun z => by
                                  have y := z q (by omega) (by omega)
                                  omega⟩
                            refine ⟨hF, hLe, (fun q hq => by show σ12 9 (0 + q) = _; rw [x9, q9x]; exact hB q hq), x7, ?_, ?_, ?_⟩
                            · rw [show z20.toNat = g.toNat + 1 from by omega, gmW_s, show ((g.toNat : Nat) : Int) = g from by omega, ← hz, ← hah]; omega
                            · show z13 = gmA (σ 2) i j fr z20.toNat
                              rw [show z20.toNat = g.toNat + 1 from by omega, gmA_s, show ((g.toNat : Nat) : Int) = g from by omega, ← hz, ← hSa]
                              have hDe2 : r12 = plyD (dealF (σ 2) 5 z6) (rlF i j) 300 := hDe
                              omega
                            · show (0 ≤ z20 ∧ z20 ≤ n) ∧ (0 ≤ z19 ∧ z19 ≤ z20) ∧ (0 ≤ z13 ∧ z13 ≤ 300 * z20)
                              clear hI
                              omega)
              · intro z21 t21 e21 l21 h21
                try have w21 : t21 = 0 := by omega
                refine And.intro (Nat.le_of_ble_eq_true rfl) ?_
                show xw _ _ _ _ _ _ _ _ _ _ [xvr 0, xvi i, xvi j, xvi n, xvi fr, xvi z21, xvi g, xvi is, xvi k2] _ _
                intro z22 t22 e22 l22 h22
                try have w22 : t22 = 0 := by omega
                show xw _ _ _ _ _ _ _ _ _ _ [xvr 0, xvi i, xvi j, xvi n, xvi fr, xvi z21, xvi z22, xvi is, xvi k2] _ _
                exact ih_15 _ (show (n - z22).toNat < m15 from by omega) z21 z22 (xvi is) (xvi k2) (xput σ12 0 51 z13) rfl (by
                            have hah : z21 - won = ahI (gmE (σ 2) i j z6) := by
                              rw [← hEe]
                              apply ahI_e
                              rcases hI with ⟨a, z⟩ | ⟨a, q, q1, q2, q3⟩
                              · exact Or.inl ⟨by omega, fun q hq hne => z q (by omega) (by omega)⟩
                              · exact Or.inr ⟨by omega, fun z => by
                                  have y := z q (by omega) (by omega)
                                  omega⟩
                            refine ⟨hF, hLe, (fun q hq => by show σ12 9 (0 + q) = _; rw [x9, q9x]; exact hB q hq), x7, ?_, ?_, ?_⟩
                            · rw [show z22.toNat = g.toNat + 1 from by omega, gmW_s, show ((g.toNat : Nat) : Int) = g from by omega, ← hz, ← hah]; omega
                            · show z13 = gmA (σ 2) i j fr z22.toNat
                              rw [show z22.toNat = g.toNat + 1 from by omega, gmA_s, show ((g.toNat : Nat) : Int) = g from by omega, ← hz, ← hSa]
                              have hDe2 : r12 = plyD (dealF (σ 2) 5 z6) (rlF i j) 300 := hDe
                              omega
                            · show (0 ≤ z22 ∧ z22 ≤ n) ∧ (0 ≤ z21 ∧ z21 ≤ z22) ∧ (0 ≤ z13 ∧ z13 ≤ 300 * z22)
                              clear hI
                              omega)
            · refine And.intro (fun c23 => ?_) (fun c23 => ?_)
              · refine hX 400 125 _ _ ?_
                refine And.intro (Nat.le_of_ble_eq_true rfl) ?_
                show xw _ _ _ _ _ _ _ _ _ _ [xvr 0, xvi i, xvi j, xvi n, xvi fr, xvi won, xvi g, xvi 0, xvi k2] _ _
                intro z24 t24 e24 l24 h24
                try have w24 : t24 = 0 := by omega
                show xw _ _ _ _ _ _ _ _ _ _ [xvr 0, xvi i, xvi j, xvi n, xvi fr, xvi won, xvi g, xvi 0, xvi z24] _ _
                exact ih_91 _ (show (6 - z24).toNat < m91 from by omega) 0 z24 rfl ⟨by omega, Or.inr ⟨rfl, by
                              rcases hI with ⟨a, _⟩ | ⟨_, z⟩
                              · exact ⟨k2.toNat, by omega, by omega, by rw [show ((k2.toNat : Nat) : Int) = k2 from by omega]; omega⟩
                              · obtain ⟨q, q1, q2, q3⟩ := z
                                exact ⟨q, q1, by omega, q3⟩⟩⟩
              · refine s_booksOfF (σ := (xput σ12 0 51 z13)) (k := 0) (by omega) (fun r25 p25 => ?_)
                have p25 : r25 = bksF (σ12 2) 0 := p25
                have hbr25 := bkq_r (f := σ12 2) (k := 0) 13
                refine s_booksOfF (σ := (xput σ12 0 51 z13)) (k := k2) (by omega) (fun r26 p26 => ?_)
                have p26 : r26 = bksF (σ12 2) k2 := p26
                have hbr26 := bkq_r (f := σ12 2) (k := k2) 13
                refine And.intro (fun c27 => ?_) (fun c27 => ?_)
                · refine hX 400 125 _ _ ?_
                  refine And.intro (Nat.le_of_ble_eq_true rfl) ?_
                  show xw _ _ _ _ _ _ _ _ _ _ [xvr 0, xvi i, xvi j, xvi n, xvi fr, xvi won, xvi g, xvi 0, xvi k2] _ _
                  intro z28 t28 e28 l28 h28
                  try have w28 : t28 = 0 := by omega
                  show xw _ _ _ _ _ _ _ _ _ _ [xvr 0, xvi i, xvi j, xvi n, xvi fr, xvi won, xvi g, xvi 0, xvi z28] _ _
                  exact ih_91 _ (show (6 - z28).toNat < m91 from by omega) 0 z28 rfl ⟨by omega, Or.inr ⟨rfl, by
                                rcases hI with ⟨a, _⟩ | ⟨_, z⟩
                                · exact ⟨k2.toNat, by omega, by omega, by rw [show ((k2.toNat : Nat) : Int) = k2 from by omega]; omega⟩
                                · obtain ⟨q, q1, q2, q3⟩ := z
                                  exact ⟨q, q1, by omega, q3⟩⟩⟩
                · refine And.intro (Nat.le_of_ble_eq_true rfl) ?_
                  show xw _ _ _ _ _ _ _ _ _ _ [xvr 0, xvi i, xvi j, xvi n, xvi fr, xvi won, xvi g, xvi 1, xvi k2] _ _
                  intro z29 t29 e29 l29 h29
                  try have w29 : t29 = 0 := by omega
                  show xw _ _ _ _ _ _ _ _ _ _ [xvr 0, xvi i, xvi j, xvi n, xvi fr, xvi won, xvi g, xvi 1, xvi z29] _ _
                  exact ih_91 _ (show (6 - z29).toNat < m91 from by omega) 1 z29 rfl ⟨by omega, Or.inl ⟨rfl, fun q h0 hq => by
                                by_cases e : (q : Int) = k2
                                · rw [show ((q : Nat) : Int) = k2 from e]; omega
                                · rcases hI with ⟨_, z⟩ | ⟨z, _⟩
                                  · exact z q h0 (by omega)
                                  · omega⟩⟩
          exact lp_91 _ 1 1 rfl ⟨by omega, Or.inl ⟨rfl, fun q h1 h2 => by omega⟩⟩
        · refine And.intro (fun c30 => ?_) (fun c30 => ?_)
          · refine And.intro (rfl) (And.intro (⟨by omega, by omega⟩) ?_)
            have hF := hF.pt (t := 20) (j := k.toNat) (v := j) (by decide) (by decide)
            intro z32 t32 e32 l32 h32
            try have w32 : t32 = 0 := by omega
            show xw _ _ _ _ _ _ _ _ _ _ [xvr 0, xvi i, xvi j, xvi n, xvi fr, xvi won, xvi g, xvi z32, u8_8] _ _
            exact ih_34 _ (show (6 - z32).toNat < m34 from by omega) z32 (u8_8) (xput s2 20 k.toNat j) rfl ⟨hF, q2x, q9x, q51x, q7x, (fun q hq => by
                          by_cases e : q = k.toNat
                          · rw [show q = k.toNat from by omega, xput_s]; unfold rlF; first | (rw [if_pos (by omega)]) | (rw [if_neg (by omega)])
                          · rw [xput_o (by omega)]; exact hRl q (by omega)), by omega⟩
          · refine And.intro (rfl) (And.intro (⟨by omega, by omega⟩) ?_)
            have hF := hF.pt (t := 20) (j := k.toNat) (v := i) (by decide) (by decide)
            intro z34 t34 e34 l34 h34
            try have w34 : t34 = 0 := by omega
            show xw _ _ _ _ _ _ _ _ _ _ [xvr 0, xvi i, xvi j, xvi n, xvi fr, xvi won, xvi g, xvi z34, u8_8] _ _
            exact ih_34 _ (show (6 - z34).toNat < m34 from by omega) z34 (u8_8) (xput s2 20 k.toNat i) rfl ⟨hF, q2x, q9x, q51x, q7x, (fun q hq => by
                          by_cases e : q = k.toNat
                          · rw [show q = k.toNat from by omega, xput_s]; unfold rlF; first | (rw [if_pos (by omega)]) | (rw [if_neg (by omega)])
                          · rw [xput_o (by omega)]; exact hRl q (by omega)), by omega⟩
      exact lp_34 _ 0 (u3_8) σ7 rfl ⟨hF, p7, d9, d51, d7, (fun q hq => by omega), by omega⟩
  exact lp_15 _ 0 0 (xvu) (xvu) (xput σ1 0 51 0) rfl ⟨hF, (fun q _ => by show σ1 2 q = σ 2 q; rw [t2]), (fun q hq => (p1.1 q hq : _)), ⟨f1.1 7 (by decide) (by decide), f1.2 24 (by decide)⟩, rfl, rfl, (show ((0 : Int) ≤ 0 ∧ 0 ≤ n) ∧ ((0 : Int) ≤ 0 ∧ (0 : Int) ≤ 0) ∧ ((0 : Int) ≤ 0 ∧ (0 : Int) ≤ 300 * 0) from by omega)⟩

