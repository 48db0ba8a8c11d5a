set_option maxHeartbeats 4000000 in
set_option maxRecDepth 100000 in
theorem s_refills {σ : xS} {k : Int} {Q : Option xV → xS → Prop} (hp0 : V0 (σ 2)) (hp1 : 0 ≤ k ∧ k < σ 2 1) (hQ : ∀ σ' : xS, Fr [2] [] σ σ' → (V0 (σ' 2) ∧ LQ (σ 2) (σ' 2)) → Q none σ') : xT kX11_refills [xvr 0, xvi k] σ Q := by
  refine ⟨Nat.le_of_ble_eq_true rfl, fun X hX => ?_⟩
  show X 0 [xvr 0, xvi k, xvu, xvu, xvu] σ
  have hF : Fr [2] [] σ σ := Fr.rf
  have lp_0 : ∀ (m0 : Nat) (u1_2 : xV) (u1_3 : xV) (u1_4 : xV) (s1 : xS), ((s1 2 7).toNat) = m0 → (Fr [2] [] σ s1 ∧ V0 (s1 2) ∧ LQ (σ 2) (s1 2)) → X 0 [xvr 0, xvi k, u1_2, u1_3, u1_4] s1 := by
    intro m0
    induction m0 using Nat.strongRecOn with
    | _ m0 ih_0 =>
    intro u1_2 u1_3 u1_4 s1 hm_0 hv_0
    obtain ⟨hF, hV, hL⟩ := hv_0
    have mm0 := hV.1.1; have mm1 := hV.1.2.1; have mm3 := hV.1.2.2.1; have mm7 := hV.1.2.2.2; have q0 : s1 2 0 = σ 2 0 := hL 0 (by omega) (by omega) (by omega); have q1 : s1 2 1 = σ 2 1 := hL 1 (by omega) (by omega) (by omega)
    refine hX 400 0 _ _ ?_
    refine s_cards (σ := s1) (k := k) (show V0 (s1 2) from hV) (show 0 ≤ k ∧ k ≤ 5 from by omega) (fun r2 p2 => ?_)
    have p2 : r2 = sm 13 (hd (s1 2) k.toNat) ∧ 0 ≤ r2 ∧ r2 ≤ 52 := p2
    refine And.intro (fun c3 => ?_) (fun c3 => ?_)
    · refine hX 400 97 _ _ ?_
      refine And.intro rfl (And.intro rfl ?_)
      exact hQ _ hF ⟨hV, hL⟩
    · refine And.intro (rfl) (And.intro (⟨by omega, by omega⟩) ?_)
      intro v4 e4 l4 h4
      have e4 : v4 = s1 2 7 := e4
      refine And.intro (fun c5 => ?_) (fun c5 => ?_)
      · refine hX 400 97 _ _ ?_
        refine And.intro rfl (And.intro rfl ?_)
        exact hQ _ hF ⟨hV, hL⟩
      · refine And.intro (rfl) (And.intro (⟨by omega, by omega⟩) ?_)
        intro v6 e6 l6 h6
        have e6 : v6 = s1 2 3 := e6
        refine And.intro (fun c7 => ?_) (fun c7 => ?_)
        · refine hX 400 97 _ _ ?_
          refine And.intro rfl (And.intro rfl ?_)
          exact hQ _ hF ⟨hV, hL⟩
        · refine And.intro (rfl) (And.intro (⟨by omega, by omega⟩) ?_)
          intro v8 e8 l8 h8
          have e8 : v8 = s1 2 3 := e8
          refine And.intro (rfl) (And.intro (⟨by omega, by omega⟩) ?_)
          intro v9 e9 l9 h9
          have e9 : v9 = s1 2 7 := e9
          refine And.intro (fun c10 => ?_) (fun c10 => ?_)
          · refine And.intro (rfl) (And.intro (⟨by omega, by omega⟩) ?_)
            intro v11 e11 l11 h11
            have e11 : v11 = s1 2 7 := e11
            refine And.intro (Nat.le_of_ble_eq_true rfl) ?_
            refine And.intro (Nat.le_of_ble_eq_true rfl) ?_
            have lp_62 : ∀ (m62 : Nat) (i : Int) (u12_4 : xV) (s2 : xS), ((52 - i).toNat) = m62 → (Fr [2] [] σ s2 ∧ V0 (s2 2) ∧ LQ (σ 2) (s2 2) ∧ s2 2 7 = s1 2 7 - i ∧ (0 ≤ i ∧ i ≤ v11)) → X 62 [xvr 0, xvi k, xvi v11, xvi i, u12_4] s2 := by
              intro m62
              induction m62 using Nat.strongRecOn with
              | _ m62 ih_62 =>
              intro i u12_4 s2 hm_62 hv_62
              obtain ⟨hF, hV, hL, h7, hv_62⟩ := hv_62
              have mm0 := hV.1.1; have mm1 := hV.1.2.1; have mm3 := hV.1.2.2.1; have mm7 := hV.1.2.2.2; have q0 : s2 2 0 = σ 2 0 := hL 0 (by omega) (by omega) (by omega); have q1 : s2 2 1 = σ 2 1 := hL 1 (by omega) (by omega) (by omega)
              refine hX 400 62 _ _ ?_
              refine And.intro (fun c13 => ?_) (fun c13 => ?_)
              · exact ih_0 _ (show ((s2 2 7)).toNat < m0 from by omega) (xvi v11) (xvi i) (u12_4) s2 rfl ⟨hF, hV, hL⟩
              · have hc8 := hV.c8 (by omega)
                refine s_draws (σ := s2) (k := k) hV (by omega) (by omega) (fun r14 σ14 f14 p14 => ?_)
                have hF := hF.tr f14 (by decide) (by decide)
                refine And.intro (Nat.le_of_ble_eq_true rfl) ?_
                refine s_adds (σ := σ14) (k := k) (mask := 0) (by omega) (by have i3 := otI (σ14 2) (k := k) (by omega); have a := hV.o51 (p := k.toNat) (by omega) (by omega) (by omega) p14.2; omega) (fun σ15 f15 p15 => ?_)
                have hF := hF.tr f15 (by decide) (by decide)
                obtain ⟨hV15, h715, hL15⟩ := hV.drA (p := k.toNat) (by omega) (by omega) (by omega) p14.2 (by rw [← show (229 + k).toNat = 229 + k.toNat from by omega]; exact p15)
                refine s_books (σ := σ15) (k := k) (kind := r14) (by omega) (by omega) hV15 (fun r16 σ16 f16 p16 => ?_)
                have hF := hF.tr f16 (by decide) (by decide)
                have h716 : σ16 2 7 = σ15 2 7 := p16.2.1 7 (by omega) (by omega) (by omega)
                intro z17 t17 e17 l17 h17
                try have w17 : t17 = 0 := by omega
                exact ih_62 _ (show (52 - z17).toNat < m62 from by omega) z17 (xvi r14) σ16 rfl ⟨hF, p16.1, hL.tr (hL15.tr p16.2.1.q), by omega, by omega⟩
            exact lp_62 _ 0 (u1_4) s1 rfl ⟨hF, hV, hL, by omega, by omega⟩
          · refine And.intro (rfl) (And.intro (⟨by omega, by omega⟩) ?_)
            intro v18 e18 l18 h18
            have e18 : v18 = s1 2 3 := e18
            refine And.intro (Nat.le_of_ble_eq_true rfl) ?_
            refine And.intro (Nat.le_of_ble_eq_true rfl) ?_
            have lp_62 : ∀ (m62 : Nat) (i : Int) (u19_4 : xV) (s2 : xS), ((52 - i).toNat) = m62 → (Fr [2] [] σ s2 ∧ V0 (s2 2) ∧ LQ (σ 2) (s2 2) ∧ s2 2 7 = s1 2 7 - i ∧ (0 ≤ i ∧ i ≤ v18)) → X 62 [xvr 0, xvi k, xvi v18, xvi i, u19_4] s2 := by
              intro m62
              induction m62 using Nat.strongRecOn with
              | _ m62 ih_62 =>
              intro i u19_4 s2 hm_62 hv_62
              obtain ⟨hF, hV, hL, h7, hv_62⟩ := hv_62
              have mm0 := hV.1.1; have mm1 := hV.1.2.1; have mm3 := hV.1.2.2.1; have mm7 := hV.1.2.2.2; have q0 : s2 2 0 = σ 2 0 := hL 0 (by omega) (by omega) (by omega); have q1 : s2 2 1 = σ 2 1 := hL 1 (by omega) (by omega) (by omega)
              refine hX 400 62 _ _ ?_
              refine And.intro (fun c20 => ?_) (fun c20 => ?_)
              · exact ih_0 _ (show ((s2 2 7)).toNat < m0 from by omega) (xvi v18) (xvi i) (u19_4) s2 rfl ⟨hF, hV, hL⟩
              · have hc8 := hV.c8 (by omega)
                refine s_draws (σ := s2) (k := k) hV (by omega) (by omega) (fun r21 σ21 f21 p21 => ?_)
                have hF := hF.tr f21 (by decide) (by decide)
                refine And.intro (Nat.le_of_ble_eq_true rfl) ?_
                refine s_adds (σ := σ21) (k := k) (mask := 0) (by omega) (by have i3 := otI (σ21 2) (k := k) (by omega); have a := hV.o51 (p := k.toNat) (by omega) (by omega) (by omega) p21.2; omega) (fun σ22 f22 p22 => ?_)
                have hF := hF.tr f22 (by decide) (by decide)
                obtain ⟨hV22, h722, hL22⟩ := hV.drA (p := k.toNat) (by omega) (by omega) (by omega) p21.2 (by rw [← show (229 + k).toNat = 229 + k.toNat from by omega]; exact p22)
                refine s_books (σ := σ22) (k := k) (kind := r21) (by omega) (by omega) hV22 (fun r23 σ23 f23 p23 => ?_)
                have hF := hF.tr f23 (by decide) (by decide)
                have h723 : σ23 2 7 = σ22 2 7 := p23.2.1 7 (by omega) (by omega) (by omega)
                intro z24 t24 e24 l24 h24
                try have w24 : t24 = 0 := by omega
                exact ih_62 _ (show (52 - z24).toNat < m62 from by omega) z24 (xvi r21) σ23 rfl ⟨hF, p23.1, hL.tr (hL22.tr p23.2.1.q), by omega, by omega⟩
            exact lp_62 _ 0 (u1_4) s1 rfl ⟨hF, hV, hL, by omega, by omega⟩
  exact lp_0 _ (xvu) (xvu) (xvu) σ rfl ⟨hF, hp0, LQ.rf⟩
set_option maxHeartbeats 4000000 in
set_option maxRecDepth 100000 in
theorem s_settles {σ : xS} {fr : Int} {Q : Option xV → xS → Prop} (hp0 : V0 (σ 2)) (hp1 : 0 ≤ fr ∧ fr ≤ 5) (hQ : ∀ σ' : xS, Fr [2] [] σ σ' → (V0 (σ' 2) ∧ (-1 ≤ σ' 2 4 ∧ σ' 2 4 < σ' 2 1) ∧ VT (σ' 2) ∧ L4 (σ 2) (σ' 2)) → Q none σ') : xT kX11_settles [xvr 0, xvi fr] σ Q := by
  refine ⟨Nat.le_of_ble_eq_true rfl, fun X hX => ?_⟩
  show X 0 [xvr 0, xvi fr, xvu, xvu] σ
  have hF : Fr [2] [] σ σ := Fr.rf
  refine hX 400 0 _ _ ?_
  have m1 := hp0.1.2.1
  refine And.intro (rfl) (And.intro (⟨by omega, by omega⟩) ?_)
  have hF := hF.pt (t := 2) (j := 4) (v := (-1)) (by decide) (by decide)
  refine And.intro (Nat.le_of_ble_eq_true rfl) ?_
  have lp_9 : ∀ (m9 : Nat) (i : Int) (u2_3 : xV) (s1 : xS), ((6 - i).toNat) = m9 → (Fr [2] [] σ s1 ∧ V0 (s1 2) ∧ -1 = s1 2 4 ∧ L4 (σ 2) (s1 2) ∧ (0 ≤ i ∧ i ≤ 6)) → X 9 [xvr 0, xvi fr, xvi i, u2_3] s1 := by
    intro m9
    induction m9 using Nat.strongRecOn with
    | _ m9 ih_9 =>
    intro i u2_3 s1 hm_9 hv_9
    obtain ⟨hF, hV, hT, hL, hv_9⟩ := hv_9
    have m1 := hV.1.2.1; have q1 : s1 2 1 = σ 2 1 := hL 1 (by omega) (by omega) (by omega) (by omega)
    refine hX 400 9 _ _ ?_
    refine And.intro (rfl) (And.intro (⟨by omega, by omega⟩) ?_)
    intro v3 e3 l3 h3
    have e3 : v3 = s1 2 1 := e3
    refine And.intro (fun c4 => ?_) (fun c4 => ?_)
    · refine And.intro rfl (And.intro rfl ?_)
      exact hQ _ hF ⟨hV, (show -1 ≤ s1 2 4 ∧ s1 2 4 < s1 2 1 from by omega), (fun h => absurd hT.symm h), hL⟩
    · intro z5 t5 e5 l5 h5
      try have w5 : t5 = 0 := by omega
      refine And.intro (rfl) (And.intro (⟨by omega, by omega⟩) ?_)
      intro v6 e6 l6 h6
      have e6 : v6 = s1 2 1 := e6
      refine And.intro (by omega) ?_
      intro z7 e7 f7 l7 h7
      have f7 := f7 (by omega) (by omega)
      have g7 := Int.emod_nonneg z5 (b := v6) (by omega); have k7 := Int.emod_lt_of_pos z5 (b := v6) (by omega); rw [← f7] at g7 k7
      refine And.intro (Nat.le_of_ble_eq_true rfl) ?_
      refine s_refills (σ := s1) (k := z7) hV (by omega) (fun σ8 f8 p8 => ?_)
      have hF := hF.tr f8 (by decide) (by decide)
      have hV := p8.1; have hT := hT.trans (p8.2 4 (by omega) (by omega) (by omega)).symm; have hL := hL.tr p8.2.l4
      have q1 : σ8 2 1 = σ 2 1 := hL 1 (by omega) (by omega) (by omega) (by omega)
      refine s_cards (σ := σ8) (k := z7) (show V0 (σ8 2) from hV) (show 0 ≤ z7 ∧ z7 ≤ 5 from by omega) (fun r9 p9 => ?_)
      have p9 : r9 = sm 13 (hd (σ8 2) z7.toNat) ∧ 0 ≤ r9 ∧ r9 ≤ 52 := p9
      refine And.intro (fun c10 => ?_) (fun c10 => ?_)
      · refine And.intro (rfl) (And.intro (⟨by omega, by omega⟩) ?_)
        have hF := hF.pt (t := 2) (j := 4) (v := z7) (by decide) (by decide)
        refine And.intro rfl (And.intro rfl ?_)
        have hx := xput_up (σ := σ8) (t := 2) (j := 4) (v := z7)
        exact hQ (xput σ8 2 4 z7) hF ⟨hV.t4 (fun i hi h4 h6 => by rw [hx, up_n h4]), (show -1 ≤ z7 ∧ z7 < σ8 2 1 from by omega), (fun _ => by
              show 0 < sm 13 (hd _ (xput σ8 2 4 z7 2 4).toNat)
              rw [xput_s, hx, sm_congr (fun i hi => show hd (up (σ8 2) 4 z7) (z7.toNat) i = hd (σ8 2) (z7.toNat) i from up_n (by omega))]; omega), hL.tr (fun i h1 h2 h3 h4 => by rw [hx, up_n h4])⟩
      · intro z12 t12 e12 l12 h12
        try have w12 : t12 = 0 := by omega
        exact ih_9 _ (show (6 - z12).toNat < m9 from by omega) z12 (xvi z7) σ8 rfl ⟨hF, hV, hT, hL, by omega⟩
  exact lp_9 _ 0 (xvu) (xput σ 2 4 (-1)) rfl ⟨hF, hp0.t4 (fun i hi h4 h6 => xput_o h4), xput_s.symm, (fun i h1 h2 h3 h4 => xput_o h4), by omega⟩
