set_option maxHeartbeats 4000000 in
set_option maxRecDepth 100000 in
theorem s_refillsF {σ : xS} {k : Int} {Q : Option xV → xS → Prop} (hp0 : VX (σ 2)) (hp1 : 0 ≤ k ∧ k < σ 2 1) (hQ : ∀ σ' : xS, Fr [2] [] σ σ' → (σ' 2 = rfF (σ 2) k.toNat) → Q none σ') : xT kX11_refills [xvr 0, xvi k] σ Q := by
  refine ⟨Nat.le_of_ble_eq_true rfl, fun X hX => ?_⟩
  show X 0 [xvr 0, xvi k, xvu, xvu, xvu] σ
  have hF : Fr [2] [] σ σ := Fr.rf
  have lp_0 : ∀ (m0 : Nat) (u1_2 : xV) (u1_3 : xV) (u1_4 : xV) (s1 : xS), ((s1 2 7).toNat) = m0 → (Fr [2] [] σ s1 ∧ VX (s1 2) ∧ QF (σ 2) (s1 2) ∧ ∃ m : Nat, s1 2 7 ≤ m ∧ rfN (s1 2) k.toNat m = rfF (σ 2) k.toNat) → X 0 [xvr 0, xvi k, u1_2, u1_3, u1_4] s1 := by
    intro m0
    induction m0 using Nat.strongRecOn with
    | _ m0 ih_0 =>
    intro u1_2 u1_3 u1_4 s1 hm_0 hv_0
    obtain ⟨hF, hV, hq, m, hm7, hR⟩ := hv_0
    have hq1 := hq 1 (by omega)
    have m1 := hp0.1.1.2.1
    have mm := hV.1.1.2.2
    refine hX 400 0 _ _ ?_
    refine s_cards (σ := s1) (k := k) hV.1 (by omega) (fun r2 p2 => ?_)
    have p2 : r2 = cd (s1 2) k.toNat ∧ 0 ≤ r2 ∧ r2 ≤ 52 := p2
    refine And.intro (fun c3 => ?_) (fun c3 => ?_)
    · refine hX 400 97 _ _ ?_
      refine And.intro rfl (And.intro rfl ?_)
      exact hQ _ hF (by rw [← hR, rfN_e (by omega)])
    · refine And.intro (rfl) (And.intro (⟨by omega, by omega⟩) ?_)
      intro v4 e4 l4 h4
      have e4 : v4 = s1 2 7 := e4
      refine And.intro (fun c5 => ?_) (fun c5 => ?_)
      · refine hX 400 97 _ _ ?_
        refine And.intro rfl (And.intro rfl ?_)
        exact hQ _ hF (by rw [← hR, rfN_e (by omega)])
      · refine And.intro (rfl) (And.intro (⟨by omega, by omega⟩) ?_)
        intro v6 e6 l6 h6
        have e6 : v6 = s1 2 3 := e6
        refine And.intro (fun c7 => ?_) (fun c7 => ?_)
        · refine hX 400 97 _ _ ?_
          refine And.intro rfl (And.intro rfl ?_)
          exact hQ _ hF (by rw [← hR, rfN_e (by omega)])
        · obtain ⟨m, rfl⟩ : ∃ m0, m = m0 + 1 := ⟨m - 1, by omega⟩
          have hq3 := hq 3 (by omega)
          -- more
          refine And.intro (rfl) (And.intro (⟨by omega, by omega⟩) ?_)
          intro v8 e8 l8 h8
          have e8 : v8 = s1 2 3 := e8
          refine And.intro (rfl) (And.intro (⟨by omega, by omega⟩) ?_)
          intro v9 e9 l9 h9
          have e9 : v9 = s1 2 7 := e9
          refine And.intro (fun c10 => ?_) (fun c10 => ?_)
          · refine And.intro (rfl) (And.intro (⟨by omega, by omega⟩) ?_)
            intro v11 e11 l11 h11
            have e11 : v11 = s1 2 7 := e11
            refine And.intro (Nat.le_of_ble_eq_true rfl) ?_
            show xw _ _ _ _ _ _ _ _ _ _ [xvr 0, xvi k, xvi v11, u1_3, u1_4] _ _
            refine And.intro (Nat.le_of_ble_eq_true rfl) ?_
            show xw _ _ _ _ _ _ _ _ _ _ [xvr 0, xvi k, xvi v11, xvi 0, u1_4] _ _
            have lp_62 : ∀ (m62 : Nat) (i : Int) (u12_4 : xV) (s2 : xS), ((s2 2 7).toNat) = m62 → (Fr [2] [] σ s2 ∧ VX (s2 2) ∧ QF (σ 2) (s2 2) ∧ drN (s2 2) k.toNat (s1 2 3 - i).toNat = drN (s1 2) k.toNat (s1 2 3).toNat ∧ s2 2 7 = s1 2 7 - i ∧ (0 ≤ i ∧ i ≤ v11)) → X 62 [xvr 0, xvi k, xvi v11, xvi i, u12_4] s2 := by
              intro m62
              induction m62 using Nat.strongRecOn with
              | _ m62 ih_62 =>
              intro i u12_4 s2 hm_62 hv_62
              obtain ⟨hF, hV2, hQ2, hD, hi7, hv_62⟩ := hv_62
              have hq21 := hQ2 1 (by omega)
              have hq23 := hQ2 3 (by omega)
              have mm2 := hV2.1.1.2.2
              refine hX 400 62 _ _ ?_
              refine And.intro (fun c13 => ?_) (fun c13 => ?_)
              · exact ih_0 _ (show ((s2 2 7)).toNat < m0 from by omega) (xvi v11) (xvi i) (u12_4) s2 rfl ⟨hF, hV2, hQ2, m, by omega, by
                      rw [drN_e (f := s2 2) (by omega)] at hD
                      rw [hD, ← hR, rfN_s, if_pos (by omega)]⟩
              · refine s_drawsF (σ := s2) (k := k) hV2.1 (by omega) (by omega) (fun r14 σ14 f14 p14 => ?_)
                have hF := hF.tr f14 (by decide) (by decide)
                have hd2 := drw_F hV2.1 (p := k.toNat) (by omega) (by omega)
                have ho2 := hV2.1.o51 (by omega) (by omega) (by omega) hd2
                obtain ⟨hVa, hQa, h7a⟩ := hV2.dc0 (p := k.toNat) (by omega) (by omega) (by omega)
                have hc8 := hV2.1.c8 (by omega)
                refine And.intro (Nat.le_of_ble_eq_true rfl) ?_
                show xw _ _ _ _ _ _ _ _ _ _ [xvr 0, xvi k, xvi v11, xvi i, xvi r14] _ _
                refine s_addsF (σ := σ14) (k := k) (mask := 0) (by omega) (by rw [p14.2]; exact ho2) (fun σ15 f15 p15 => ?_)
                have hF := hF.tr f15 (by decide) (by decide)
                rw [p14.2] at p15
                refine s_booksF (σ := σ15) (k := k) (kind := r14) (by omega) (by omega) (by rw [p15]; exact hVa) (fun r16 σ16 f16 p16 => ?_)
                have hF := hF.tr f16 (by decide) (by decide)
                have hdc : σ16 2 = dcF (s2 2) k.toNat 0 := by rw [p16.1, p15, p14.1]; unfold dcF dcM; rw [if_pos rfl]
                have hvd := hV2.dc (p := k.toNat) (shown := 0) (by omega) (by omega) (by omega)
                rw [← hdc] at hvd
                intro z17 t17 e17 l17 h17
                try have w17 : t17 = 0 := by omega
                show xw _ _ _ _ _ _ _ _ _ _ [xvr 0, xvi k, xvi v11, xvi z17, xvi r14] _ _
                exact ih_62 _ (show ((σ16 2 7)).toNat < m62 from by omega) z17 (xvi r14) σ16 rfl ⟨hF, hvd.1, hQ2.tr hvd.2.1, by
                      rw [hdc, ← hD, show (s1 2 3 - i).toNat = (s1 2 3 - z17).toNat + 1 from by omega, drN_s, if_pos (by omega)], by omega, by omega⟩
            exact lp_62 _ 0 (u1_4) s1 rfl ⟨hF, hV, hq, by rw [show s1 2 3 - 0 = s1 2 3 from by omega], by omega, by omega⟩
          · refine And.intro (rfl) (And.intro (⟨by omega, by omega⟩) ?_)
            intro v18 e18 l18 h18
            have e18 : v18 = s1 2 3 := e18
            refine And.intro (Nat.le_of_ble_eq_true rfl) ?_
            show xw _ _ _ _ _ _ _ _ _ _ [xvr 0, xvi k, xvi v18, u1_3, u1_4] _ _
            refine And.intro (Nat.le_of_ble_eq_true rfl) ?_
            show xw _ _ _ _ _ _ _ _ _ _ [xvr 0, xvi k, xvi v18, xvi 0, u1_4] _ _
            have lp_62 : ∀ (m62 : Nat) (i : Int) (u19_4 : xV) (s2 : xS), ((s2 2 7).toNat) = m62 → (Fr [2] [] σ s2 ∧ VX (s2 2) ∧ QF (σ 2) (s2 2) ∧ drN (s2 2) k.toNat (s1 2 3 - i).toNat = drN (s1 2) k.toNat (s1 2 3).toNat ∧ s2 2 7 = s1 2 7 - i ∧ (0 ≤ i ∧ i ≤ v18)) → X 62 [xvr 0, xvi k, xvi v18, xvi i, u19_4] s2 := by
              intro m62
              induction m62 using Nat.strongRecOn with
              | _ m62 ih_62 =>
              intro i u19_4 s2 hm_62 hv_62
              obtain ⟨hF, hV2, hQ2, hD, hi7, hv_62⟩ := hv_62
              have hq21 := hQ2 1 (by omega)
              have hq23 := hQ2 3 (by omega)
              have mm2 := hV2.1.1.2.2
              refine hX 400 62 _ _ ?_
              refine And.intro (fun c20 => ?_) (fun c20 => ?_)
              · exact ih_0 _ (show ((s2 2 7)).toNat < m0 from by omega) (xvi v18) (xvi i) (u19_4) s2 rfl ⟨hF, hV2, hQ2, m, by omega, by
                      rw [drN_e (f := s2 2) (by omega)] at hD
                      rw [hD, ← hR, rfN_s, if_pos (by omega)]⟩
              · refine s_drawsF (σ := s2) (k := k) hV2.1 (by omega) (by omega) (fun r21 σ21 f21 p21 => ?_)
                have hF := hF.tr f21 (by decide) (by decide)
                have hd2 := drw_F hV2.1 (p := k.toNat) (by omega) (by omega)
                have ho2 := hV2.1.o51 (by omega) (by omega) (by omega) hd2
                obtain ⟨hVa, hQa, h7a⟩ := hV2.dc0 (p := k.toNat) (by omega) (by omega) (by omega)
                have hc8 := hV2.1.c8 (by omega)
                refine And.intro (Nat.le_of_ble_eq_true rfl) ?_
                show xw _ _ _ _ _ _ _ _ _ _ [xvr 0, xvi k, xvi v18, xvi i, xvi r21] _ _
                refine s_addsF (σ := σ21) (k := k) (mask := 0) (by omega) (by rw [p21.2]; exact ho2) (fun σ22 f22 p22 => ?_)
                have hF := hF.tr f22 (by decide) (by decide)
                rw [p21.2] at p22
                refine s_booksF (σ := σ22) (k := k) (kind := r21) (by omega) (by omega) (by rw [p22]; exact hVa) (fun r23 σ23 f23 p23 => ?_)
                have hF := hF.tr f23 (by decide) (by decide)
                have hdc : σ23 2 = dcF (s2 2) k.toNat 0 := by rw [p23.1, p22, p21.1]; unfold dcF dcM; rw [if_pos rfl]
                have hvd := hV2.dc (p := k.toNat) (shown := 0) (by omega) (by omega) (by omega)
                rw [← hdc] at hvd
                intro z24 t24 e24 l24 h24
                try have w24 : t24 = 0 := by omega
                show xw _ _ _ _ _ _ _ _ _ _ [xvr 0, xvi k, xvi v18, xvi z24, xvi r21] _ _
                exact ih_62 _ (show ((σ23 2 7)).toNat < m62 from by omega) z24 (xvi r21) σ23 rfl ⟨hF, hvd.1, hQ2.tr hvd.2.1, by
                      rw [hdc, ← hD, show (s1 2 3 - i).toNat = (s1 2 3 - z24).toNat + 1 from by omega, drN_s, if_pos (by omega)], by omega, by omega⟩
            exact lp_62 _ 0 (u1_4) s1 rfl ⟨hF, hV, hq, by rw [show s1 2 3 - 0 = s1 2 3 from by omega], by omega, by omega⟩
  exact lp_0 _ (xvu) (xvu) (xvu) σ rfl ⟨hF, hp0, QF.rf, 52, hp0.1.1.2.2.2.2, rfl⟩
set_option maxHeartbeats 4000000 in
set_option maxRecDepth 100000 in
theorem s_settlesF {σ : xS} {fr : Int} {Q : Option xV → xS → Prop} (hp0 : VX (σ 2)) (hp1 : 0 ≤ fr ∧ fr ≤ 5) (hp2 : 0 < σ 2 1 → fr < σ 2 1) (hQ : ∀ σ' : xS, Fr [2] [] σ σ' → (σ' 2 = stF (σ 2) fr) → Q none σ') : xT kX11_settles [xvr 0, xvi fr] σ Q := by
  refine ⟨Nat.le_of_ble_eq_true rfl, fun X hX => ?_⟩
  show X 0 [xvr 0, xvi fr, xvu, xvu] σ
  have hF : Fr [2] [] σ σ := Fr.rf
  refine hX 400 0 _ _ ?_
  refine And.intro (rfl) (And.intro (⟨by omega, by omega⟩) ?_)
  have hF := hF.pt (t := 2) (j := 4) (v := (-1)) (by decide) (by decide)
  refine And.intro (Nat.le_of_ble_eq_true rfl) ?_
  show xw _ _ _ _ _ _ _ _ _ _ [xvr 0, xvi fr, xvi 0, xvu] _ _
  have lp_9 : ∀ (m9 : Nat) (i : Int) (u2_3 : xV) (s1 : xS), ((6 - i).toNat) = m9 → (Fr [2] [] σ s1 ∧ VX (s1 2) ∧ L4x (σ 2) (s1 2) ∧ s1 2 4 = -1 ∧ (0 < σ 2 1 → stN (s1 2) ((fr + i) % σ 2 1) (σ 2 1 - i).toNat = stF (σ 2) fr) ∧ (0 ≤ i ∧ (i ≤ σ 2 1 ∨ i = 0)) ∧ (i = 0 → s1 2 = up (σ 2) 4 (-1))) → X 9 [xvr 0, xvi fr, xvi i, u2_3] s1 := by
    intro m9
    induction m9 using Nat.strongRecOn with
    | _ m9 ih_9 =>
    intro i u2_3 s1 hm_9 hv_9
    obtain ⟨hF, hV, hl, h4, hS, hv_9, hz0⟩ := hv_9
    have hl1 := hl 1 (by omega) (by omega)
    have m1 := hp0.1.1.2.1
    replace hz0 : σ 2 1 ≤ 0 → s1 2 = up (σ 2) 4 (-1) := fun h => hz0 (by omega)
    refine hX 400 9 _ _ ?_
    refine And.intro (rfl) (And.intro (⟨by omega, by omega⟩) ?_)
    intro v3 e3 l3 h3
    have e3 : v3 = s1 2 1 := e3
    refine And.intro (fun c4 => ?_) (fun c4 => ?_)
    · refine And.intro rfl (And.intro rfl ?_)
      exact hQ _ hF (by
            by_cases h0 : 0 < σ 2 1
            · have z := hS h0
              rw [show (σ 2 1 - i).toNat = 0 from by omega] at z
              exact z
            · unfold stF
              rw [show (σ 2 1).toNat = 0 from by omega]
              exact hz0 (by omega))
    · intro z5 t5 e5 l5 h5
      try have w5 : t5 = 0 := by omega
      refine And.intro (rfl) (And.intro (⟨by omega, by omega⟩) ?_)
      intro v6 e6 l6 h6
      have e6 : v6 = s1 2 1 := e6
      -- rem
      refine And.intro (by omega) ?_
      intro z7 e7 f7 l7 h7
      replace f7 := f7 (by omega) (by omega)
      have g7 := Int.emod_nonneg z5 (b := v6) (by omega); have k7 := Int.emod_lt_of_pos z5 (b := v6) (by omega); rw [← f7] at g7 k7
      refine And.intro (Nat.le_of_ble_eq_true rfl) ?_
      show xw _ _ _ _ _ _ _ _ _ _ [xvr 0, xvi fr, xvi i, xvi z7] _ _
      have hkm : z7 = (fr + i) % σ 2 1 := by rw [f7, show z5 = fr + i from by omega, show v6 = σ 2 1 from by omega]
      have hk0 := Int.emod_nonneg (fr + i) (show σ 2 1 ≠ 0 by omega)
      have hk1 := Int.emod_lt_of_pos (fr + i) (show 0 < σ 2 1 by omega)
      refine s_refillsF (σ := s1) (k := z7) hV (by omega) (fun σ8 f8 p8 => ?_)
      have hF := hF.tr f8 (by decide) (by decide)
      obtain ⟨hV2, hQ2⟩ := hV.rf (p := z7.toNat) (by omega) (by omega)
      rw [← p8] at hV2 hQ2
      have hS := hS (by omega)
      rw [← hkm, show (σ 2 1 - i).toNat = (σ 2 1 - (i + 1)).toNat + 1 from by omega, stN_s, ← p8] at hS
      have hq41 := hQ2 1 (by omega)
      have hq44 := hQ2 4 (by omega)
      refine s_cards (σ := σ8) (k := z7) hV2.1 (by omega) (fun r9 p9 => ?_)
      have p9 : r9 = cd (σ8 2) z7.toNat ∧ 0 ≤ r9 ∧ r9 ≤ 52 := p9
      refine And.intro (fun c10 => ?_) (fun c10 => ?_)
      · refine And.intro (rfl) (And.intro (⟨by omega, by omega⟩) ?_)
        have hF := hF.pt (t := 2) (j := 4) (v := z7) (by decide) (by decide)
        refine And.intro rfl (And.intro rfl ?_)
        exact hQ _ hF (by
              rw [if_pos (by omega)] at hS
              rw [← hS]
              show xput σ8 2 4 z7 2 = _
              rw [xput_up])
      · intro z12 t12 e12 l12 h12
        try have w12 : t12 = 0 := by omega
        show xw _ _ _ _ _ _ _ _ _ _ [xvr 0, xvi fr, xvi z12, xvi z7] _ _
        exact ih_9 _ (show (6 - z12).toNat < m9 from by omega) z12 (xvi z7) σ8 rfl ⟨hF, hV2, (fun j hj h4 => (hQ2 j hj).trans (hl j hj h4)), by omega, (fun h0 => by
              rw [if_neg (by omega), hl1, hkm, aft_mod (by omega) (by omega)] at hS
              rw [show fr + z12 = fr + i + 1 from by omega, show σ 2 1 - z12 = σ 2 1 - (i + 1) from by omega]; exact hS), by omega, (fun h => absurd h (by omega))⟩
  exact lp_9 _ 0 (xvu) (xput σ 2 4 (-1)) rfl ⟨hF, (by show VX (xput σ 2 4 (-1) 2); rw [xput_up]; exact hp0.t (Or.inl rfl)), (fun i hi h4 => by show xput σ 2 4 (-1) 2 i = _; rw [xput_up, up_n h4]), (by show xput σ 2 4 (-1) 2 4 = _; rw [xput_up, up_s]), (fun h0 => by
        show stN (xput σ 2 4 (-1) 2) ((fr + 0) % σ 2 1) (σ 2 1 - 0).toNat = _
        rw [xput_up, show fr + 0 = fr from by omega, Int.emod_eq_of_lt (by omega) (hp2 h0), show σ 2 1 - 0 = σ 2 1 from by omega]; rfl), by omega, (fun _ => by show xput σ 2 4 (-1) 2 = _; rw [xput_up])⟩

