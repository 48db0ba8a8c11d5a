set_option maxHeartbeats 4000000 in
set_option maxRecDepth 100000 in
theorem sX2_drawCardG {f : Nat → Int} {σ : xS} {p shown : Int} {Q : Option xV → xS → Prop} (hp0 : GR σ f) (hp1 : VX f) (hp2 : 0 ≤ p ∧ p ≤ 5) (hp3 : p < f 1) (hp4 : 1 ≤ f 7) (hQ : ∀ r : Int, ∀ σ' : xS, Fr [2, 3, 5, 8, 9, 10, 11, 12] [8] σ σ' → (GR σ' (dcF f p.toNat shown) ∧ r = if (dcM f p.toNat shown) (60 + 13 * p.toNat + (f 8).toNat) < 4 then 0 else 1) → Q (some (xvi r)) σ') : xT kX2_drawCard [xvr 0, xvi p, xvi shown] σ Q := by
  refine ⟨Nat.le_of_ble_eq_true rfl, fun X hX => ?_⟩
  show X 0 [xvr 0, xvi p, xvi shown, xvu] σ
  have hF : Fr [2, 3, 5, 8, 9, 10, 11, 12] [8] σ σ := Fr.rf
  refine hX 400 0 _ _ ?_
  have hc52 := hp1.1.cd52 (p := p.toNat) (by omega)
  have h752 := hp1.1.1.2.2.2.2
  have c8 := hp1.1.c8 (by omega)
  have h01 := hp1.1.1.1
  have hnall := hp0.nall hp1.1
  have hhs := hp0.hs
  have hh8 := hp0.2.2.1.1.1.1
  have hh9 := hp0.2.2.2.2.1
  intro v1 e1 l1 h1
  have e1 : v1 = σ 0 8 := e1
  refine And.intro (rfl) (And.intro (⟨by omega, by omega⟩) ?_)
  intro v2 e2 l2 h2
  have e2 : v2 = σ 4 v1.toNat := e2
  have hce : v2 = f 8 := by rw [e2, show v1 = σ 0 8 from by omega]; exact hp0.h0 (by omega)
  refine And.intro (Nat.le_of_ble_eq_true rfl) ?_
  show xw _ _ _ _ _ _ _ _ _ _ [xvr 0, xvi p, xvi shown, xvi v2] _ _
  intro v3 e3 l3 h3
  have e3 : v3 = σ 0 8 := e3
  intro z4 t4 e4 l4 h4
  try have w4 : t4 = 0 := by omega
  have hF := hF.p (j := 8) (v := z4) (by decide)
  have hG1 : GR (xput σ 0 8 z4) (popF f) := hp0.pop (by omega) (by omega)
  have hpv : popF f (60 + 13 * p.toNat + v2.toNat) = f (60 + 13 * p.toNat + (f 8).toNat) := by rw [hce]; exact popF_o h752 (by omega)
  have hpc : cd (popF f) p.toNat = cd f p.toNat := cd_o (by omega) (fun i a b => popF_o h752 (by omega))
  have hhc := (kn_r hp1.1 (p := p.toNat) (k := (f 8).toNat) (by omega) (by omega)).2
  refine sX2_addToHandG (σ := (xput σ 0 8 z4)) (p := p) (kind := v2) (n := 1) hp2 (by omega) hG1 (by rw [hpv]; omega) (by rw [hpc]; omega) (fun σ6 f6 hG2 => ?_)
  have hF := hF.tr f6 (by decide) (by decide)
  rw [hpv, hce] at hG2
  refine And.intro (rfl) (And.intro (⟨by omega, by omega⟩) ?_)
  have hF := hF.pt (t := 8) (j := p.toNat) (v := v2) (by decide) (by decide)
  have hGd : GR (xput σ6 8 p.toNat v2) (drawsF f p.toNat) := hG2.num (mp_dr (j := p.toNat) (by omega)) (v := f 8 + 1) (w := v2) (by omega) (by decide) (by omega)
  have lp_69 : ∀ (s1 : xS), (Fr [2, 3, 5, 8, 9, 10, 11, 12] [8] σ s1 ∧ GR s1 (dcM f p.toNat shown)) → X 69 [xvr 0, xvi p, xvi shown, xvi v2] s1 := by
    intro s1 hv_69
    obtain ⟨hF, hG5⟩ := hv_69
    refine hX 400 69 _ _ ?_
    have hVm : VX (dcM f p.toNat shown) := by
      unfold dcM
      by_cases c : shown = 0
      · rw [if_pos c]; exact (hp1.dc0 (by omega) (by omega) (by omega)).1
      · rw [if_neg c]; exact (hp1.dc1 (by omega) (by omega) (by omega)).1
    refine sX2_layDownG (σ := s1) (p := p) (kind := v2) hG5 hVm hp2 (by omega) (fun r9 σ9 f9 p9 => ?_)
    have hF := hF.tr f9 (by decide) (by decide)
    refine And.intro rfl ?_
    refine And.intro (by omega) ?_
    exact hQ _ _ hF ⟨by have z := p9.1; rw [hce] at z; exact z, by have z := p9.2; rw [hce] at z; exact z⟩
  refine And.intro (fun c10 => ?_) (fun c10 => ?_)
  · have hn9 : (xput σ6 8 p.toNat v2) 9 2 ≤ 51 := by
      have z : σ6 9 2 = σ 9 2 := congrFun (f6.1 9 (by decide) (by decide)) 2
      show σ6 9 2 ≤ 51
      omega
    refine sX3_addOtherG (σ := (xput σ6 8 p.toNat v2)) (p := p) hp2 hn9 hGd (fun σ11 f11 ⟨hG5, _⟩ => ?_)
    have hF := hF.tr f11 (by decide) (by decide)
    exact lp_69 σ11 ⟨hF, by unfold dcM; rw [if_pos (by omega)]; exact hG5⟩
  · refine sX3_sureOf (σ := (xput σ6 8 p.toNat v2)) (p := p) (kind := v2) hp2 (by omega) (fun r12 p12 => ?_)
    have p12 : r12 = drawsF f p.toNat (151 + 13 * p.toNat + (f 8).toNat) := by rw [← hce]; exact p12.trans (hGd.vk hp2 (by omega))
    have hkr := (kn_r (hp1.dc1 (p := p.toNat) (by omega) (by omega) (by omega)).1.1 (p := p.toNat) (k := (f 8).toNat) (by omega) (by omega))
    unfold seeF at hkr
    rw [up_s, up_n (show 60 + 13 * p.toNat + (f 8).toNat ≠ 151 + 13 * p.toNat + (f 8).toNat from by omega)] at hkr
    intro z13 t13 e13 l13 h13
    try have w13 : t13 = 0 := by omega
    refine sX3_setSureG (σ := (xput σ6 8 p.toNat v2)) (p := p) (kind := v2) (cards := z13) hp2 (by omega) hGd (fun σ14 f14 hG4 => ?_)
    have hF := hF.tr f14 (by decide) (by decide)
    have hG5 : GR σ14 (seeF (drawsF f p.toNat) p.toNat (f 8).toNat 1) := by unfold seeF; rw [← p12, show r12 + 1 = z13 from by omega, ← hce]; exact hG4
    exact lp_69 σ14 ⟨hF, by unfold dcM; rw [if_neg (by omega)]; exact hG5⟩
set_option maxHeartbeats 4000000 in
set_option maxRecDepth 100000 in
theorem sX2_takeRefillG {f : Nat → Int} {σ : xS} {p : Int} {Q : Option xV → xS → Prop} (hp0 : GR σ f) (hp1 : VX f) (hp2 : 0 ≤ p ∧ p ≤ 5) (hp3 : p < f 1) (hQ : ∀ σ' : xS, Fr [2, 3, 5, 8, 9, 10, 11, 12] [8] σ σ' → (GR σ' (rfF f p.toNat)) → Q none σ') : xT kX2_takeRefill [xvr 0, xvi p] σ Q := by
  refine ⟨Nat.le_of_ble_eq_true rfl, fun X hX => ?_⟩
  show X 0 [xvr 0, xvi p, xvu, xvu] σ
  have hF : Fr [2, 3, 5, 8, 9, 10, 11, 12] [8] σ σ := Fr.rf
  refine hX 400 0 _ _ ?_
  refine And.intro (Nat.le_of_ble_eq_true rfl) ?_
  show xw _ _ _ _ _ _ _ _ _ _ [xvr 0, xvi p, xvi 0, xvu] _ _
  have lp_2 : ∀ (m2 : Nat) (ro : Int) (u1_3 : xV) (s1 : xS), ((52 - ro).toNat) = m2 → (Fr [2, 3, 5, 8, 9, 10, 11, 12] [8] σ s1 ∧ (0 ≤ ro ∧ ro ≤ 52) ∧ ∃ g : Nat → Int, GR s1 g ∧ VX g ∧ QF f g ∧ rfN g p.toNat (52 - ro).toNat = rfF f p.toNat) → X 2 [xvr 0, xvi p, xvi ro, u1_3] s1 := by
    intro m2
    induction m2 using Nat.strongRecOn with
    | _ m2 ih_2 =>
    intro ro u1_3 s1 hm_2 hv_2
    obtain ⟨hF, hv_2, g, hG, hV, hq, hR⟩ := hv_2
    have hhs := hG.hs
    have hh8 := hG.2.2.1.1.1.1
    have hh9 := hG.2.2.2.2.1
    have g0 := hG.n0 (i := 3) (by decide)
    have g3 := hG.vc hp2
    have hq3 := hq 3 (by omega)
    have hq1 := hq 1 (by omega)
    refine hX 400 2 _ _ ?_
    refine And.intro (fun c2 => ?_) (fun c2 => ?_)
    · refine hX 400 75 _ _ ?_
      refine And.intro rfl (And.intro rfl ?_)
      exact hQ _ hF (by rw [← hR, rfN_e (by omega)]; exact hG)
    · refine And.intro (rfl) (And.intro (⟨by omega, by omega⟩) ?_)
      intro v3 e3 l3 h3
      have e3 : v3 = s1 3 p.toNat := e3
      refine And.intro (fun c4 => ?_) (fun c4 => ?_)
      · refine hX 400 75 _ _ ?_
        refine And.intro rfl (And.intro rfl ?_)
        exact hQ _ hF (by rw [← hR, rfN_e (by omega)]; exact hG)
      · intro v5 e5 l5 h5
        have e5 : v5 = s1 0 3 := e5
        refine And.intro (fun c6 => ?_) (fun c6 => ?_)
        · refine hX 400 75 _ _ ?_
          refine And.intro rfl (And.intro rfl ?_)
          exact hQ _ hF (by rw [← hR, rfN_e (by omega)]; exact hG)
        · intro v7 e7 l7 h7
          have e7 : v7 = s1 0 8 := e7
          intro v8 e8 l8 h8
          have e8 : v8 = s1 0 9 := e8
          refine And.intro (fun c9 => ?_) (fun c9 => ?_)
          · refine hX 400 75 _ _ ?_
            refine And.intro rfl (And.intro rfl ?_)
            exact hQ _ hF (by rw [← hR, rfN_e (by omega)]; exact hG)
          · refine And.intro (Nat.le_of_ble_eq_true rfl) ?_
            show xw _ _ _ _ _ _ _ _ _ _ [xvr 0, xvi p, xvi ro, xvi 0] _ _
            have lp_37 : ∀ (m37 : Nat) (i : Int) (s2 : xS), ((g 3 - i).toNat) = m37 → (Fr [2, 3, 5, 8, 9, 10, 11, 12] [8] σ s2 ∧ 0 ≤ i ∧ ∃ g2 : Nat → Int, GR s2 g2 ∧ VX g2 ∧ QF f g2 ∧ drN g2 p.toNat (g 3 - i).toNat = drN g p.toNat (g 3).toNat) → X 37 [xvr 0, xvi p, xvi ro, xvi i] s2 := by
              intro m37
              induction m37 using Nat.strongRecOn with
              | _ m37 ih_37 =>
              intro i s2 hm_37 hv_37
              obtain ⟨hF, hv_37, g2, hG2, hV2, hq2, hD⟩ := hv_37
              have hhs2 := hG2.hs
              have hh82 := hG2.2.2.1.1.1.1
              have hh92 := hG2.2.2.2.2.1
              have g02 := hG2.n0 (i := 3) (by decide)
              have hq23 := hq2 3 (by omega)
              refine hX 400 37 _ _ ?_
              intro v11 e11 l11 h11
              have e11 : v11 = s2 0 3 := e11
              refine And.intro (fun c12 => ?_) (fun c12 => ?_)
              · refine hX 400 69 _ _ ?_
                intro z13 t13 e13 l13 h13
                try have w13 : t13 = 0 := by omega
                show xw _ _ _ _ _ _ _ _ _ _ [xvr 0, xvi p, xvi z13, xvi i] _ _
                exact ih_2 _ (show (52 - z13).toNat < m2 from by omega) z13 (xvi i) s2 rfl ⟨hF, by omega, g2, hG2, hV2, hq2, by
                      rw [drN_e (f := g2) (by omega)] at hD
                      rw [hD, ← hR, show (52 - ro).toNat = (52 - z13).toNat + 1 from by omega, rfN_s, if_pos (by omega)]⟩
              · intro v14 e14 l14 h14
                have e14 : v14 = s2 0 8 := e14
                intro v15 e15 l15 h15
                have e15 : v15 = s2 0 9 := e15
                refine And.intro (fun c16 => ?_) (fun c16 => ?_)
                · refine hX 400 69 _ _ ?_
                  intro z17 t17 e17 l17 h17
                  try have w17 : t17 = 0 := by omega
                  show xw _ _ _ _ _ _ _ _ _ _ [xvr 0, xvi p, xvi z17, xvi i] _ _
                  exact ih_2 _ (show (52 - z17).toNat < m2 from by omega) z17 (xvi i) s2 rfl ⟨hF, by omega, g2, hG2, hV2, hq2, by
                        rw [drN_e (f := g2) (by omega)] at hD
                        rw [hD, ← hR, show (52 - ro).toNat = (52 - z17).toNat + 1 from by omega, rfN_s, if_pos (by omega)]⟩
                · have hq1 := hq2 1 (by omega)
                  refine sX2_drawCardG (σ := s2) (f := g2) (p := p) (shown := 0) hG2 hV2 hp2 (by omega) (by omega) (fun r18 σ18 f18 p18 => ?_)
                  have hF := hF.tr f18 (by decide) (by decide)
                  have hvd := hV2.dc (p := p.toNat) (shown := 0) (by omega) (by omega) (by omega)
                  intro z19 t19 e19 l19 h19
                  try have w19 : t19 = 0 := by omega
                  show xw _ _ _ _ _ _ _ _ _ _ [xvr 0, xvi p, xvi ro, xvi z19] _ _
                  exact ih_37 _ (show (g 3 - z19).toNat < m37 from by omega) z19 σ18 rfl ⟨hF, by omega, dcF g2 p.toNat 0, p18.1, hvd.1, hq2.tr hvd.2.1, by
                        rw [← hD, show (g 3 - i).toNat = (g 3 - z19).toNat + 1 from by omega, drN_s, if_pos (by omega)]⟩
            exact lp_37 _ 0 s1 rfl ⟨hF, by omega, g, hG, hV, hq, by rw [show g 3 - 0 = g 3 from by omega]⟩
  exact lp_2 _ 0 (xvu) σ rfl ⟨hF, by omega, f, hp0, hp1, QF.rf, rfl⟩
set_option maxHeartbeats 4000000 in
set_option maxRecDepth 100000 in
theorem sX2_afterG {σ : xS} {p : Int} {Q : Option xV → xS → Prop} (hp0 : 0 ≤ p ∧ p ≤ 5) (hp1 : 0 ≤ σ 0 1 ∧ σ 0 1 ≤ 6) (hQ : ∀ r : Int, (r = aft (σ 0 1) p) → Q (some (xvi r)) σ) : xT kX2_after [xvr 0, xvi p] σ Q := by
  refine ⟨Nat.le_of_ble_eq_true rfl, fun X hX => ?_⟩
  show X 0 [xvr 0, xvi p] σ
  refine hX 400 0 _ _ ?_
  intro z1 t1 e1 l1 h1
  try have w1 : t1 = 0 := by omega
  intro v2 e2 l2 h2
  have e2 : v2 = σ 0 1 := e2
  refine And.intro (fun c3 => ?_) (fun c3 => ?_)
  · refine And.intro rfl ?_
    exact hQ _ (by unfold aft; first | (rw [if_pos (by omega)]; omega) | (rw [if_neg (by omega)]))
  · intro z4 t4 e4 l4 h4
    try have w4 : t4 = 0 := by omega
    refine And.intro rfl ?_
    exact hQ _ (by unfold aft; first | (rw [if_pos (by omega)]; omega) | (rw [if_neg (by omega)]))
