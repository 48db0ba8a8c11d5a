set_option maxHeartbeats 4000000 in
set_option maxRecDepth 100000 in
theorem sX2_takeRefill {σ : xS} {p : Int} {Q : Option xV → xS → Prop} (hp0 : CG σ) (hp1 : 0 ≤ p ∧ p ≤ 5) (hQ : ∀ σ' : xS, Fr [2, 3, 5, 8, 9, 10, 11, 12] [8] σ σ' → (CG σ') → Q none σ') : xT kX2_takeRefill [xvr 0, xvi p] σ Q := by
  refine ⟨Nat.le_of_ble_eq_true rfl, fun X hX => ?_⟩
  show X 0 [xvr 0, xvi p, xvu, xvu] σ
  have hF : Fr [2, 3, 5, 8, 9, 10, 11, 12] [8] σ σ := Fr.rf
  refine hX 400 0 _ _ ?_
  refine And.intro (Nat.le_of_ble_eq_true rfl) ?_
  show xw _ _ _ _ _ _ _ _ _ _ [xvr 0, xvi p, xvi 0, xvu] _ _
  have lp_2 : ∀ (m2 : Nat) (ro : Int) (u1_3 : xV) (s1 : xS), ((52 - ro).toNat) = m2 → (Fr [2, 3, 5, 8, 9, 10, 11, 12] [8] σ s1 ∧ CG s1 ∧ 0 ≤ ro) → X 2 [xvr 0, xvi p, xvi ro, u1_3] s1 := by
    intro m2
    induction m2 using Nat.strongRecOn with
    | _ m2 ih_2 =>
    intro ro u1_3 s1 hm_2 hv_2
    obtain ⟨hF, hC, hv_2⟩ := hv_2
    refine hX 400 2 _ _ ?_
    refine And.intro (fun c2 => ?_) (fun c2 => ?_)
    · refine hX 400 75 _ _ ?_
      refine And.intro rfl (And.intro rfl ?_)
      exact hQ _ hF hC
    · refine And.intro (rfl) (And.intro (⟨by omega, by omega⟩) ?_)
      intro v3 e3 l3 h3
      have e3 : v3 = s1 3 p.toNat := e3
      refine And.intro (fun c4 => ?_) (fun c4 => ?_)
      · refine hX 400 75 _ _ ?_
        refine And.intro rfl (And.intro rfl ?_)
        exact hQ _ hF hC
      · intro v5 e5 l5 h5
        have e5 : v5 = s1 0 3 := e5
        refine And.intro (fun c6 => ?_) (fun c6 => ?_)
        · refine hX 400 75 _ _ ?_
          refine And.intro rfl (And.intro rfl ?_)
          exact hQ _ hF hC
        · intro v7 e7 l7 h7
          have e7 : v7 = s1 0 8 := e7
          intro v8 e8 l8 h8
          have e8 : v8 = s1 0 9 := e8
          refine And.intro (fun c9 => ?_) (fun c9 => ?_)
          · refine hX 400 75 _ _ ?_
            refine And.intro rfl (And.intro rfl ?_)
            exact hQ _ hF hC
          · refine And.intro (Nat.le_of_ble_eq_true rfl) ?_
            show xw _ _ _ _ _ _ _ _ _ _ [xvr 0, xvi p, xvi ro, xvi 0] _ _
            have lp_37 : ∀ (m37 : Nat) (i : Int) (s2 : xS), ((s2 0 9 - s2 0 8).toNat) = m37 → (Fr [2, 3, 5, 8, 9, 10, 11, 12] [8] σ s2 ∧ CG s2) → X 37 [xvr 0, xvi p, xvi ro, xvi i] s2 := by
              intro m37
              induction m37 using Nat.strongRecOn with
              | _ m37 ih_37 =>
              intro i s2 hm_37 hv_37
              obtain ⟨hF, hC⟩ := hv_37
              have hr := hC.1.2.2.1
              refine hX 400 37 _ _ ?_
              intro v11 e11 l11 h11
              have e11 : v11 = s2 0 3 := e11
              refine And.intro (fun c12 => ?_) (fun c12 => ?_)
              · refine hX 400 69 _ _ ?_
                intro z13 t13 e13 l13 h13
                try have w13 : t13 = 0 := by omega
                show xw _ _ _ _ _ _ _ _ _ _ [xvr 0, xvi p, xvi z13, xvi i] _ _
                exact ih_2 _ (show (52 - z13).toNat < m2 from by omega) z13 (xvi i) s2 rfl ⟨hF, hC, by omega⟩
              · intro v14 e14 l14 h14
                have e14 : v14 = s2 0 8 := e14
                intro v15 e15 l15 h15
                have e15 : v15 = s2 0 9 := e15
                refine And.intro (fun c16 => ?_) (fun c16 => ?_)
                · refine hX 400 69 _ _ ?_
                  intro z17 t17 e17 l17 h17
                  try have w17 : t17 = 0 := by omega
                  show xw _ _ _ _ _ _ _ _ _ _ [xvr 0, xvi p, xvi z17, xvi i] _ _
                  exact ih_2 _ (show (52 - z17).toNat < m2 from by omega) z17 (xvi i) s2 rfl ⟨hF, hC, by omega⟩
                · refine sX2_drawCard (σ := s2) (p := p) (shown := 0) hC (by omega) (by omega) (fun r18 σ18 f18 p18 => ?_)
                  have hF := hF.tr f18 (by decide) (by decide)
                  have k9 : σ18 0 9 = s2 0 9 := f18.2 9 (by decide)
                  have p8 := p18.2.1
                  intro z19 t19 e19 l19 h19
                  try have w19 : t19 = 0 := by omega
                  show xw _ _ _ _ _ _ _ _ _ _ [xvr 0, xvi p, xvi ro, xvi z19] _ _
                  exact ih_37 _ (show ((σ18 0 9) - (σ18 0 8)).toNat < m37 from by omega) z19 σ18 rfl ⟨hF, p18.1⟩
            exact lp_37 _ 0 s1 rfl ⟨hF, hC⟩
  exact lp_2 _ 0 (xvu) σ rfl ⟨hF, hp0, by omega⟩
set_option maxHeartbeats 4000000 in
set_option maxRecDepth 100000 in
theorem sX2_settle {σ : xS} {fr : Int} {Q : Option xV → xS → Prop} (hp0 : CG σ) (hp1 : 0 ≤ fr ∧ fr ≤ 5) (hQ : ∀ σ' : xS, Fr [2, 3, 5, 8, 9, 10, 11, 12] [8, 14] σ σ' → (CG σ') → Q none σ') : xT kX2_settle [xvr 0, xvi fr] σ Q := by
  refine ⟨Nat.le_of_ble_eq_true rfl, fun X hX => ?_⟩
  show X 0 [xvr 0, xvi fr, xvu, xvu] σ
  have hF : Fr [2, 3, 5, 8, 9, 10, 11, 12] [8, 14] σ σ := Fr.rf
  refine hX 400 0 _ _ ?_
  have hC := hp0
  have hF := hF.p (j := 14) (v := (-1)) (by decide)
  have hC := hC.fr (ts := []) (js := [14]) (Fr.rf.p (j := 14) (v := (-1)) (by decide)) (by decide) (by decide) (by decide) (by decide) (by decide) (by decide) (by decide) (by decide)
  refine And.intro (Nat.le_of_ble_eq_true rfl) ?_
  show xw _ _ _ _ _ _ _ _ _ _ [xvr 0, xvi fr, xvi fr, xvu] _ _
  refine And.intro (Nat.le_of_ble_eq_true rfl) ?_
  show xw _ _ _ _ _ _ _ _ _ _ [xvr 0, xvi fr, xvi fr, xvi 0] _ _
  have lp_9 : ∀ (m9 : Nat) (p : Int) (i : Int) (s1 : xS), ((6 - i).toNat) = m9 → (Fr [2, 3, 5, 8, 9, 10, 11, 12] [8, 14] σ s1 ∧ CG s1 ∧ (0 ≤ p ∧ p ≤ 5 ∧ 0 ≤ i)) → X 9 [xvr 0, xvi fr, xvi p, xvi i] s1 := by
    intro m9
    induction m9 using Nat.strongRecOn with
    | _ m9 ih_9 =>
    intro p i s1 hm_9 hv_9
    obtain ⟨hF, hC, hv_9⟩ := hv_9
    have hb1 := hC.1.2.1
    refine hX 400 9 _ _ ?_
    intro v3 e3 l3 h3
    have e3 : v3 = s1 0 1 := e3
    refine And.intro (fun c4 => ?_) (fun c4 => ?_)
    · refine hX 400 56 _ _ ?_
      refine And.intro rfl (And.intro rfl ?_)
      exact hQ _ hF hC
    · intro v5 e5 l5 h5
      have e5 : v5 = s1 0 14 := e5
      refine And.intro (fun c6 => ?_) (fun c6 => ?_)
      · refine hX 400 56 _ _ ?_
        refine And.intro rfl (And.intro rfl ?_)
        exact hQ _ hF hC
      · refine sX2_takeRefill (σ := s1) (p := p) hC (by omega) (fun σ7 f7 p7 => ?_)
        have hF := hF.tr f7 (by decide) (by decide)
        have hC := p7
        have q1 : σ7 0 1 = s1 0 1 := f7.2 1 (by decide)
        have hb1 := hC.1.2.1
        refine And.intro (rfl) (And.intro (⟨by omega, by omega⟩) ?_)
        intro v8 e8 l8 h8
        have e8 : v8 = σ7 3 p.toNat := e8
        refine And.intro (fun c9 => ?_) (fun c9 => ?_)
        · refine hX 400 44 _ _ ?_
          refine sX2_after (σ := σ7) (p := p) (show 0 ≤ p ∧ p ≤ 5 from by omega) (show 0 ≤ (σ7 0 1) ∧ (σ7 0 1) ≤ 6 from by omega) (fun r10 p10 => ?_)
          have p10 : 0 ≤ r10 ∧ r10 ≤ 5 := p10
          refine And.intro (Nat.le_of_ble_eq_true rfl) ?_
          show xw _ _ _ _ _ _ _ _ _ _ [xvr 0, xvi fr, xvi r10, xvi i] _ _
          intro z11 t11 e11 l11 h11
          try have w11 : t11 = 0 := by omega
          show xw _ _ _ _ _ _ _ _ _ _ [xvr 0, xvi fr, xvi r10, xvi z11] _ _
          exact ih_9 _ (show (6 - z11).toNat < m9 from by omega) r10 z11 σ7 rfl ⟨hF, hC, by omega⟩
        · have hF := hF.p (j := 14) (v := p) (by decide)
          have hC := hC.fr (ts := []) (js := [14]) (Fr.rf.p (j := 14) (v := p) (by decide)) (by decide) (by decide) (by decide) (by decide) (by decide) (by decide) (by decide) (by decide)
          refine hX 400 44 _ _ ?_
          refine sX2_after (σ := (xput σ7 0 14 p)) (p := p) (show 0 ≤ p ∧ p ≤ 5 from by omega) (show 0 ≤ (σ7 0 1) ∧ (σ7 0 1) ≤ 6 from by omega) (fun r13 p13 => ?_)
          have p13 : 0 ≤ r13 ∧ r13 ≤ 5 := p13
          refine And.intro (Nat.le_of_ble_eq_true rfl) ?_
          show xw _ _ _ _ _ _ _ _ _ _ [xvr 0, xvi fr, xvi r13, xvi i] _ _
          intro z14 t14 e14 l14 h14
          try have w14 : t14 = 0 := by omega
          show xw _ _ _ _ _ _ _ _ _ _ [xvr 0, xvi fr, xvi r13, xvi z14] _ _
          exact ih_9 _ (show (6 - z14).toNat < m9 from by omega) r13 z14 (xput σ7 0 14 p) rfl ⟨hF, hC, by omega⟩
  exact lp_9 _ fr 0 (xput σ 0 14 (-1)) rfl ⟨hF, hC, by omega⟩
set_option maxHeartbeats 4000000 in
set_option maxRecDepth 100000 in
theorem sX2_start {σ : xS} {Q : Option xV → xS → Prop} (hp0 : C0x σ) (hQ : ∀ σ' : xS, Fr [2, 3, 5, 6, 7, 8, 9, 10, 11, 12] [8, 14, 15, 16] σ σ' → (CG σ') → Q none σ') : xT kX2_start [xvr 0] σ Q := by
  refine ⟨Nat.le_of_ble_eq_true rfl, fun X hX => ?_⟩
  show X 0 [xvr 0, xvu, xvu] σ
  have hF : Fr [2, 3, 5, 6, 7, 8, 9, 10, 11, 12] [8, 14, 15, 16] σ σ := Fr.rf
  refine hX 400 0 _ _ ?_
  have hC0 := hp0
  refine And.intro (by decide) ?_
  generalize hfl1 : xfl σ 5 13 (-1) = σ1
  have f1 : Fr [5] [] σ σ1 := hfl1 ▸ Fr.fl (by decide)
  have v1 : ∀ j : Nat, j < 13 → σ1 5 j = (-1) := fun j hj => by rw [← hfl1]; exact xfl_in hj
  have hF := hF.tr f1 (by decide) (by decide)
  have hC0 := hC0.fr f1 (by decide) (by decide) (by decide) (by decide) (by decide) (by decide)
  refine And.intro (by decide) ?_
  generalize hfl2 : xfl σ1 6 6 0 = σ2
  have f2 : Fr [6] [] σ1 σ2 := hfl2 ▸ Fr.fl (by decide)
  have v2 : ∀ j : Nat, j < 6 → σ2 6 j = 0 := fun j hj => by rw [← hfl2]; exact xfl_in hj
  have hF := hF.tr f2 (by decide) (by decide)
  have hC0 := hC0.fr f2 (by decide) (by decide) (by decide) (by decide) (by decide) (by decide)
  refine And.intro (by decide) ?_
  generalize hfl3 : xfl σ2 7 6 0 = σ3
  have f3 : Fr [7] [] σ2 σ3 := hfl3 ▸ Fr.fl (by decide)
  have v3 : ∀ j : Nat, j < 6 → σ3 7 j = 0 := fun j hj => by rw [← hfl3]; exact xfl_in hj
  have hF := hF.tr f3 (by decide) (by decide)
  have hC0 := hC0.fr f3 (by decide) (by decide) (by decide) (by decide) (by decide) (by decide)
  refine And.intro (by decide) ?_
  generalize hfl4 : xfl σ3 8 6 (-1) = σ4
  have f4 : Fr [8] [] σ3 σ4 := hfl4 ▸ Fr.fl (by decide)
  have v4 : ∀ j : Nat, j < 6 → σ4 8 j = (-1) := fun j hj => by rw [← hfl4]; exact xfl_in hj
  have hF := hF.tr f4 (by decide) (by decide)
  have hC0 := hC0.fr f4 (by decide) (by decide) (by decide) (by decide) (by decide) (by decide)
  have hF := hF.p (j := 15) (v := 0) (by decide)
  have hC0 := hC0.fr (ts := []) (js := [15]) (Fr.rf.p (j := 15) (v := 0) (by decide)) (by decide) (by decide) (by decide) (by decide) (by decide) (by decide)
  have hF := hF.p (j := 16) (v := 0) (by decide)
  have hC0 := hC0.fr (ts := []) (js := [16]) (Fr.rf.p (j := 16) (v := 0) (by decide)) (by decide) (by decide) (by decide) (by decide) (by decide) (by decide)
  refine sX3_clear (σ := (xput (xput σ4 0 15 0) 0 16 0)) (fun σ7 f7 p7 => ?_)
  have hF := hF.tr f7 (by decide) (by decide)
  have hC := (hC0.fr f7 (by decide) (by decide) (by decide) (by decide) (by decide) (by decide)).cg (by rw [p7.1]; decide) p7.2
  refine And.intro (Nat.le_of_ble_eq_true rfl) ?_
  show xw _ _ _ _ _ _ _ _ _ _ [xvr 0, xvi 0, xvu] _ _
  have lp_51 : ∀ (m51 : Nat) (p : Int) (u8_2 : xV) (s1 : xS), ((6 - p).toNat) = m51 → (Fr [2, 3, 5, 6, 7, 8, 9, 10, 11, 12] [8, 14, 15, 16] σ s1 ∧ CG s1 ∧ 0 ≤ p) → X 51 [xvr 0, xvi p, u8_2] s1 := by
    intro m51
    induction m51 using Nat.strongRecOn with
    | _ m51 ih_51 =>
    intro p u8_2 s1 hm_51 hv_51
    obtain ⟨hF, hC, hv_51⟩ := hv_51
    have hb0 := hC.1.1; have hb1 := hC.1.2.1
    refine hX 400 51 _ _ ?_
    intro v9 e9 l9 h9
    have e9 : v9 = s1 0 1 := e9
    refine And.intro (fun c10 => ?_) (fun c10 => ?_)
    · refine And.intro (Nat.le_of_ble_eq_true rfl) ?_
      show xw _ _ _ _ _ _ _ _ _ _ [xvr 0, xvi 0, u8_2] _ _
      have lp_93 : ∀ (m93 : Nat) (p2 : Int) (u11_2 : xV) (s3 : xS), ((6 - p2).toNat) = m93 → (Fr [2, 3, 5, 6, 7, 8, 9, 10, 11, 12] [8, 14, 15, 16] σ s3 ∧ CG s3 ∧ 0 ≤ p2) → X 93 [xvr 0, xvi p2, u11_2] s3 := by
        intro m93
        induction m93 using Nat.strongRecOn with
        | _ m93 ih_93 =>
        intro p2 u11_2 s3 hm_93 hv_93
        obtain ⟨hF, hC, hv_93⟩ := hv_93
        have hb0 := hC.1.1; have hb1 := hC.1.2.1
        refine hX 400 93 _ _ ?_
        intro v12 e12 l12 h12
        have e12 : v12 = s3 0 1 := e12
        refine And.intro (fun c13 => ?_) (fun c13 => ?_)
        · refine sX2_settle (σ := s3) (fr := 0) hC (by omega) (fun σ14 f14 p14 => ?_)
          have hF := hF.tr f14 (by decide) (by decide)
          refine And.intro rfl (And.intro rfl ?_)
          exact hQ _ hF p14
        · refine And.intro (Nat.le_of_ble_eq_true rfl) ?_
          show xw _ _ _ _ _ _ _ _ _ _ [xvr 0, xvi p2, xvi 0] _ _
          have lp_103 : ∀ (m103 : Nat) (kd : Int) (s4 : xS), ((13 - kd).toNat) = m103 → (Fr [2, 3, 5, 6, 7, 8, 9, 10, 11, 12] [8, 14, 15, 16] σ s4 ∧ CG s4 ∧ (0 ≤ kd ∧ p2 ≤ 5)) → X 103 [xvr 0, xvi p2, xvi kd] s4 := by
            intro m103
            induction m103 using Nat.strongRecOn with
            | _ m103 ih_103 =>
            intro kd s4 hm_103 hv_103
            obtain ⟨hF, hC, hv_103⟩ := hv_103
            have hb0 := hC.1.1; have hb1 := hC.1.2.1
            refine hX 400 103 _ _ ?_
            intro v16 e16 l16 h16
            have e16 : v16 = s4 0 0 := e16
            refine And.intro (fun c17 => ?_) (fun c17 => ?_)
            · intro z18 t18 e18 l18 h18
              try have w18 : t18 = 0 := by omega
              show xw _ _ _ _ _ _ _ _ _ _ [xvr 0, xvi z18, xvi kd] _ _
              exact ih_93 _ (show (6 - z18).toNat < m93 from by omega) z18 (xvi kd) s4 rfl ⟨hF, hC, by omega⟩
            · refine sX2_layDown (σ := s4) (p := p2) (kind := kd) hC (by omega) (by omega) (fun r19 σ19 f19 p19 => ?_)
              have hF := hF.tr f19 (by decide) (by decide)
              have hC := p19.1
              have q0 : σ19 0 0 = s4 0 0 := f19.2 0 (by decide)
              have q1 : σ19 0 1 = s4 0 1 := f19.2 1 (by decide)
              intro z20 t20 e20 l20 h20
              try have w20 : t20 = 0 := by omega
              show xw _ _ _ _ _ _ _ _ _ _ [xvr 0, xvi p2, xvi z20] _ _
              exact ih_103 _ (show (13 - z20).toNat < m103 from by omega) z20 σ19 rfl ⟨hF, hC, by omega⟩
          exact lp_103 _ 0 s3 rfl ⟨hF, hC, by omega⟩
      exact lp_93 _ 0 (u8_2) s1 rfl ⟨hF, hC, by omega⟩
    · refine And.intro (Nat.le_of_ble_eq_true rfl) ?_
      show xw _ _ _ _ _ _ _ _ _ _ [xvr 0, xvi p, xvi 0] _ _
      have lp_61 : ∀ (m61 : Nat) (i : Int) (s2 : xS), ((s1 3 p.toNat - i).toNat) = m61 → (Fr [2, 3, 5, 6, 7, 8, 9, 10, 11, 12] [8, 14, 15, 16] σ s2 ∧ CG s2 ∧ s2 3 = s1 3 ∧ 0 ≤ i) → X 61 [xvr 0, xvi p, xvi i] s2 := by
        intro m61
        induction m61 using Nat.strongRecOn with
        | _ m61 ih_61 =>
        intro i s2 hm_61 hv_61
        obtain ⟨hF, hC, h3s, hv_61⟩ := hv_61
        have hb0 := hC.1.1; have hb1 := hC.1.2.1
        refine hX 400 61 _ _ ?_
        refine And.intro (rfl) (And.intro (⟨by omega, by omega⟩) ?_)
        intro v22 e22 l22 h22
        have e22 : v22 = s2 3 p.toNat := e22
        have h3v : v22 = s1 3 p.toNat := by rw [e22, h3s]
        refine And.intro (fun c23 => ?_) (fun c23 => ?_)
        · intro z24 t24 e24 l24 h24
          try have w24 : t24 = 0 := by omega
          show xw _ _ _ _ _ _ _ _ _ _ [xvr 0, xvi z24, xvi i] _ _
          exact ih_51 _ (show (6 - z24).toNat < m51 from by omega) z24 (xvi i) s2 rfl ⟨hF, hC, by omega⟩
        · refine sX3_addOther (σ := s2) (p := p) hC.2.2.2 (fun σ25 f25 p25 => ?_)
          have hF := hF.tr f25 (by decide) (by decide)
          have hC := hC.eq (f25.2 0 (by decide)) (f25.2 1 (by decide)) (f25.1 2 (by decide) (by decide)) (f25.1 4 (by decide) (by decide)) (f25.2 8 (by decide)) (f25.2 9 (by decide)) (f25.1 10 (by decide) (by decide)) p25
          have k3 : σ25 3 = s2 3 := f25.1 3 (by decide) (by decide)
          intro z26 t26 e26 l26 h26
          try have w26 : t26 = 0 := by omega
          show xw _ _ _ _ _ _ _ _ _ _ [xvr 0, xvi p, xvi z26] _ _
          exact ih_61 _ (show (s1 3 p.toNat - z26).toNat < m61 from by omega) z26 σ25 rfl ⟨hF, hC, k3.trans h3s, by omega⟩
      exact lp_61 _ 0 s1 rfl ⟨hF, hC, rfl, by omega⟩
  exact lp_51 _ 0 (xvu) σ7 rfl ⟨hF, hC, by omega⟩
set_option maxHeartbeats 4000000 in
set_option maxRecDepth 100000 in
theorem sX2_dealOut {σ : xS} {n seed : Int} {Q : Option xV → xS → Prop} (hp0 : 0 ≤ σ 0 0 ∧ σ 0 0 ≤ 13) (hp1 : 0 ≤ σ 0 1 ∧ σ 0 1 ≤ 6) (hQ : ∀ σ' : xS, Fr [2, 3, 4] [8, 9] σ σ' → (C0x σ') → Q none σ') : xT kX2_dealOut [xvr 0, xvi n, xvi seed] σ Q := by
  refine ⟨Nat.le_of_ble_eq_true rfl, fun X hX => ?_⟩
  show X 0 [xvr 0, xvi n, xvi seed, xvu, xvu, xvu, xvu] σ
  have hF : Fr [2, 3, 4] [8, 9] σ σ := Fr.rf
  refine hX 400 0 _ _ ?_
  refine sX2_takeCardsAway (σ := σ) (fun σ1 f1 p1 => ?_)
  have hF := hF.tr f1 (by decide) (by decide)
  refine And.intro (Nat.le_of_ble_eq_true rfl) ?_
  show xw _ _ _ _ _ _ _ _ _ _ [xvr 0, xvi n, xvi seed, xvi 0, xvu, xvu, xvu] _ _
  have lp_6 : ∀ (m6 : Nat) (kd : Int) (u2_4 : xV) (s1 : xS), ((13 - kd).toNat) = m6 → (Fr [2, 3, 4] [8, 9] σ s1 ∧ (∀ i : Nat, i < 78 → s1 2 i = 0) ∧ s1 0 8 = 0 ∧ (∀ i : Nat, (i : Int) < s1 0 9 → 0 ≤ s1 4 i ∧ s1 4 i ≤ 12) ∧ (∀ j : Nat, j < 13 → gcf (s1 4) 0 (s1 0 9) j ≤ if (j : Int) < kd then 4 else 0) ∧ (0 ≤ kd ∧ kd ≤ 13 ∧ s1 0 9 = 4 * kd)) → X 6 [xvr 0, xvi n, xvi seed, xvi kd, u2_4, xvu, xvu] s1 := by
    intro m6
    induction m6 using Nat.strongRecOn with
    | _ m6 ih_6 =>
    intro kd u2_4 s1 hm_6 hv_6
    obtain ⟨hF, hz, h8, hcd, hgc, hv_6⟩ := hv_6
    have q0 : s1 0 0 = σ 0 0 := hF.2 0 (by decide)
    refine hX 400 6 _ _ ?_
    intro v3 e3 l3 h3
    have e3 : v3 = s1 0 0 := e3
    refine And.intro (fun c4 => ?_) (fun c4 => ?_)
    · refine And.intro (Nat.le_of_ble_eq_true rfl) ?_
      show xw _ _ _ _ _ _ _ _ _ _ [xvr 0, xvi n, xvi seed, xvi seed, u2_4, xvu, xvu] _ _
      intro v5 e5 l5 h5
      have e5 : v5 = s1 0 9 := e5
      intro z6 t6 e6 l6 h6
      try have w6 : t6 = 0 := by omega
      refine And.intro (Nat.le_of_ble_eq_true rfl) ?_
      show xw _ _ _ _ _ _ _ _ _ _ [xvr 0, xvi n, xvi seed, xvi seed, xvi z6, xvu, xvu] _ _
      have lp_50 : ∀ (m50 : Nat) (x : Int) (i5 : Int) (u7_5 : xV) (u7_6 : xV) (s3 : xS), ((i5 + 1).toNat) = m50 → (Fr [2, 3, 4] [8, 9] σ s3 ∧ (∀ i : Nat, i < 78 → s3 2 i = 0) ∧ s3 0 8 = 0 ∧ (∀ i : Nat, (i : Int) < s3 0 9 → 0 ≤ s3 4 i ∧ s3 4 i ≤ 12) ∧ (∀ j : Nat, j < 13 → gcf (s3 4) 0 (s3 0 9) j ≤ 4) ∧ (-1 ≤ i5 ∧ i5 < s3 0 9) ∧ (0 ≤ s3 0 9 ∧ s3 0 9 ≤ 52)) → X 50 [xvr 0, xvi n, xvi seed, xvi x, xvi i5, u7_5, u7_6] s3 := by
        intro m50
        induction m50 using Nat.strongRecOn with
        | _ m50 ih_50 =>
        intro x i5 u7_5 u7_6 s3 hm_50 hv_50
        obtain ⟨hF, hz, h8, hcd, hgc, hv_50, h9⟩ := hv_50
        refine hX 400 50 _ _ ?_
        refine And.intro (fun c8 => ?_) (fun c8 => ?_)
        · refine And.intro (Nat.le_of_ble_eq_true rfl) ?_
          show xw _ _ _ _ _ _ _ _ _ _ [xvr 0, xvi n, xvi seed, xvi x, xvi 0, u7_5, u7_6] _ _
          have lp_117 : ∀ (m117 : Nat) (p : Int) (u9_5 : xV) (s4 : xS), ((6 - p).toNat) = m117 → (Fr [2, 3, 4] [8, 9] σ s4 ∧ C0x s4 ∧ 0 ≤ p) → X 117 [xvr 0, xvi n, xvi seed, xvi x, xvi p, u9_5, u7_6] s4 := by
            intro m117
            induction m117 using Nat.strongRecOn with
            | _ m117 ih_117 =>
            intro p u9_5 s4 hm_117 hv_117
            obtain ⟨hF, hC, hv_117⟩ := hv_117
            have hb1 := hC.1.2.1
            refine hX 400 117 _ _ ?_
            intro v10 e10 l10 h10
            have e10 : v10 = s4 0 1 := e10
            refine And.intro (fun c11 => ?_) (fun c11 => ?_)
            · refine And.intro rfl (And.intro rfl ?_)
              exact hQ _ hF hC
            · refine And.intro (Nat.le_of_ble_eq_true rfl) ?_
              show xw _ _ _ _ _ _ _ _ _ _ [xvr 0, xvi n, xvi seed, xvi x, xvi p, xvi 0, u7_6] _ _
              have lp_129 : ∀ (m129 : Nat) (i6 : Int) (s5 : xS), ((s5 0 9 - s5 0 8).toNat) = m129 → (Fr [2, 3, 4] [8, 9] σ s5 ∧ C0x s5) → X 129 [xvr 0, xvi n, xvi seed, xvi x, xvi p, xvi i6, u7_6] s5 := by
                intro m129
                induction m129 using Nat.strongRecOn with
                | _ m129 ih_129 =>
                intro i6 s5 hm_129 hv_129
                obtain ⟨hF, hC⟩ := hv_129
                have hb3 := hC.1.2.2.1; have hb0 := hC.1.1; have hb1x := hC.1.2.1
                refine hX 400 129 _ _ ?_
                refine And.intro (fun c13 => ?_) (fun c13 => ?_)
                · refine hX 400 178 _ _ ?_
                  intro z14 t14 e14 l14 h14
                  try have w14 : t14 = 0 := by omega
                  show xw _ _ _ _ _ _ _ _ _ _ [xvr 0, xvi n, xvi seed, xvi x, xvi z14, xvi i6, u7_6] _ _
                  exact ih_117 _ (show (6 - z14).toNat < m117 from by omega) z14 (xvi i6) s5 rfl ⟨hF, hC, by omega⟩
                · intro v15 e15 l15 h15
                  have e15 : v15 = s5 0 8 := e15
                  intro v16 e16 l16 h16
                  have e16 : v16 = s5 0 9 := e16
                  refine And.intro (fun c17 => ?_) (fun c17 => ?_)
                  · refine hX 400 178 _ _ ?_
                    intro z18 t18 e18 l18 h18
                    try have w18 : t18 = 0 := by omega
                    show xw _ _ _ _ _ _ _ _ _ _ [xvr 0, xvi n, xvi seed, xvi x, xvi z18, xvi i6, u7_6] _ _
                    exact ih_117 _ (show (6 - z18).toNat < m117 from by omega) z18 (xvi i6) s5 rfl ⟨hF, hC, by omega⟩
                  · intro v19 e19 l19 h19
                    have e19 : v19 = s5 0 8 := e19
                    refine And.intro (rfl) (And.intro (⟨by omega, by omega⟩) ?_)
                    intro v20 e20 l20 h20
                    have e20 : v20 = s5 4 v19.toNat := e20
                    have hcd0 := hC.1.2.2.2 (s5 0 8).toNat (by omega)
                    have hce : v20 = s5 4 (s5 0 8).toNat := by rw [e20, show v19 = s5 0 8 from by omega]
                    rw [← hce] at hcd0
                    have hh := hC.2.1.h4 hC.2.2 (p := p.toNat) (k := v20.toNat) (by omega) (by omega)
                    rw [← ixk (p := p) (kind := v20) (by omega) (by omega)] at hh
                    refine sX2_addToHand (σ := s5) (p := p) (kind := v20) (n := 1) (by omega) (by omega) (by omega) (fun σ21 f21 p21 => ?_)
                    have hF := hF.tr f21 (by decide) (by decide)
                    have k4 : σ21 4 = s5 4 := f21.1 4 (by decide) (by decide)
                    have k8 : σ21 0 8 = s5 0 8 := f21.2 8 (by decide)
                    have k9 : σ21 0 9 = s5 0 9 := f21.2 9 (by decide)
                    have k0 : σ21 0 0 = s5 0 0 := f21.2 0 (by decide)
                    have k1 : σ21 0 1 = s5 0 1 := f21.2 1 (by decide)
                    intro v22 e22 l22 h22
                    have e22 : v22 = σ21 0 8 := e22
                    intro z23 t23 e23 l23 h23
                    try have w23 : t23 = 0 := by omega
                    have hF := hF.p (j := 8) (v := z23) (by decide)
                    intro z25 t25 e25 l25 h25
                    try have w25 : t25 = 0 := by omega
                    show xw _ _ _ _ _ _ _ _ _ _ [xvr 0, xvi n, xvi seed, xvi x, xvi p, xvi z25, u7_6] _ _
                    exact ih_129 _ (show ((σ21 0 9) - (z23)).toNat < m129 from by omega) z25 (xput σ21 0 8 z23) rfl (by
                                  refine ⟨hF, ⟨?_, ?_, ?_⟩⟩
                                  · obtain ⟨g1, g2, g3, g4⟩ := hC.1
                                    exact ⟨(show 0 ≤ σ21 0 0 ∧ σ21 0 0 ≤ 13 from by omega), (show 0 ≤ σ21 0 1 ∧ σ21 0 1 ≤ 6 from by omega), (show 0 ≤ z23 ∧ z23 ≤ σ21 0 9 ∧ σ21 0 9 ≤ 52 from by omega), (fun i hi => by
                                      have hi : (i : Int) < σ21 0 9 := hi
                                      show 0 ≤ σ21 4 i ∧ σ21 4 i ≤ 12
                                      rw [k4]; exact g4 i (by omega))⟩
                                  · show CHx (σ21 2)
                                    rw [p21]
                                    intro q j hq hj
                                    by_cases e : 13 * q + j = (13 * p + v20).toNat
                                    · rw [e, up_s]; omega
                                    · rw [up_n e]; exact hC.2.1 q j hq hj
                                  · show CSx (σ21 2) (σ21 4) z23 (σ21 0 9)
                                    rw [p21, k4, k9, show z23 = s5 0 8 + 1 from by omega]
                                    exact hC.2.2.draw (by omega) (by omega) (by omega) (by omega) (by omega) hce.symm rfl)
              exact lp_129 _ 0 s4 rfl ⟨hF, hC⟩
          exact lp_117 _ 0 (u7_5) s3 rfl ⟨hF, ⟨⟨by rw [hF.2 0 (by decide)]; omega, by rw [hF.2 1 (by decide)]; omega, by omega, hcd⟩, (fun q j hq hj => by rw [hz _ (by omega)]; omega), (fun j hj => by rw [gsf_z hz hj, h8]; exact hgc j hj)⟩, by omega⟩
        · intro z26 t26 e26 l26 h26
          intro z27 t27 e27 l27 h27
          refine And.intro (Nat.le_of_ble_eq_true rfl) ?_
          show xw _ _ _ _ _ _ _ _ _ _ [xvr 0, xvi n, xvi seed, xvi z27, xvi i5, u7_5, u7_6] _ _
          intro z28 e28 l28 h28
          have hu8 : 0 ≤ z28 := by rw [e28]; exact xush8 _
          intro z29 t29 e29 l29 h29
          try have w29 : t29 = 0 := by omega
          refine And.intro (by omega) ?_
          intro z30 e30 f30 l30 h30
          replace f30 := f30 (by omega) (by omega)
          have g30 := Int.emod_nonneg z28 (b := z29) (by omega); have k30 := Int.emod_lt_of_pos z28 (b := z29) (by omega); rw [← f30] at g30 k30
          refine And.intro (Nat.le_of_ble_eq_true rfl) ?_
          show xw _ _ _ _ _ _ _ _ _ _ [xvr 0, xvi n, xvi seed, xvi z27, xvi i5, xvi z30, u7_6] _ _
          refine And.intro (rfl) (And.intro (⟨by omega, by omega⟩) ?_)
          intro v31 e31 l31 h31
          have e31 : v31 = s3 4 i5.toNat := e31
          have wv31 : v31 = s3 4 i5.toNat := by rw [e31]
          refine And.intro (Nat.le_of_ble_eq_true rfl) ?_
          show xw _ _ _ _ _ _ _ _ _ _ [xvr 0, xvi n, xvi seed, xvi z27, xvi i5, xvi z30, xvi v31] _ _
          refine And.intro (rfl) (And.intro (⟨by omega, by omega⟩) ?_)
          intro v32 e32 l32 h32
          have e32 : v32 = s3 4 z30.toNat := e32
          have wv32 : v32 = s3 4 z30.toNat := by rw [e32]
          refine And.intro (rfl) (And.intro (⟨by omega, by omega⟩) ?_)
          have hF := hF.pt (t := 4) (j := i5.toNat) (v := v32) (by decide) (by decide)
          refine And.intro (rfl) (And.intro (⟨by omega, by omega⟩) ?_)
          have hF := hF.pt (t := 4) (j := z30.toNat) (v := v31) (by decide) (by decide)
          intro z35 t35 e35 l35 h35
          try have w35 : t35 = 0 := by omega
          show xw _ _ _ _ _ _ _ _ _ _ [xvr 0, xvi n, xvi seed, xvi z27, xvi z35, xvi z30, xvi v31] _ _
          exact ih_50 _ (show (z35 + 1).toNat < m50 from by omega) z27 z35 (xvi z30) (xvi v31) (xput (xput s3 4 i5.toNat v32) 4 z30.toNat v31) rfl (by
                      have eS : ∀ q, q ≠ i5.toNat → q ≠ z30.toNat → (xput (xput s3 4 i5.toNat v32) 4 z30.toNat v31) 4 q = s3 4 q := fun q h1 h2 => by rw [xput_o h2, xput_o h1]
                      have eJ : (xput (xput s3 4 i5.toNat v32) 4 z30.toNat v31) 4 z30.toNat = s3 4 i5.toNat := by rw [xput_s]; exact wv31
                      have eI : i5.toNat ≠ z30.toNat → (xput (xput s3 4 i5.toNat v32) 4 z30.toNat v31) 4 i5.toNat = s3 4 z30.toNat := fun h => by rw [xput_o h, xput_s]; exact wv32
                      refine ⟨hF, hz, h8, (fun q hq => ?_), (fun j hj => ?_), (show -1 ≤ z35 ∧ z35 < s3 0 9 from by omega), (show 0 ≤ s3 0 9 ∧ s3 0 9 ≤ 52 from h9)⟩
                      · have hq : (q : Int) < s3 0 9 := hq
                        by_cases c : q = z30.toNat
                        · rw [c, eJ]; exact hcd i5.toNat (by omega)
                        · by_cases d : q = i5.toNat
                          · rw [d, eI (by omega)]; exact hcd _ (by omega)
                          · rw [eS q d c]; exact hcd q hq
                      · show gcf ((xput (xput s3 4 i5.toNat v32) 4 z30.toNat v31) 4) 0 (s3 0 9) j ≤ 4
                        rw [gcf_swap (h := s3 4) (i := i5.toNat) (j := z30.toNat) (by omega) (by omega) (by omega) eJ eI (fun q h1 h2 => eS q h1 h2)]
                        exact hgc j hj)
      exact lp_50 _ seed z6 (xvu) (xvu) s1 rfl ⟨hF, hz, h8, hcd, (fun j hj => by have g := hgc j hj; split at g <;> omega), by omega, by omega⟩
    · refine And.intro (Nat.le_of_ble_eq_true rfl) ?_
      show xw _ _ _ _ _ _ _ _ _ _ [xvr 0, xvi n, xvi seed, xvi kd, xvi 0, xvu, xvu] _ _
      have lp_17 : ∀ (m17 : Nat) (i4 : Int) (s2 : xS), ((4 - i4).toNat) = m17 → (Fr [2, 3, 4] [8, 9] σ s2 ∧ (∀ i : Nat, i < 78 → s2 2 i = 0) ∧ s2 0 8 = 0 ∧ (∀ i : Nat, (i : Int) < s2 0 9 → 0 ≤ s2 4 i ∧ s2 4 i ≤ 12) ∧ (∀ j : Nat, j < 13 → gcf (s2 4) 0 (s2 0 9) j ≤ (if (j : Int) < kd then 4 else 0) + (if j = kd.toNat then i4 else 0)) ∧ (0 ≤ i4 ∧ i4 ≤ 4 ∧ s2 0 9 = 4 * kd + i4)) → X 17 [xvr 0, xvi n, xvi seed, xvi kd, xvi i4, xvu, xvu] s2 := by
        intro m17
        induction m17 using Nat.strongRecOn with
        | _ m17 ih_17 =>
        intro i4 s2 hm_17 hv_17
        obtain ⟨hF, hz, h8, hcd, hgc, hv_17⟩ := hv_17
        refine hX 400 17 _ _ ?_
        refine And.intro (fun c37 => ?_) (fun c37 => ?_)
        · intro z38 t38 e38 l38 h38
          try have w38 : t38 = 0 := by omega
          show xw _ _ _ _ _ _ _ _ _ _ [xvr 0, xvi n, xvi seed, xvi z38, xvi i4, xvu, xvu] _ _
          exact ih_6 _ (show (13 - z38).toNat < m6 from by omega) z38 (xvi i4) s2 rfl ⟨hF, hz, h8, hcd, (fun j hj => by
                      have g := hgc j hj
                      by_cases e : (j : Int) < kd
                      · rw [if_pos e, if_neg (show ¬ j = kd.toNat from by omega)] at g; rw [if_pos (by omega)]; omega
                      · rw [if_neg e] at g
                        by_cases e2 : j = kd.toNat
                        · rw [if_pos e2] at g; rw [if_pos (by omega)]; omega
                        · rw [if_neg e2] at g; rw [if_neg (by omega)]; omega), by omega⟩
        · refine sX2_addToHeap (σ := s2) (kind := kd) (by omega) (fun σ39 f39 p39 => ?_)
          have hF := hF.tr f39 (by decide) (by decide)
          have k2 : σ39 2 = s2 2 := f39.1 2 (by decide) (by decide)
          have k8 : σ39 0 8 = s2 0 8 := f39.2 8 (by decide)
          have pa : σ39 0 9 = s2 0 9 + 1 ∧ σ39 4 = up (s2 4) (s2 0 9).toNat kd := by
            rcases p39 with q | q
            · exact q.2
            · exfalso; omega
          intro z40 t40 e40 l40 h40
          try have w40 : t40 = 0 := by omega
          show xw _ _ _ _ _ _ _ _ _ _ [xvr 0, xvi n, xvi seed, xvi kd, xvi z40, xvu, xvu] _ _
          exact ih_17 _ (show (4 - z40).toNat < m17 from by omega) z40 σ39 rfl ⟨hF, (fun i hi => by rw [k2]; exact hz i hi), by omega, (fun i hi => by
                        rw [pa.2]
                        by_cases e : i = (s2 0 9).toNat
                        · rw [e, up_s]; omega
                        · rw [up_n e]; exact hcd i (by omega)), (fun j hj => by
                        have g := hgc j hj
                        rw [pa.1, gcf_add (h := s2 4) (h' := σ39 4) (a := 0) (b := s2 0 9) (by omega) (by omega) (fun i hi => by rw [pa.2, up_n hi]), pa.2, up_s]
                        by_cases e : j = kd.toNat
                        · rw [if_pos (show kd = (j : Int) from by omega), if_pos e]
                          rw [if_pos e] at g
                          omega
                        · rw [if_neg (show ¬ kd = (j : Int) from by omega), if_neg e]
                          rw [if_neg e] at g
                          omega), by omega⟩
      exact lp_17 _ 0 s1 rfl ⟨hF, hz, h8, hcd, (fun j hj => by have g := hgc j hj; split <;> omega), by omega⟩
  exact lp_6 _ 0 (xvu) σ1 rfl ⟨hF, p1.1, p1.2.1, (fun i hi => by have := p1.2.2; omega), (fun j hj => by rw [gcf_z (by have := p1.2.2; omega), if_neg (by omega)]; omega), (by have := p1.2.2; omega)⟩
