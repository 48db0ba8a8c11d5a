set_option maxHeartbeats 4000000 in
set_option maxRecDepth 100000 in
theorem sX2_startG {f : Nat → Int} {σ : xS} {Q : Option xV → xS → Prop} (hp0 : G0 σ f) (hp1 : VS 0 f) (hQ : ∀ σ' : xS, Fr [2, 3, 5, 6, 7, 8, 9, 10, 11, 12] [8, 14, 15, 16] σ σ' → (GR σ' (begF f) ∧ σ' 0 14 = begF f 4) → Q none σ') : xT kX2_start [xvr 0] σ Q := by
  refine ⟨Nat.le_of_ble_eq_true rfl, fun X hX => ?_⟩
  show X 0 [xvr 0, xvu, xvu] σ
  have hF : Fr [2, 3, 5, 6, 7, 8, 9, 10, 11, 12] [8, 14, 15, 16] σ σ := Fr.rf
  refine hX 400 0 _ _ ?_
  have hG0 := hp0
  refine And.intro (by decide) ?_
  generalize hfl1 : xfl σ 5 13 (-1) = σ1
  have f1 : Fr [5] [] σ σ1 := hfl1 ▸ Fr.fl (by decide)
  have v1 : ∀ j : Nat, j < 13 → σ1 5 j = (-1) := fun j hj => by rw [← hfl1]; exact xfl_in hj
  have hF := hF.tr f1 (by decide) (by decide)
  have hG0 := hG0.fr f1
  have c5 := v1
  refine And.intro (by decide) ?_
  generalize hfl2 : xfl σ1 6 6 0 = σ2
  have f2 : Fr [6] [] σ1 σ2 := hfl2 ▸ Fr.fl (by decide)
  have v2 : ∀ j : Nat, j < 6 → σ2 6 j = 0 := fun j hj => by rw [← hfl2]; exact xfl_in hj
  have hF := hF.tr f2 (by decide) (by decide)
  have hG0 := hG0.fr f2
  have c6 := v2
  have c5 : ∀ j : Nat, j < 13 → σ2 5 j = -1 := fun j hj => by rw [f2.1 5 (by decide) (by decide)]; exact c5 j hj
  refine And.intro (by decide) ?_
  generalize hfl3 : xfl σ2 7 6 0 = σ3
  have f3 : Fr [7] [] σ2 σ3 := hfl3 ▸ Fr.fl (by decide)
  have v3 : ∀ j : Nat, j < 6 → σ3 7 j = 0 := fun j hj => by rw [← hfl3]; exact xfl_in hj
  have hF := hF.tr f3 (by decide) (by decide)
  have hG0 := hG0.fr f3
  have c7 := v3
  have c5 : ∀ j : Nat, j < 13 → σ3 5 j = -1 := fun j hj => by rw [f3.1 5 (by decide) (by decide)]; exact c5 j hj
  have c6 : ∀ j : Nat, j < 6 → σ3 6 j = 0 := fun j hj => by rw [f3.1 6 (by decide) (by decide)]; exact c6 j hj
  refine And.intro (by decide) ?_
  generalize hfl4 : xfl σ3 8 6 (-1) = σ4
  have f4 : Fr [8] [] σ3 σ4 := hfl4 ▸ Fr.fl (by decide)
  have v4 : ∀ j : Nat, j < 6 → σ4 8 j = (-1) := fun j hj => by rw [← hfl4]; exact xfl_in hj
  have hF := hF.tr f4 (by decide) (by decide)
  have hG0 := hG0.fr f4
  have c8 := v4
  have c5 : ∀ j : Nat, j < 13 → σ4 5 j = -1 := fun j hj => by rw [f4.1 5 (by decide) (by decide)]; exact c5 j hj
  have c6 : ∀ j : Nat, j < 6 → σ4 6 j = 0 := fun j hj => by rw [f4.1 6 (by decide) (by decide)]; exact c6 j hj
  have c7 : ∀ j : Nat, j < 6 → σ4 7 j = 0 := fun j hj => by rw [f4.1 7 (by decide) (by decide)]; exact c7 j hj
  have hF := hF.p (j := 15) (v := 0) (by decide)
  have hF := hF.p (j := 16) (v := 0) (by decide)
  refine sX3_clearF (σ := (xput (xput σ4 0 15 0) 0 16 0)) (fun σ7 f7 p7 => ?_)
  have hF := hF.tr f7 (by decide) (by decide)
  have hG0 := (hG0.fr (ts := []) (js := [15, 16]) ((Fr.rf.p (by decide)).p (by decide)) : G0 (xput (xput σ4 0 15 0) 0 16 0) f).fr f7
  have hGR : GR σ7 f := hG0.gr (fun j hj => by rw [f7.1 5 (by decide) (by decide)]; exact c5 j hj) (fun j hj => by rw [f7.1 6 (by decide) (by decide)]; exact c6 j hj) (fun j hj => by rw [f7.1 7 (by decide) (by decide)]; exact c7 j hj) (fun j hj => by rw [f7.1 8 (by decide) (by decide)]; exact c8 j hj) p7.2.1 p7.2.2 (f7.2 15 (by decide)) (f7.2 16 (by decide)) p7.1
  refine And.intro (Nat.le_of_ble_eq_true rfl) ?_
  show xw _ _ _ _ _ _ _ _ _ _ [xvr 0, xvi 0, xvu] _ _
  have lp_51 : ∀ (m51 : Nat) (p : Int) (u8_2 : xV) (s1 : xS), ((6 - p).toNat) = m51 → (Fr [2, 3, 5, 6, 7, 8, 9, 10, 11, 12] [8, 14, 15, 16] σ s1 ∧ GR s1 (adP f p.toNat) ∧ (0 ≤ p ∧ p ≤ f 1)) → X 51 [xvr 0, xvi p, u8_2] s1 := by
    intro m51
    induction m51 using Nat.strongRecOn with
    | _ m51 ih_51 =>
    intro p u8_2 s1 hm_51 hv_51
    obtain ⟨hF, hG, hv_51⟩ := hv_51
    have m0 := hp1.1.1; have m1 := hp1.1.2.1
    obtain ⟨hVp, hMp, hVo⟩ := adP_v hp1 p.toNat (by omega)
    have n1 : s1 0 1 = f 1 := (hG.n0 (i := 1) (by decide)).trans (hVo 1 (by omega))
    have n0 : s1 0 0 = f 0 := (hG.n0 (i := 0) (by decide)).trans (hVo 0 (by omega))
    refine hX 400 51 _ _ ?_
    intro v9 e9 l9 h9
    have e9 : v9 = s1 0 1 := e9
    refine And.intro (fun c10 => ?_) (fun c10 => ?_)
    · refine And.intro (Nat.le_of_ble_eq_true rfl) ?_
      show xw _ _ _ _ _ _ _ _ _ _ [xvr 0, xvi 0, u8_2] _ _
      have lp_93 : ∀ (m93 : Nat) (p2 : Int) (u11_2 : xV) (s3 : xS), ((6 - p2).toNat) = m93 → (Fr [2, 3, 5, 6, 7, 8, 9, 10, 11, 12] [8, 14, 15, 16] σ s3 ∧ GR s3 (bkP (adP f (f 1).toNat) (f 0).toNat p2.toNat) ∧ (0 ≤ p2 ∧ p2 ≤ f 1)) → X 93 [xvr 0, xvi p2, u11_2] s3 := by
        intro m93
        induction m93 using Nat.strongRecOn with
        | _ m93 ih_93 =>
        intro p2 u11_2 s3 hm_93 hv_93
        obtain ⟨hF, hG3, hv_93⟩ := hv_93
        obtain ⟨hAv, hAm, hAo⟩ := adP_v hp1 (f 1).toNat (by omega)
        have hVA : VX (adP f (f 1).toNat) := ⟨hAv.v0 (by rw [hAo 1 (by omega)]; omega), hAm⟩
        obtain ⟨hV3, hB3⟩ := bkP_v (m := (f 0).toNat) (by omega) p2.toNat hVA (by omega)
        have n31 : s3 0 1 = f 1 := (hG3.n0 (i := 1) (by decide)).trans ((hB3 1 (by omega)).trans (hAo 1 (by omega)))
        have n30 : s3 0 0 = f 0 := (hG3.n0 (i := 0) (by decide)).trans ((hB3 0 (by omega)).trans (hAo 0 (by omega)))
        refine hX 400 93 _ _ ?_
        intro v12 e12 l12 h12
        have e12 : v12 = s3 0 1 := e12
        refine And.intro (fun c13 => ?_) (fun c13 => ?_)
        · have hk2 : p2.toNat = (f 1).toNat := by omega
          rw [hk2] at hG3 hV3 hB3
          refine sX2_settleG (σ := s3) (f := bkP (adP f (f 1).toNat) (f 0).toNat (f 1).toNat) (fr := 0) hG3 hV3 (by omega) (fun h => h) (fun σ14 f14 p14 => ?_)
          have hF := hF.tr f14 (by decide) (by decide)
          refine And.intro rfl (And.intro rfl ?_)
          exact hQ _ hF p14
        · refine And.intro (Nat.le_of_ble_eq_true rfl) ?_
          show xw _ _ _ _ _ _ _ _ _ _ [xvr 0, xvi p2, xvi 0] _ _
          have lp_103 : ∀ (m103 : Nat) (kd : Int) (s4 : xS), ((13 - kd).toNat) = m103 → (Fr [2, 3, 5, 6, 7, 8, 9, 10, 11, 12] [8, 14, 15, 16] σ s4 ∧ GR s4 (bkK (bkP (adP f (f 1).toNat) (f 0).toNat p2.toNat) p2.toNat kd.toNat) ∧ (0 ≤ kd ∧ kd ≤ f 0)) → X 103 [xvr 0, xvi p2, xvi kd] s4 := by
            intro m103
            induction m103 using Nat.strongRecOn with
            | _ m103 ih_103 =>
            intro kd s4 hm_103 hv_103
            obtain ⟨hF, hG4, hv_103⟩ := hv_103
            obtain ⟨hV4, hB4⟩ := bkK_v (p := p2.toNat) (by omega) kd.toNat hV3 (by omega)
            have n40 : s4 0 0 = f 0 := (hG4.n0 (i := 0) (by decide)).trans ((hB4 0 (by omega)).trans ((hB3 0 (by omega)).trans (hAo 0 (by omega))))
            refine hX 400 103 _ _ ?_
            intro v16 e16 l16 h16
            have e16 : v16 = s4 0 0 := e16
            refine And.intro (fun c17 => ?_) (fun c17 => ?_)
            · intro z18 t18 e18 l18 h18
              try have w18 : t18 = 0 := by omega
              show xw _ _ _ _ _ _ _ _ _ _ [xvr 0, xvi z18, xvi kd] _ _
              exact ih_93 _ (show (6 - z18).toNat < m93 from by omega) z18 (xvi kd) s4 rfl ⟨hF, (by rw [show z18.toNat = p2.toNat + 1 from by omega]; show GR s4 (bkK (bkP (adP f (f 1).toNat) (f 0).toNat p2.toNat) p2.toNat (f 0).toNat); rw [show (f 0).toNat = kd.toNat from by omega] at *; exact hG4), by omega⟩
            · refine sX2_layDownG (σ := s4) (f := bkK (bkP (adP f (f 1).toNat) (f 0).toNat p2.toNat) p2.toNat kd.toNat) (p := p2) (kind := kd) hG4 hV4 (by omega) (by omega) (fun r19 σ19 f19 p19 => ?_)
              have hF := hF.tr f19 (by decide) (by decide)
              intro z20 t20 e20 l20 h20
              try have w20 : t20 = 0 := by omega
              show xw _ _ _ _ _ _ _ _ _ _ [xvr 0, xvi p2, xvi z20] _ _
              exact ih_103 _ (show (13 - z20).toNat < m103 from by omega) z20 σ19 rfl ⟨hF, (by rw [show z20.toNat = kd.toNat + 1 from by omega]; exact p19.1), by omega⟩
          exact lp_103 _ 0 s3 rfl ⟨hF, hG3, by omega⟩
      exact lp_93 _ 0 (u8_2) s1 rfl ⟨hF, (by rw [show p.toNat = (f 1).toNat from by omega] at hG; exact hG), by omega⟩
    · refine And.intro (Nat.le_of_ble_eq_true rfl) ?_
      show xw _ _ _ _ _ _ _ _ _ _ [xvr 0, xvi p, xvi 0] _ _
      have lp_61 : ∀ (m61 : Nat) (i : Int) (s2 : xS), ((52 - i).toNat) = m61 → (Fr [2, 3, 5, 6, 7, 8, 9, 10, 11, 12] [8, 14, 15, 16] σ s2 ∧ GR s2 (adN (adP f p.toNat) p.toNat i.toNat) ∧ (0 ≤ i ∧ i ≤ cd f p.toNat)) → X 61 [xvr 0, xvi p, xvi i] s2 := by
        intro m61
        induction m61 using Nat.strongRecOn with
        | _ m61 ih_61 =>
        intro i s2 hm_61 hv_61
        obtain ⟨hF, hG2, hv_61⟩ := hv_61
        have hc := hp1.c52 (p := p.toNat) (by omega)
        have hz : (adP f p.toNat) (229 + p.toNat) = 0 := by
          have z := hVp.2.2.2.2.2.2 p.toNat (by omega)
          rw [if_neg (by omega)] at z; exact z
        have hNo : ∀ j, j < 229 ∨ 547 ≤ j → (adN (adP f p.toNat) p.toNat i.toNat) j = f j := fun j hj => ((adN_o (f := (adP f p.toNat)) hj (by omega) i.toNat (by omega) (by omega)).1).trans (hVo j hj)
        have hc3 : s2 3 p.toNat = cd f p.toNat := (hG2.vc (p := p) (by omega)).trans (cd_o (by omega) (fun j _ _ => hNo j (by omega)))
        have n21 : s2 0 1 = f 1 := (hG2.n0 (i := 1) (by decide)).trans (hNo 1 (by omega))
        have n20 : s2 0 0 = f 0 := (hG2.n0 (i := 0) (by decide)).trans (hNo 0 (by omega))
        have hNq : ∀ q, q < 6 → (adN (adP f p.toNat) p.toNat i.toNat) (229 + q) = if q < p.toNat then cd f q else if q = p.toNat then (i.toNat : Int) else 0 := fun q hq => by
          by_cases x : q = p.toNat
          · rw [x, if_neg (by omega), if_pos rfl, (adN_o (f := (adP f p.toNat)) (i := 0) (Or.inl (by decide)) (by omega) i.toNat (by omega) (by omega)).2]; omega
          · rw [adN_q hq (by omega) x (by omega) i.toNat (by omega), hVp.2.2.2.2.2.2 q hq, if_neg x]
            by_cases y : q < p.toNat
            · rw [if_pos (by omega), if_pos y]; exact sm_congr (fun j hj => hVo _ (by omega))
            · rw [if_neg (by omega), if_neg y]
        refine hX 400 61 _ _ ?_
        refine And.intro (rfl) (And.intro (⟨by omega, by omega⟩) ?_)
        intro v22 e22 l22 h22
        have e22 : v22 = s2 3 p.toNat := e22
        refine And.intro (fun c23 => ?_) (fun c23 => ?_)
        · intro z24 t24 e24 l24 h24
          try have w24 : t24 = 0 := by omega
          show xw _ _ _ _ _ _ _ _ _ _ [xvr 0, xvi z24, xvi i] _ _
          exact ih_51 _ (show (6 - z24).toNat < m51 from by omega) z24 (xvi i) s2 rfl ⟨hF, (by rw [show z24.toNat = p.toNat + 1 from by omega]; show GR s2 (adN (adP f p.toNat) p.toNat (cd f p.toNat).toNat); rw [show (cd f p.toNat).toNat = i.toNat from by omega]; exact hG2), by omega⟩
        · refine hh_add (σ := s2) (f := adN (adP f p.toNat) p.toNat i.toNat) (p := p) (by omega) (hG2.na hp1 (p := p.toNat) (i := i.toNat) (by omega) (by omega) (fun q hq => ?_)) hG2 (fun σ25 f25 p25 => ?_)
          · exact hNq q hq
          have hF := hF.tr f25 (by decide) (by decide)
          have q0 : σ25 0 0 = s2 0 0 := f25.2 0 (by decide)
          have q1 : σ25 0 1 = s2 0 1 := f25.2 1 (by decide)
          intro z26 t26 e26 l26 h26
          try have w26 : t26 = 0 := by omega
          show xw _ _ _ _ _ _ _ _ _ _ [xvr 0, xvi p, xvi z26] _ _
          exact ih_61 _ (show (52 - z26).toNat < m61 from by omega) z26 σ25 rfl ⟨hF, (by rw [show z26.toNat = i.toNat + 1 from by omega]; exact p25.1), by omega⟩
      exact lp_61 _ 0 s1 rfl ⟨hF, hG, by have := hp1.c52 (p := p.toNat) (by omega); omega⟩
  exact lp_51 _ 0 (xvu) σ7 rfl ⟨hF, hGR, by have := hp1.1.2.1; omega⟩

