set_option maxHeartbeats 4000000 in
set_option maxRecDepth 100000 in
theorem s_readHand {σ : xS} {Q : Option xV → xS → Prop} (hp0 : 0 ≤ σ 0 4 ∧ σ 0 4 ≤ σ 0 3 ∧ σ 0 3 ≤ 940) (hp1 : TH (σ 3) (σ 0 20)) (hQ : ∀ r : Int, ∀ σ' : xS, Fr [3] [4, 11, 12, 13, 14, 15, 16, 17] σ σ' → ((r = 1 ∧ TH (σ' 3) (σ' 0 20) ∧ σ' 0 3 = σ 0 3 ∧ σ 0 4 ≤ σ' 0 4 ∧ σ' 0 4 ≤ σ' 0 3 ∧ (σ' 0 11 = 3 → σ 0 4 < σ' 0 4)) ∨ r = 0) → Q (some (xvi r)) σ') : xT kX11_readHand [xvr 0] σ Q := by
  refine ⟨Nat.le_of_ble_eq_true rfl, fun X hX => ?_⟩
  show X 0 [xvr 0, xvu, xvu] σ
  have hF : Fr [3] [4, 11, 12, 13, 14, 15, 16, 17] σ σ := Fr.rf
  refine hX 400 0 _ _ ?_
  have hT := hp1
  have hm := hT.hd0
  refine s_next (σ := σ)  (show 0 ≤ σ 0 4 ∧ σ 0 4 ≤ σ 0 3 ∧ σ 0 3 ≤ 940 from by omega) (fun σ1 f1 p1 => ?_)
  have p1 : σ1 0 3 = (σ 0 3) ∧ (σ 0 4) ≤ σ1 0 4 ∧ σ1 0 4 ≤ σ1 0 3 ∧ (0 ≤ σ1 0 11 ∧ σ1 0 11 ≤ 4) ∧ (1 ≤ σ1 0 11 ∧ σ1 0 11 ≤ 3 → (σ 0 4) < σ1 0 4 ∧ 0 ≤ σ1 0 14) := p1
  have hF := hF.tr f1 (by decide) (by decide)
  have kt1 : σ1 3 = σ 3 := f1.1 3 (by decide) (by decide)
  have k20_1 : σ1 0 20 = σ 0 20 := f1.2 20 (by decide)
  have hT : TH (σ1 3) (σ1 0 20) := by rw [kt1, k20_1]; exact hT
  have q0_1 := congrFun kt1 0; have q1_1 := congrFun kt1 1; have q7_1 := congrFun kt1 7
  refine s_isName (σ := σ1)   (fun r2 p2 => ?_)
  have p2 : (r2 = 1 ∧ (σ1 0 11) = 1) ∨ (r2 = 0 ∧ (0 : Int) ≤ 0) := p2
  refine And.intro (fun c3 => ?_) (fun c3 => ?_)
  · replace p2 : (σ1 0 11) = 1 := by
      rcases p2 with q | q
      · exact q.2
      · exact absurd q.1 (by omega)
    refine And.intro (rfl) (And.intro (⟨by omega, by omega⟩) ?_)
    intro v4 e4 l4 h4
    have e4 : v4 = σ1 3 1 := e4
    have m0_v4 := hT.hd0
    refine s_find (σ := σ1) (from_ := 6) (many := v4) (show (6 = 0 ∨ 6 = 6) ∧ v4 ≤ 6 from by omega) (fun r5 p5 => ?_)
    have p5 : -1 ≤ r5 ∧ (r5 = -1 ∨ r5 < v4) := p5
    refine And.intro (Nat.le_of_ble_eq_true rfl) ?_
    show xw _ _ _ _ _ _ _ _ _ _ [xvr 0, xvi r5, xvu] _ _
    refine And.intro (fun c6 => ?_) (fun c6 => ?_)
    · refine s_next (σ := σ1)  (show 0 ≤ σ1 0 4 ∧ σ1 0 4 ≤ σ1 0 3 ∧ σ1 0 3 ≤ 940 from by omega) (fun σ7 f7 p7 => ?_)
      have p7 : σ7 0 3 = (σ1 0 3) ∧ (σ1 0 4) ≤ σ7 0 4 ∧ σ7 0 4 ≤ σ7 0 3 ∧ (0 ≤ σ7 0 11 ∧ σ7 0 11 ≤ 4) ∧ (1 ≤ σ7 0 11 ∧ σ7 0 11 ≤ 3 → (σ1 0 4) < σ7 0 4 ∧ 0 ≤ σ7 0 14) := p7
      have hF := hF.tr f7 (by decide) (by decide)
      have kt7 : σ7 3 = σ1 3 := f7.1 3 (by decide) (by decide)
      have k20_7 : σ7 0 20 = σ1 0 20 := f7.2 20 (by decide)
      have hT : TH (σ7 3) (σ7 0 20) := by rw [kt7, k20_7]; exact hT
      have q0_7 := congrFun kt7 0; have q1_7 := congrFun kt7 1; have q7_7 := congrFun kt7 7
      have hm3 := hT.hd0
      intro v8 e8 l8 h8
      have e8 : v8 = σ7 0 11 := e8
      refine And.intro (fun c9 => ?_) (fun c9 => ?_)
      · intro v10 e10 l10 h10
        have e10 : v10 = σ7 0 14 := e10
        refine And.intro (rfl) (And.intro (⟨by omega, by omega⟩) ?_)
        intro v11 e11 l11 h11
        have e11 : v11 = σ7 3 0 := e11
        have m0_v11 := hT.hd0
        refine And.intro (fun c12 => ?_) (fun c12 => ?_)
        · have hm2 := hT.hd0
          intro v13 e13 l13 h13
          have e13 : v13 = σ7 0 14 := e13
          refine And.intro (Nat.le_of_ble_eq_true rfl) ?_
          show xw _ _ _ _ _ _ _ _ _ _ [xvr 0, xvi r5, xvi v13] _ _
          intro z14 t14 e14 l14 h14
          try have w14 : t14 = 0 := by omega
          intro z15 t15 e15 l15 h15
          try have w15 : t15 = 0 := by omega
          intro z16 t16 e16 l16 h16
          try have w16 : t16 = 0 := by omega
          refine And.intro (rfl) (And.intro (⟨by omega, by omega⟩) ?_)
          intro v17 e17 l17 h17
          have e17 : v17 = σ7 3 z16.toNat := e17
          refine And.intro (fun c18 => ?_) (fun c18 => ?_)
          · refine s_next (σ := σ7)  (show 0 ≤ σ7 0 4 ∧ σ7 0 4 ≤ σ7 0 3 ∧ σ7 0 3 ≤ 940 from by omega) (fun σ19 f19 p19 => ?_)
            have p19 : σ19 0 3 = (σ7 0 3) ∧ (σ7 0 4) ≤ σ19 0 4 ∧ σ19 0 4 ≤ σ19 0 3 ∧ (0 ≤ σ19 0 11 ∧ σ19 0 11 ≤ 4) ∧ (1 ≤ σ19 0 11 ∧ σ19 0 11 ≤ 3 → (σ7 0 4) < σ19 0 4 ∧ 0 ≤ σ19 0 14) := p19
            have hF := hF.tr f19 (by decide) (by decide)
            have kt19 : σ19 3 = σ7 3 := f19.1 3 (by decide) (by decide)
            have k20_19 : σ19 0 20 = σ7 0 20 := f19.2 20 (by decide)
            have hT : TH (σ19 3) (σ19 0 20) := by rw [kt19, k20_19]; exact hT
            have q0_19 := congrFun kt19 0; have q1_19 := congrFun kt19 1; have q7_19 := congrFun kt19 7
            intro v20 e20 l20 h20
            have e20 : v20 = σ19 0 11 := e20
            refine And.intro (fun c21 => ?_) (fun c21 => ?_)
            · intro v22 e22 l22 h22
              have e22 : v22 = σ19 0 14 := e22
              refine s_isIn (σ := σ19) (v := v22) (low := 1) (high := 4)  (fun r23 p23 => ?_)
              have p23 : (r23 = 1 ∧ 1 ≤ v22 ∧ v22 ≤ 4) ∨ (r23 = 0 ∧ (v22 < 1 ∨ 4 < v22)) := p23
              refine And.intro (fun c24 => ?_) (fun c24 => ?_)
              · replace p23 : 1 ≤ v22 ∧ v22 ≤ 4 := by
                  rcases p23 with q | q
                  · exact q.2
                  · exact absurd q.1 (by omega)
                intro z25 t25 e25 l25 h25
                try have w25 : t25 = 0 := by omega
                refine And.intro (rfl) (And.intro (⟨by omega, by omega⟩) ?_)
                intro v26 e26 l26 h26
                have e26 : v26 = σ19 3 z25.toNat := e26
                have m1_v26 : 0 ≤ σ19 3 (571 + v13).toNat ∧ σ19 3 (571 + v13).toNat ≤ 4 := hT.pl (kd := v13) (by have := hT.hd0; omega)
                rw [show (571 + v13).toNat = z25.toNat from by omega] at m1_v26
                intro v27 e27 l27 h27
                have e27 : v27 = σ19 0 14 := e27
                intro z28 t28 e28 l28 h28
                try have w28 : t28 = 0 := by omega
                refine And.intro (fun c29 => ?_) (fun c29 => ?_)
                · intro z30 t30 e30 l30 h30
                  try have w30 : t30 = 0 := by omega
                  refine And.intro (rfl) (And.intro (⟨by omega, by omega⟩) ?_)
                  intro v31 e31 l31 h31
                  have e31 : v31 = σ19 3 z30.toNat := e31
                  have m1_v31 : 0 ≤ σ19 3 (571 + v13).toNat ∧ σ19 3 (571 + v13).toNat ≤ 4 := hT.pl (kd := v13) (by have := hT.hd0; omega)
                  rw [show (571 + v13).toNat = z30.toNat from by omega] at m1_v31
                  have jv31 : v31 = v26 := by rw [e31, e26, show z30 = z25 from by omega]
                  intro v32 e32 l32 h32
                  have e32 : v32 = σ19 0 14 := e32
                  intro z33 t33 e33 l33 h33
                  try have w33 : t33 = 0 := by omega
                  refine And.intro (rfl) (And.intro (⟨by omega, by omega⟩) ?_)
                  have hF := hF.pt (t := 3) (j := z30.toNat) (v := z33) (by decide) (by decide)
                  intro z35 t35 e35 l35 h35
                  try have w35 : t35 = 0 := by omega
                  intro z36 t36 e36 l36 h36
                  try have w36 : t36 = 0 := by omega
                  intro z37 t37 e37 l37 h37
                  try have w37 : t37 = 0 := by omega
                  intro v38 e38 l38 h38
                  have e38 : v38 = σ19 0 14 := e38
                  refine And.intro (rfl) (And.intro (⟨by omega, by omega⟩) ?_)
                  have hF := hF.pt (t := 3) (j := z37.toNat) (v := v38) (by decide) (by decide)
                  have hT : TH ((xput (xput σ19 3 z30.toNat z33) 3 z37.toNat v38) 3) ((xput (xput σ19 3 z30.toNat z33) 3 z37.toNat v38) 0 20) := by
                    have e3 : (xput (xput σ19 3 z30.toNat z33) 3 z37.toNat v38) 3 = up (up (σ19 3) (571 + v13).toNat z33) (60 + 13 * r5 + v13).toNat v38 := by
                      rw [xput_up, xput_up, show z30.toNat = (571 + v13).toNat from by omega, show z37.toNat = (60 + 13 * r5 + v13).toNat from by omega]
                    rw [e3]
                    exact hT.hand (by omega) (by omega) (by have q := congrFun kt19 z16.toNat; rw [show (60 + 13 * r5 + v13).toNat = z16.toNat from by omega]; omega) (by omega) (by rw [show (571 + v13).toNat = z30.toNat from by omega]; omega) (by omega)
                  refine s_next (σ := (xput (xput σ19 3 z30.toNat z33) 3 z37.toNat v38))  (show 0 ≤ σ19 0 4 ∧ σ19 0 4 ≤ σ19 0 3 ∧ σ19 0 3 ≤ 940 from by omega) (fun σ40 f40 p40 => ?_)
                  have p40 : σ40 0 3 = (σ19 0 3) ∧ (σ19 0 4) ≤ σ40 0 4 ∧ σ40 0 4 ≤ σ40 0 3 ∧ (0 ≤ σ40 0 11 ∧ σ40 0 11 ≤ 4) ∧ (1 ≤ σ40 0 11 ∧ σ40 0 11 ≤ 3 → (σ19 0 4) < σ40 0 4 ∧ 0 ≤ σ40 0 14) := p40
                  have hF := hF.tr f40 (by decide) (by decide)
                  have kt40 : σ40 3 = (xput (xput σ19 3 z30.toNat z33) 3 z37.toNat v38) 3 := f40.1 3 (by decide) (by decide)
                  have k20_40 : σ40 0 20 = σ19 0 20 := f40.2 20 (by decide)
                  have hT : TH (σ40 3) (σ40 0 20) := by rw [kt40, k20_40]; exact hT
                  have q0_40 := congrFun kt40 0; have q1_40 := congrFun kt40 1; have q7_40 := congrFun kt40 7
                  refine And.intro rfl ?_
                  refine And.intro (by omega) ?_
                  exact hQ _ _ hF (Or.inl ⟨by omega, hT, (show (σ40 0 3) = σ 0 3 ∧ σ 0 4 ≤ (σ40 0 4) ∧ (σ40 0 4) ≤ (σ40 0 3) ∧ ((σ40 0 11) = 3 → σ 0 4 < (σ40 0 4)) from by omega)⟩)
                · refine s_badF (σ := σ19) (kind := 5) (fun r41 σ41 f41 p41 => ?_)
                  have p41 : r41 = 0 := p41
                  have hF := hF.tr f41 (by decide) (by decide)
                  have kt41 : σ41 3 = σ19 3 := f41.1 3 (by decide) (by decide)
                  have k20_41 : σ41 0 20 = σ19 0 20 := f41.2 20 (by decide)
                  have hT : TH (σ41 3) (σ41 0 20) := by rw [kt41, k20_41]; exact hT
                  have q0_41 := congrFun kt41 0; have q1_41 := congrFun kt41 1; have q7_41 := congrFun kt41 7
                  refine And.intro rfl ?_
                  refine And.intro (by omega) ?_
                  exact hQ _ _ hF (Or.inr (by omega))
              · replace p23 : (v22 < 1 ∨ 4 < v22) := by
                  rcases p23 with q | q
                  · exact absurd q.1 (by omega)
                  · exact q.2
                refine s_badF (σ := σ19) (kind := 2) (fun r42 σ42 f42 p42 => ?_)
                have p42 : r42 = 0 := p42
                have hF := hF.tr f42 (by decide) (by decide)
                have kt42 : σ42 3 = σ19 3 := f42.1 3 (by decide) (by decide)
                have k20_42 : σ42 0 20 = σ19 0 20 := f42.2 20 (by decide)
                have hT : TH (σ42 3) (σ42 0 20) := by rw [kt42, k20_42]; exact hT
                have q0_42 := congrFun kt42 0; have q1_42 := congrFun kt42 1; have q7_42 := congrFun kt42 7
                refine And.intro rfl ?_
                refine And.intro (by omega) ?_
                exact hQ _ _ hF (Or.inr (by omega))
            · refine s_badF (σ := σ19) (kind := 1) (fun r43 σ43 f43 p43 => ?_)
              have p43 : r43 = 0 := p43
              have hF := hF.tr f43 (by decide) (by decide)
              have kt43 : σ43 3 = σ19 3 := f43.1 3 (by decide) (by decide)
              have k20_43 : σ43 0 20 = σ19 0 20 := f43.2 20 (by decide)
              have hT : TH (σ43 3) (σ43 0 20) := by rw [kt43, k20_43]; exact hT
              have q0_43 := congrFun kt43 0; have q1_43 := congrFun kt43 1; have q7_43 := congrFun kt43 7
              refine And.intro rfl ?_
              refine And.intro (by omega) ?_
              exact hQ _ _ hF (Or.inr (by omega))
          · refine s_badF (σ := σ7) (kind := 3) (fun r44 σ44 f44 p44 => ?_)
            have p44 : r44 = 0 := p44
            have hF := hF.tr f44 (by decide) (by decide)
            have kt44 : σ44 3 = σ7 3 := f44.1 3 (by decide) (by decide)
            have k20_44 : σ44 0 20 = σ7 0 20 := f44.2 20 (by decide)
            have hT : TH (σ44 3) (σ44 0 20) := by rw [kt44, k20_44]; exact hT
            have q0_44 := congrFun kt44 0; have q1_44 := congrFun kt44 1; have q7_44 := congrFun kt44 7
            refine And.intro rfl ?_
            refine And.intro (by omega) ?_
            exact hQ _ _ hF (Or.inr (by omega))
        · refine s_badF (σ := σ7) (kind := 2) (fun r45 σ45 f45 p45 => ?_)
          have p45 : r45 = 0 := p45
          have hF := hF.tr f45 (by decide) (by decide)
          have kt45 : σ45 3 = σ7 3 := f45.1 3 (by decide) (by decide)
          have k20_45 : σ45 0 20 = σ7 0 20 := f45.2 20 (by decide)
          have hT : TH (σ45 3) (σ45 0 20) := by rw [kt45, k20_45]; exact hT
          have q0_45 := congrFun kt45 0; have q1_45 := congrFun kt45 1; have q7_45 := congrFun kt45 7
          refine And.intro rfl ?_
          refine And.intro (by omega) ?_
          exact hQ _ _ hF (Or.inr (by omega))
      · refine s_badF (σ := σ7) (kind := 1) (fun r46 σ46 f46 p46 => ?_)
        have p46 : r46 = 0 := p46
        have hF := hF.tr f46 (by decide) (by decide)
        have kt46 : σ46 3 = σ7 3 := f46.1 3 (by decide) (by decide)
        have k20_46 : σ46 0 20 = σ7 0 20 := f46.2 20 (by decide)
        have hT : TH (σ46 3) (σ46 0 20) := by rw [kt46, k20_46]; exact hT
        have q0_46 := congrFun kt46 0; have q1_46 := congrFun kt46 1; have q7_46 := congrFun kt46 7
        refine And.intro rfl ?_
        refine And.intro (by omega) ?_
        exact hQ _ _ hF (Or.inr (by omega))
    · refine s_badF (σ := σ1) (kind := 3) (fun r47 σ47 f47 p47 => ?_)
      have p47 : r47 = 0 := p47
      have hF := hF.tr f47 (by decide) (by decide)
      have kt47 : σ47 3 = σ1 3 := f47.1 3 (by decide) (by decide)
      have k20_47 : σ47 0 20 = σ1 0 20 := f47.2 20 (by decide)
      have hT : TH (σ47 3) (σ47 0 20) := by rw [kt47, k20_47]; exact hT
      have q0_47 := congrFun kt47 0; have q1_47 := congrFun kt47 1; have q7_47 := congrFun kt47 7
      refine And.intro rfl ?_
      refine And.intro (by omega) ?_
      exact hQ _ _ hF (Or.inr (by omega))
  · replace p2 : (0 : Int) ≤ 0 := by
      rcases p2 with q | q
      · exact absurd q.1 (by omega)
      · exact q.2
    refine s_badF (σ := σ1) (kind := 1) (fun r48 σ48 f48 p48 => ?_)
    have p48 : r48 = 0 := p48
    have hF := hF.tr f48 (by decide) (by decide)
    have kt48 : σ48 3 = σ1 3 := f48.1 3 (by decide) (by decide)
    have k20_48 : σ48 0 20 = σ1 0 20 := f48.2 20 (by decide)
    have hT : TH (σ48 3) (σ48 0 20) := by rw [kt48, k20_48]; exact hT
    have q0_48 := congrFun kt48 0; have q1_48 := congrFun kt48 1; have q7_48 := congrFun kt48 7
    refine And.intro rfl ?_
    refine And.intro (by omega) ?_
    exact hQ _ _ hF (Or.inr (by omega))
set_option maxHeartbeats 4000000 in
set_option maxRecDepth 100000 in
theorem s_readHeap {σ : xS} {Q : Option xV → xS → Prop} (hp0 : 0 ≤ σ 0 4 ∧ σ 0 4 ≤ σ 0 3 ∧ σ 0 3 ≤ 940) (hp1 : TH (σ 3) (σ 0 20)) (hQ : ∀ r : Int, ∀ σ' : xS, Fr [3] [4, 11, 12, 13, 14, 15, 16, 17] σ σ' → ((r = 1 ∧ TH (σ' 3) (σ' 0 20) ∧ σ' 0 3 = σ 0 3 ∧ σ 0 4 ≤ σ' 0 4 ∧ σ' 0 4 ≤ σ' 0 3 ∧ (σ' 0 11 = 3 → σ 0 4 < σ' 0 4)) ∨ r = 0) → Q (some (xvi r)) σ') : xT kX11_readHeap [xvr 0] σ Q := by
  refine ⟨Nat.le_of_ble_eq_true rfl, fun X hX => ?_⟩
  show X 0 [xvr 0, xvu] σ
  have hF : Fr [3] [4, 11, 12, 13, 14, 15, 16, 17] σ σ := Fr.rf
  refine hX 400 0 _ _ ?_
  have hT := hp1
  have hm := hT.hd0
  refine s_next (σ := σ)  (show 0 ≤ σ 0 4 ∧ σ 0 4 ≤ σ 0 3 ∧ σ 0 3 ≤ 940 from by omega) (fun σ1 f1 p1 => ?_)
  have p1 : σ1 0 3 = (σ 0 3) ∧ (σ 0 4) ≤ σ1 0 4 ∧ σ1 0 4 ≤ σ1 0 3 ∧ (0 ≤ σ1 0 11 ∧ σ1 0 11 ≤ 4) ∧ (1 ≤ σ1 0 11 ∧ σ1 0 11 ≤ 3 → (σ 0 4) < σ1 0 4 ∧ 0 ≤ σ1 0 14) := p1
  have hF := hF.tr f1 (by decide) (by decide)
  have kt1 : σ1 3 = σ 3 := f1.1 3 (by decide) (by decide)
  have k20_1 : σ1 0 20 = σ 0 20 := f1.2 20 (by decide)
  have hT : TH (σ1 3) (σ1 0 20) := by rw [kt1, k20_1]; exact hT
  have q0_1 := congrFun kt1 0; have q1_1 := congrFun kt1 1; have q7_1 := congrFun kt1 7
  refine And.intro (Nat.le_of_ble_eq_true rfl) ?_
  show xw _ _ _ _ _ _ _ _ _ _ [xvr 0, xvi 1] _ _
  have lp_6 : ∀ (m6 : Nat) (more : Int) (s1 : xS), ((3 * (940 - s1 0 4) + (if s1 0 11 = 2 then 1 else 0) + more).toNat) = m6 → (Fr [3] [4, 11, 12, 13, 14, 15, 16, 17] σ s1 ∧ TH (s1 3) (s1 0 20) ∧ (s1 0 3 = σ 0 3 ∧ σ 0 4 ≤ s1 0 4 ∧ s1 0 4 ≤ s1 0 3 ∧ (0 ≤ s1 0 11 ∧ s1 0 11 ≤ 4) ∧ (1 ≤ s1 0 11 ∧ s1 0 11 ≤ 3 → σ 0 4 < s1 0 4 ∧ 0 ≤ s1 0 14)) ∧ (more = 0 ∨ more = 1)) → X 6 [xvr 0, xvi more] s1 := by
    intro m6
    induction m6 using Nat.strongRecOn with
    | _ m6 ih_6 =>
    intro more s1 hm_6 hv_6
    obtain ⟨hF, hT, hv_6, hmo⟩ := hv_6
    have hm := hT.hd0
    refine hX 400 6 _ _ ?_
    refine And.intro (fun c3 => ?_) (fun c3 => ?_)
    · refine And.intro rfl ?_
      refine And.intro (by omega) ?_
      exact hQ _ _ hF (Or.inl ⟨by omega, hT, (show (s1 0 3) = σ 0 3 ∧ σ 0 4 ≤ (s1 0 4) ∧ (s1 0 4) ≤ (s1 0 3) ∧ ((s1 0 11) = 3 → σ 0 4 < (s1 0 4)) from by omega)⟩)
    · intro v4 e4 l4 h4
      have e4 : v4 = s1 0 11 := e4
      refine And.intro (fun c5 => ?_) (fun c5 => ?_)
      · intro v6 e6 l6 h6
        have e6 : v6 = s1 0 14 := e6
        refine And.intro (rfl) (And.intro (⟨by omega, by omega⟩) ?_)
        intro v7 e7 l7 h7
        have e7 : v7 = s1 3 0 := e7
        refine And.intro (fun c8 => ?_) (fun c8 => ?_)
        · intro v9 e9 l9 h9
          have e9 : v9 = s1 0 14 := e9
          intro z10 t10 e10 l10 h10
          try have w10 : t10 = 0 := by omega
          refine And.intro (rfl) (And.intro (⟨by omega, by omega⟩) ?_)
          intro v11 e11 l11 h11
          have e11 : v11 = s1 3 z10.toNat := e11
          have m1_v11 : 0 ≤ s1 3 (571 + v9).toNat ∧ s1 3 (571 + v9).toNat ≤ 4 := hT.pl (kd := v9) (by have := hT.hd0; omega)
          rw [show (571 + v9).toNat = z10.toNat from by omega] at m1_v11
          refine And.intro (fun c12 => ?_) (fun c12 => ?_)
          · have h51 : s1 3 7 ≤ 51 := hT.h51 (kd := v9) (by have := hT.hd0; omega) (by rw [show (571 + v9).toNat = z10.toNat from by omega]; omega)
            intro v13 e13 l13 h13
            have e13 : v13 = s1 0 14 := e13
            intro z14 t14 e14 l14 h14
            try have w14 : t14 = 0 := by omega
            refine And.intro (rfl) (And.intro (⟨by omega, by omega⟩) ?_)
            intro v15 e15 l15 h15
            have e15 : v15 = s1 3 z14.toNat := e15
            have m1_v15 : 0 ≤ s1 3 (571 + v13).toNat ∧ s1 3 (571 + v13).toNat ≤ 4 := hT.pl (kd := v13) (by have := hT.hd0; omega)
            rw [show (571 + v13).toNat = z14.toNat from by omega] at m1_v15
            intro z16 t16 e16 l16 h16
            try have w16 : t16 = 0 := by omega
            refine And.intro (rfl) (And.intro (⟨by omega, by omega⟩) ?_)
            have hF := hF.pt (t := 3) (j := z14.toNat) (v := z16) (by decide) (by decide)
            refine And.intro (rfl) (And.intro (⟨by omega, by omega⟩) ?_)
            intro v18 e18 l18 h18
            have e18 : v18 = (xput s1 3 z14.toNat z16) 3 7 := e18
            rw [xput_o (by omega)] at e18
            intro z19 t19 e19 l19 h19
            try have w19 : t19 = 0 := by omega
            intro v20 e20 l20 h20
            have e20 : v20 = s1 0 14 := e20
            refine And.intro (rfl) (And.intro (⟨by omega, by omega⟩) ?_)
            have hF := hF.pt (t := 3) (j := z19.toNat) (v := v20) (by decide) (by decide)
            refine And.intro (rfl) (And.intro (⟨by omega, by omega⟩) ?_)
            intro v22 e22 l22 h22
            have e22 : v22 = (xput (xput s1 3 z14.toNat z16) 3 z19.toNat v20) 3 7 := e22
            rw [xput_o (by omega), xput_o (by omega)] at e22
            intro z23 t23 e23 l23 h23
            try have w23 : t23 = 0 := by omega
            refine And.intro (rfl) (And.intro (⟨by omega, by omega⟩) ?_)
            have hF := hF.pt (t := 3) (j := 7) (v := z23) (by decide) (by decide)
            have hT : TH ((xput (xput (xput s1 3 z14.toNat z16) 3 z19.toNat v20) 3 7 z23) 3) ((xput (xput (xput s1 3 z14.toNat z16) 3 z19.toNat v20) 3 7 z23) 0 20) := by
              have e3 : (xput (xput (xput s1 3 z14.toNat z16) 3 z19.toNat v20) 3 7 z23) 3 = up (up (up (s1 3) (571 + v13).toNat z16) (8 + s1 3 7).toNat v13) 7 z23 := by
                rw [xput_up, xput_up, xput_up, show z14.toNat = (571 + v13).toNat from by omega, show z19.toNat = (8 + s1 3 7).toNat from by omega, show v20 = v13 from by omega]
              rw [e3]
              exact hT.heap (by omega) (by rw [show (571 + v13).toNat = z10.toNat from by omega]; omega) (by rw [show (571 + v13).toNat = z14.toNat from by omega]; omega) (by omega)
            refine s_next (σ := (xput (xput (xput s1 3 z14.toNat z16) 3 z19.toNat v20) 3 7 z23))  (show 0 ≤ s1 0 4 ∧ s1 0 4 ≤ s1 0 3 ∧ s1 0 3 ≤ 940 from by omega) (fun σ25 f25 p25 => ?_)
            have p25 : σ25 0 3 = (s1 0 3) ∧ (s1 0 4) ≤ σ25 0 4 ∧ σ25 0 4 ≤ σ25 0 3 ∧ (0 ≤ σ25 0 11 ∧ σ25 0 11 ≤ 4) ∧ (1 ≤ σ25 0 11 ∧ σ25 0 11 ≤ 3 → (s1 0 4) < σ25 0 4 ∧ 0 ≤ σ25 0 14) := p25
            have hF := hF.tr f25 (by decide) (by decide)
            have kt25 : σ25 3 = (xput (xput (xput s1 3 z14.toNat z16) 3 z19.toNat v20) 3 7 z23) 3 := f25.1 3 (by decide) (by decide)
            have k20_25 : σ25 0 20 = s1 0 20 := f25.2 20 (by decide)
            have hT : TH (σ25 3) (σ25 0 20) := by rw [kt25, k20_25]; exact hT
            have q0_25 := congrFun kt25 0; have q1_25 := congrFun kt25 1; have q7_25 := congrFun kt25 7
            refine s_isSign (σ := σ25) (c := 59)  (fun r26 p26 => ?_)
            have p26 : (r26 = 1 ∧ (σ25 0 11) = 3 ∧ (σ25 0 14) = 59) ∨ (r26 = 0 ∧ (0 : Int) ≤ 0) := p26
            refine And.intro (fun c27 => ?_) (fun c27 => ?_)
            · replace p26 : (σ25 0 11) = 3 ∧ (σ25 0 14) = 59 := by
                rcases p26 with q | q
                · exact q.2
                · exact absurd q.1 (by omega)
              refine And.intro (Nat.le_of_ble_eq_true rfl) ?_
              show xw _ _ _ _ _ _ _ _ _ _ [xvr 0, xvi 0] _ _
              exact ih_6 _ (show (3 * (940 - (σ25 0 4)) + (if (σ25 0 11) = 2 then 1 else 0) + 0).toNat < m6 from by split <;> split at hm_6 <;> omega) 0 σ25 rfl ⟨hF, hT, by omega, by omega⟩
            · replace p26 : (0 : Int) ≤ 0 := by
                rcases p26 with q | q
                · exact absurd q.1 (by omega)
                · exact q.2
              refine And.intro (Nat.le_of_ble_eq_true rfl) ?_
              show xw _ _ _ _ _ _ _ _ _ _ [xvr 0, xvi 1] _ _
              exact ih_6 _ (show (3 * (940 - (σ25 0 4)) + (if (σ25 0 11) = 2 then 1 else 0) + 1).toNat < m6 from by split <;> split at hm_6 <;> omega) 1 σ25 rfl ⟨hF, hT, by omega, by omega⟩
          · refine s_badF (σ := s1) (kind := 5) (fun r28 σ28 f28 p28 => ?_)
            have p28 : r28 = 0 := p28
            have hF := hF.tr f28 (by decide) (by decide)
            have kt28 : σ28 3 = s1 3 := f28.1 3 (by decide) (by decide)
            have k20_28 : σ28 0 20 = s1 0 20 := f28.2 20 (by decide)
            have hT : TH (σ28 3) (σ28 0 20) := by rw [kt28, k20_28]; exact hT
            have q0_28 := congrFun kt28 0; have q1_28 := congrFun kt28 1; have q7_28 := congrFun kt28 7
            refine And.intro rfl ?_
            refine And.intro (by omega) ?_
            exact hQ _ _ hF (Or.inr (by omega))
        · refine s_badF (σ := s1) (kind := 2) (fun r29 σ29 f29 p29 => ?_)
          have p29 : r29 = 0 := p29
          have hF := hF.tr f29 (by decide) (by decide)
          have kt29 : σ29 3 = s1 3 := f29.1 3 (by decide) (by decide)
          have k20_29 : σ29 0 20 = s1 0 20 := f29.2 20 (by decide)
          have hT : TH (σ29 3) (σ29 0 20) := by rw [kt29, k20_29]; exact hT
          have q0_29 := congrFun kt29 0; have q1_29 := congrFun kt29 1; have q7_29 := congrFun kt29 7
          refine And.intro rfl ?_
          refine And.intro (by omega) ?_
          exact hQ _ _ hF (Or.inr (by omega))
      · refine s_badF (σ := s1) (kind := 1) (fun r30 σ30 f30 p30 => ?_)
        have p30 : r30 = 0 := p30
        have hF := hF.tr f30 (by decide) (by decide)
        have kt30 : σ30 3 = s1 3 := f30.1 3 (by decide) (by decide)
        have k20_30 : σ30 0 20 = s1 0 20 := f30.2 20 (by decide)
        have hT : TH (σ30 3) (σ30 0 20) := by rw [kt30, k20_30]; exact hT
        have q0_30 := congrFun kt30 0; have q1_30 := congrFun kt30 1; have q7_30 := congrFun kt30 7
        refine And.intro rfl ?_
        refine And.intro (by omega) ?_
        exact hQ _ _ hF (Or.inr (by omega))
  exact lp_6 _ 1 σ1 rfl ⟨hF, hT, by omega, by omega⟩
set_option maxHeartbeats 4000000 in
set_option maxRecDepth 100000 in
theorem s_line {σ : xS} {Q : Option xV → xS → Prop} (hp0 : 0 ≤ σ 0 4 ∧ σ 0 4 ≤ σ 0 3 ∧ σ 0 3 ≤ 940) (hp1 : TH (σ 3) (σ 0 20)) (hQ : ∀ r : Int, ∀ σ' : xS, Fr [3, 5] [4, 11, 12, 13, 14, 15, 16, 17, 18, 20, 21, 22] σ σ' → ((r = 1 ∧ TH (σ' 3) (σ' 0 20) ∧ σ' 0 3 = σ 0 3 ∧ σ 0 4 ≤ σ' 0 4 ∧ σ' 0 4 ≤ σ' 0 3 ∧ (σ' 0 11 = 3 → σ 0 4 < σ' 0 4)) ∨ r = 0) → Q (some (xvi r)) σ') : xT kX11_line [xvr 0] σ Q := by
  refine ⟨Nat.le_of_ble_eq_true rfl, fun X hX => ?_⟩
  show X 0 [xvr 0] σ
  have hF : Fr [3, 5] [4, 11, 12, 13, 14, 15, 16, 17, 18, 20, 21, 22] σ σ := Fr.rf
  refine hX 400 0 _ _ ?_
  have hT := hp1
  have hm := hT.hd0
  refine s_isWord (σ := σ) (w := 461330343027)  (fun r1 p1 => ?_)
  have p1 : (r1 = 1 ∧ (σ 0 11) = 1) ∨ (r1 = 0 ∧ (0 : Int) ≤ 0) := p1
  refine And.intro (fun c2 => ?_) (fun c2 => ?_)
  · replace p1 : (0 : Int) ≤ 0 := by
      rcases p1 with q | q
      · exact absurd q.1 (by omega)
      · exact q.2
    refine s_isWord (σ := σ) (w := 123581014175598)  (fun r3 p3 => ?_)
    have p3 : (r3 = 1 ∧ (σ 0 11) = 1) ∨ (r3 = 0 ∧ (0 : Int) ≤ 0) := p3
    refine And.intro (fun c4 => ?_) (fun c4 => ?_)
    · replace p3 : (0 : Int) ≤ 0 := by
        rcases p3 with q | q
        · exact absurd q.1 (by omega)
        · exact q.2
      refine s_isWord (σ := σ) (w := 1751215716)  (fun r5 p5 => ?_)
      have p5 : (r5 = 1 ∧ (σ 0 11) = 1) ∨ (r5 = 0 ∧ (0 : Int) ≤ 0) := p5
      refine And.intro (fun c6 => ?_) (fun c6 => ?_)
      · replace p5 : (0 : Int) ≤ 0 := by
          rcases p5 with q | q
          · exact absurd q.1 (by omega)
          · exact q.2
        refine s_isWord (σ := σ) (w := 1751474544)  (fun r7 p7 => ?_)
        have p7 : (r7 = 1 ∧ (σ 0 11) = 1) ∨ (r7 = 0 ∧ (0 : Int) ≤ 0) := p7
        refine And.intro (fun c8 => ?_) (fun c8 => ?_)
        · replace p7 : (0 : Int) ≤ 0 := by
            rcases p7 with q | q
            · exact absurd q.1 (by omega)
            · exact q.2
          refine s_isWord (σ := σ) (w := 418346264942)  (fun r9 p9 => ?_)
          have p9 : (r9 = 1 ∧ (σ 0 11) = 1) ∨ (r9 = 0 ∧ (0 : Int) ≤ 0) := p9
          refine And.intro (fun c10 => ?_) (fun c10 => ?_)
          · replace p9 : (0 : Int) ≤ 0 := by
              rcases p9 with q | q
              · exact absurd q.1 (by omega)
              · exact q.2
            refine s_isWord (σ := σ) (w := 125779835448428)  (fun r11 p11 => ?_)
            have p11 : (r11 = 1 ∧ (σ 0 11) = 1) ∨ (r11 = 0 ∧ (0 : Int) ≤ 0) := p11
            refine And.intro (fun c12 => ?_) (fun c12 => ?_)
            · replace p11 : (σ 0 11) = 1 := by
                rcases p11 with q | q
                · exact q.2
                · exact absurd q.1 (by omega)
              intro v13 e13 l13 h13
              have e13 : v13 = σ 0 22 := e13
              refine And.intro (fun c14 => ?_) (fun c14 => ?_)
              · refine And.intro (by omega) ?_
                have hF := hF.p (j := 22) (v := 1) (by decide)
                refine s_next (σ := (xput σ 0 22 1))  (show 0 ≤ σ 0 4 ∧ σ 0 4 ≤ σ 0 3 ∧ σ 0 3 ≤ 940 from by omega) (fun σ16 f16 p16 => ?_)
                have p16 : σ16 0 3 = (σ 0 3) ∧ (σ 0 4) ≤ σ16 0 4 ∧ σ16 0 4 ≤ σ16 0 3 ∧ (0 ≤ σ16 0 11 ∧ σ16 0 11 ≤ 4) ∧ (1 ≤ σ16 0 11 ∧ σ16 0 11 ≤ 3 → (σ 0 4) < σ16 0 4 ∧ 0 ≤ σ16 0 14) := p16
                have hF := hF.tr f16 (by decide) (by decide)
                have kt16 : σ16 3 = σ 3 := f16.1 3 (by decide) (by decide)
                have k20_16 : σ16 0 20 = σ 0 20 := f16.2 20 (by decide)
                have hT : TH (σ16 3) (σ16 0 20) := by rw [kt16, k20_16]; exact hT
                have q0_16 := congrFun kt16 0; have q1_16 := congrFun kt16 1; have q7_16 := congrFun kt16 7
                refine s_takes (σ := σ16) (low := 0) (high := 9) (show 0 ≤ σ16 0 4 ∧ σ16 0 4 ≤ σ16 0 3 ∧ σ16 0 3 ≤ 940 from by omega) (fun r17 σ17 f17 p17 => ?_)
                have p17 : (r17 = 1 ∧ (σ16 0 11) = 2 ∧ (0 ≤ σ17 0 18 ∧ σ17 0 18 ≤ 9) ∧ (σ17 0 3 = (σ16 0 3) ∧ (σ16 0 4) ≤ σ17 0 4 ∧ σ17 0 4 ≤ σ17 0 3 ∧ (0 ≤ σ17 0 11 ∧ σ17 0 11 ≤ 4) ∧ (1 ≤ σ17 0 11 ∧ σ17 0 11 ≤ 3 → (σ16 0 4) < σ17 0 4 ∧ 0 ≤ σ17 0 14))) ∨ (r17 = 0 ∧ (0 : Int) ≤ 0) := by
                  rcases p17 with q | q
                  · exact Or.inl q
                  · exact Or.inr ⟨q, by omega⟩
                have hF := hF.tr f17 (by decide) (by decide)
                have kt17 : σ17 3 = σ16 3 := f17.1 3 (by decide) (by decide)
                have k20_17 : σ17 0 20 = σ16 0 20 := f17.2 20 (by decide)
                have hT : TH (σ17 3) (σ17 0 20) := by rw [kt17, k20_17]; exact hT
                have q0_17 := congrFun kt17 0; have q1_17 := congrFun kt17 1; have q7_17 := congrFun kt17 7
                refine And.intro (fun c18 => ?_) (fun c18 => ?_)
                · replace p17 : (σ16 0 11) = 2 ∧ (0 ≤ σ17 0 18 ∧ σ17 0 18 ≤ 9) ∧ (σ17 0 3 = (σ16 0 3) ∧ (σ16 0 4) ≤ σ17 0 4 ∧ σ17 0 4 ≤ σ17 0 3 ∧ (0 ≤ σ17 0 11 ∧ σ17 0 11 ≤ 4) ∧ (1 ≤ σ17 0 11 ∧ σ17 0 11 ≤ 3 → (σ16 0 4) < σ17 0 4 ∧ 0 ≤ σ17 0 14)) := by
                    rcases p17 with q | q
                    · exact q.2
                    · exact absurd q.1 (by omega)
                  intro v19 e19 l19 h19
                  have e19 : v19 = σ17 0 18 := e19
                  refine And.intro (rfl) (And.intro (⟨by omega, by omega⟩) ?_)
                  have hF := hF.pt (t := 3) (j := 3) (v := v19) (by decide) (by decide)
                  refine And.intro rfl ?_
                  refine And.intro (by omega) ?_
                  have hT : TH ((xput σ17 3 3 v19) 3) ((xput σ17 3 3 v19) 0 20) := by
                    have e3 : (xput σ17 3 3 v19) 3 = up (σ17 3) 3 v19 := by first | exact xput_up | (rw [xput_up, xput_ne (by decide)])
                    rw [e3]
                    exact hT.k3 (by omega)
                  exact hQ _ _ hF (Or.inl ⟨by omega, hT, (show (σ17 0 3) = σ 0 3 ∧ σ 0 4 ≤ (σ17 0 4) ∧ (σ17 0 4) ≤ (σ17 0 3) ∧ ((σ17 0 11) = 3 → σ 0 4 < (σ17 0 4)) from by omega)⟩)
                · replace p17 : (0 : Int) ≤ 0 := by
                    rcases p17 with q | q
                    · exact absurd q.1 (by omega)
                    · exact q.2
                  refine And.intro rfl ?_
                  refine And.intro (by omega) ?_
                  exact hQ _ _ hF (Or.inr (by omega))
              · refine s_badF (σ := σ) (kind := 3) (fun r21 σ21 f21 p21 => ?_)
                have p21 : r21 = 0 := p21
                have hF := hF.tr f21 (by decide) (by decide)
                have kt21 : σ21 3 = σ 3 := f21.1 3 (by decide) (by decide)
                have k20_21 : σ21 0 20 = σ 0 20 := f21.2 20 (by decide)
                have hT : TH (σ21 3) (σ21 0 20) := by rw [kt21, k20_21]; exact hT
                have q0_21 := congrFun kt21 0; have q1_21 := congrFun kt21 1; have q7_21 := congrFun kt21 7
                refine And.intro rfl ?_
                refine And.intro (by omega) ?_
                exact hQ _ _ hF (Or.inr (by omega))
            · replace p11 : (0 : Int) ≤ 0 := by
                rcases p11 with q | q
                · exact absurd q.1 (by omega)
                · exact q.2
              refine s_badF (σ := σ) (kind := 1) (fun r22 σ22 f22 p22 => ?_)
              have p22 : r22 = 0 := p22
              have hF := hF.tr f22 (by decide) (by decide)
              have kt22 : σ22 3 = σ 3 := f22.1 3 (by decide) (by decide)
              have k20_22 : σ22 0 20 = σ 0 20 := f22.2 20 (by decide)
              have hT : TH (σ22 3) (σ22 0 20) := by rw [kt22, k20_22]; exact hT
              have q0_22 := congrFun kt22 0; have q1_22 := congrFun kt22 1; have q7_22 := congrFun kt22 7
              refine And.intro rfl ?_
              refine And.intro (by omega) ?_
              exact hQ _ _ hF (Or.inr (by omega))
          · replace p9 : (σ 0 11) = 1 := by
              rcases p9 with q | q
              · exact q.2
              · exact absurd q.1 (by omega)
            intro v23 e23 l23 h23
            have e23 : v23 = σ 0 21 := e23
            refine And.intro (fun c24 => ?_) (fun c24 => ?_)
            · refine And.intro (by omega) ?_
              have hF := hF.p (j := 21) (v := 1) (by decide)
              refine And.intro (rfl) (And.intro (⟨by omega, by omega⟩) ?_)
              have hF := hF.pt (t := 3) (j := 2) (v := 1) (by decide) (by decide)
              have hT : TH ((xput (xput σ 0 21 1) 3 2 1) 3) ((xput (xput σ 0 21 1) 3 2 1) 0 20) := by
                have e3 : (xput (xput σ 0 21 1) 3 2 1) 3 = up (σ 3) 2 1 := by first | exact xput_up | (rw [xput_up, xput_ne (by decide)])
                rw [e3]
                exact hT.k2
              refine s_next (σ := (xput (xput σ 0 21 1) 3 2 1))  (show 0 ≤ σ 0 4 ∧ σ 0 4 ≤ σ 0 3 ∧ σ 0 3 ≤ 940 from by omega) (fun σ27 f27 p27 => ?_)
              have p27 : σ27 0 3 = (σ 0 3) ∧ (σ 0 4) ≤ σ27 0 4 ∧ σ27 0 4 ≤ σ27 0 3 ∧ (0 ≤ σ27 0 11 ∧ σ27 0 11 ≤ 4) ∧ (1 ≤ σ27 0 11 ∧ σ27 0 11 ≤ 3 → (σ 0 4) < σ27 0 4 ∧ 0 ≤ σ27 0 14) := p27
              have hF := hF.tr f27 (by decide) (by decide)
              have kt27 : σ27 3 = (xput (xput σ 0 21 1) 3 2 1) 3 := f27.1 3 (by decide) (by decide)
              have k20_27 : σ27 0 20 = σ 0 20 := f27.2 20 (by decide)
              have hT : TH (σ27 3) (σ27 0 20) := by rw [kt27, k20_27]; exact hT
              have q0_27 := congrFun kt27 0; have q1_27 := congrFun kt27 1; have q7_27 := congrFun kt27 7
              refine And.intro rfl ?_
              refine And.intro (by omega) ?_
              exact hQ _ _ hF (Or.inl ⟨by omega, hT, (show (σ27 0 3) = σ 0 3 ∧ σ 0 4 ≤ (σ27 0 4) ∧ (σ27 0 4) ≤ (σ27 0 3) ∧ ((σ27 0 11) = 3 → σ 0 4 < (σ27 0 4)) from by omega)⟩)
            · refine s_badF (σ := σ) (kind := 3) (fun r28 σ28 f28 p28 => ?_)
              have p28 : r28 = 0 := p28
              have hF := hF.tr f28 (by decide) (by decide)
              have kt28 : σ28 3 = σ 3 := f28.1 3 (by decide) (by decide)
              have k20_28 : σ28 0 20 = σ 0 20 := f28.2 20 (by decide)
              have hT : TH (σ28 3) (σ28 0 20) := by rw [kt28, k20_28]; exact hT
              have q0_28 := congrFun kt28 0; have q1_28 := congrFun kt28 1; have q7_28 := congrFun kt28 7
              refine And.intro rfl ?_
              refine And.intro (by omega) ?_
              exact hQ _ _ hF (Or.inr (by omega))
        · replace p7 : (σ 0 11) = 1 := by
            rcases p7 with q | q
            · exact q.2
            · exact absurd q.1 (by omega)
          refine s_readHeap (σ := σ) (show 0 ≤ σ 0 4 ∧ σ 0 4 ≤ σ 0 3 ∧ σ 0 3 ≤ 940 from by omega) hT (fun r29 σ29 f29 p29 => ?_)
          have p29 : (r29 = 1 ∧ TH (σ29 3) (σ29 0 20) ∧ σ29 0 3 = (σ 0 3) ∧ (σ 0 4) ≤ σ29 0 4 ∧ σ29 0 4 ≤ σ29 0 3 ∧ (σ29 0 11 = 3 → (σ 0 4) < σ29 0 4)) ∨ r29 = 0 := p29
          have hF := hF.tr f29 (by decide) (by decide)
          refine And.intro rfl ?_
          refine And.intro (by omega) ?_
          exact hQ _ _ hF p29
      · replace p5 : (σ 0 11) = 1 := by
          rcases p5 with q | q
          · exact q.2
          · exact absurd q.1 (by omega)
        refine s_readHand (σ := σ) (show 0 ≤ σ 0 4 ∧ σ 0 4 ≤ σ 0 3 ∧ σ 0 3 ≤ 940 from by omega) hT (fun r30 σ30 f30 p30 => ?_)
        have p30 : (r30 = 1 ∧ TH (σ30 3) (σ30 0 20) ∧ σ30 0 3 = (σ 0 3) ∧ (σ 0 4) ≤ σ30 0 4 ∧ σ30 0 4 ≤ σ30 0 3 ∧ (σ30 0 11 = 3 → (σ 0 4) < σ30 0 4)) ∨ r30 = 0 := p30
        have hF := hF.tr f30 (by decide) (by decide)
        refine And.intro rfl ?_
        refine And.intro (by omega) ?_
        exact hQ _ _ hF p30
    · replace p3 : (σ 0 11) = 1 := by
        rcases p3 with q | q
        · exact q.2
        · exact absurd q.1 (by omega)
      refine And.intro (rfl) (And.intro (⟨by omega, by omega⟩) ?_)
      intro v31 e31 l31 h31
      have e31 : v31 = σ 3 1 := e31
      have m0_v31 := hT.hd0
      refine And.intro (fun c32 => ?_) (fun c32 => ?_)
      · refine s_next (σ := σ)  (show 0 ≤ σ 0 4 ∧ σ 0 4 ≤ σ 0 3 ∧ σ 0 3 ≤ 940 from by omega) (fun σ33 f33 p33 => ?_)
        have p33 : σ33 0 3 = (σ 0 3) ∧ (σ 0 4) ≤ σ33 0 4 ∧ σ33 0 4 ≤ σ33 0 3 ∧ (0 ≤ σ33 0 11 ∧ σ33 0 11 ≤ 4) ∧ (1 ≤ σ33 0 11 ∧ σ33 0 11 ≤ 3 → (σ 0 4) < σ33 0 4 ∧ 0 ≤ σ33 0 14) := p33
        have hF := hF.tr f33 (by decide) (by decide)
        have kt33 : σ33 3 = σ 3 := f33.1 3 (by decide) (by decide)
        have k20_33 : σ33 0 20 = σ 0 20 := f33.2 20 (by decide)
        have hT : TH (σ33 3) (σ33 0 20) := by rw [kt33, k20_33]; exact hT
        have q0_33 := congrFun kt33 0; have q1_33 := congrFun kt33 1; have q7_33 := congrFun kt33 7
        refine s_isName (σ := σ33)   (fun r34 p34 => ?_)
        have p34 : (r34 = 1 ∧ (σ33 0 11) = 1) ∨ (r34 = 0 ∧ (0 : Int) ≤ 0) := p34
        refine And.intro (fun c35 => ?_) (fun c35 => ?_)
        · replace p34 : (σ33 0 11) = 1 := by
            rcases p34 with q | q
            · exact q.2
            · exact absurd q.1 (by omega)
          refine And.intro (rfl) (And.intro (⟨by omega, by omega⟩) ?_)
          intro v36 e36 l36 h36
          have e36 : v36 = σ33 3 1 := e36
          have m0_v36 := hT.hd0
          refine s_find (σ := σ33) (from_ := 6) (many := v36) (show (6 = 0 ∨ 6 = 6) ∧ v36 ≤ 6 from by omega) (fun r37 p37 => ?_)
          have p37 : -1 ≤ r37 ∧ (r37 = -1 ∨ r37 < v36) := p37
          refine And.intro (fun c38 => ?_) (fun c38 => ?_)
          · refine And.intro (rfl) (And.intro (⟨by omega, by omega⟩) ?_)
            intro v39 e39 l39 h39
            have e39 : v39 = σ33 3 1 := e39
            have m0_v39 := hT.hd0
            intro z40 t40 e40 l40 h40
            try have w40 : t40 = 0 := by omega
            intro v41 e41 l41 h41
            have e41 : v41 = σ33 0 17 := e41
            refine And.intro rfl (And.intro (⟨by omega, by omega⟩) ?_)
            have hF := hF.pt (t := 5) (j := z40.toNat) (v := v41) (by decide) (by decide)
            refine And.intro (rfl) (And.intro (⟨by omega, by omega⟩) ?_)
            intro v43 e43 l43 h43
            have e43 : v43 = σ33 3 1 := e43
            have m0_v43 := hT.hd0
            intro z44 t44 e44 l44 h44
            try have w44 : t44 = 0 := by omega
            refine And.intro (rfl) (And.intro (⟨by omega, by omega⟩) ?_)
            have hF := hF.pt (t := 3) (j := 1) (v := z44) (by decide) (by decide)
            have hT : TH ((xput (xput σ33 5 z40.toNat v41) 3 1 z44) 3) ((xput (xput σ33 5 z40.toNat v41) 3 1 z44) 0 20) := by
              have e3 : (xput (xput σ33 5 z40.toNat v41) 3 1 z44) 3 = up (σ33 3) 1 z44 := by first | exact xput_up | (rw [xput_up, xput_ne (by decide)])
              rw [e3]
              exact hT.k1 (by omega) (by omega)
            refine s_next (σ := (xput (xput σ33 5 z40.toNat v41) 3 1 z44))  (show 0 ≤ σ33 0 4 ∧ σ33 0 4 ≤ σ33 0 3 ∧ σ33 0 3 ≤ 940 from by omega) (fun σ46 f46 p46 => ?_)
            have p46 : σ46 0 3 = (σ33 0 3) ∧ (σ33 0 4) ≤ σ46 0 4 ∧ σ46 0 4 ≤ σ46 0 3 ∧ (0 ≤ σ46 0 11 ∧ σ46 0 11 ≤ 4) ∧ (1 ≤ σ46 0 11 ∧ σ46 0 11 ≤ 3 → (σ33 0 4) < σ46 0 4 ∧ 0 ≤ σ46 0 14) := p46
            have hF := hF.tr f46 (by decide) (by decide)
            have kt46 : σ46 3 = (xput (xput σ33 5 z40.toNat v41) 3 1 z44) 3 := f46.1 3 (by decide) (by decide)
            have k20_46 : σ46 0 20 = σ33 0 20 := f46.2 20 (by decide)
            have hT : TH (σ46 3) (σ46 0 20) := by rw [kt46, k20_46]; exact hT
            have q0_46 := congrFun kt46 0; have q1_46 := congrFun kt46 1; have q7_46 := congrFun kt46 7
            refine And.intro rfl ?_
            refine And.intro (by omega) ?_
            exact hQ _ _ hF (Or.inl ⟨by omega, hT, (show (σ46 0 3) = σ 0 3 ∧ σ 0 4 ≤ (σ46 0 4) ∧ (σ46 0 4) ≤ (σ46 0 3) ∧ ((σ46 0 11) = 3 → σ 0 4 < (σ46 0 4)) from by omega)⟩)
          · refine s_badF (σ := σ33) (kind := 3) (fun r47 σ47 f47 p47 => ?_)
            have p47 : r47 = 0 := p47
            have hF := hF.tr f47 (by decide) (by decide)
            have kt47 : σ47 3 = σ33 3 := f47.1 3 (by decide) (by decide)
            have k20_47 : σ47 0 20 = σ33 0 20 := f47.2 20 (by decide)
            have hT : TH (σ47 3) (σ47 0 20) := by rw [kt47, k20_47]; exact hT
            have q0_47 := congrFun kt47 0; have q1_47 := congrFun kt47 1; have q7_47 := congrFun kt47 7
            refine And.intro rfl ?_
            refine And.intro (by omega) ?_
            exact hQ _ _ hF (Or.inr (by omega))
        · replace p34 : (0 : Int) ≤ 0 := by
            rcases p34 with q | q
            · exact absurd q.1 (by omega)
            · exact q.2
          refine s_badF (σ := σ33) (kind := 1) (fun r48 σ48 f48 p48 => ?_)
          have p48 : r48 = 0 := p48
          have hF := hF.tr f48 (by decide) (by decide)
          have kt48 : σ48 3 = σ33 3 := f48.1 3 (by decide) (by decide)
          have k20_48 : σ48 0 20 = σ33 0 20 := f48.2 20 (by decide)
          have hT : TH (σ48 3) (σ48 0 20) := by rw [kt48, k20_48]; exact hT
          have q0_48 := congrFun kt48 0; have q1_48 := congrFun kt48 1; have q7_48 := congrFun kt48 7
          refine And.intro rfl ?_
          refine And.intro (by omega) ?_
          exact hQ _ _ hF (Or.inr (by omega))
      · refine s_badF (σ := σ) (kind := 4) (fun r49 σ49 f49 p49 => ?_)
        have p49 : r49 = 0 := p49
        have hF := hF.tr f49 (by decide) (by decide)
        have kt49 : σ49 3 = σ 3 := f49.1 3 (by decide) (by decide)
        have k20_49 : σ49 0 20 = σ 0 20 := f49.2 20 (by decide)
        have hT : TH (σ49 3) (σ49 0 20) := by rw [kt49, k20_49]; exact hT
        have q0_49 := congrFun kt49 0; have q1_49 := congrFun kt49 1; have q7_49 := congrFun kt49 7
        refine And.intro rfl ?_
        refine And.intro (by omega) ?_
        exact hQ _ _ hF (Or.inr (by omega))
  · replace p1 : (σ 0 11) = 1 := by
      rcases p1 with q | q
      · exact q.2
      · exact absurd q.1 (by omega)
    intro v50 e50 l50 h50
    have e50 : v50 = σ 0 20 := e50
    refine And.intro (fun c51 => ?_) (fun c51 => ?_)
    · have hz := hT.2.2 (by omega)
      refine And.intro (by omega) ?_
      have hF := hF.p (j := 20) (v := 1) (by decide)
      have hT : TH ((xput σ 0 20 1) 3) ((xput σ 0 20 1) 0 20) := by
        show TH (σ 3) 1
        exact hT.kk (by omega)
      refine s_next (σ := (xput σ 0 20 1))  (show 0 ≤ σ 0 4 ∧ σ 0 4 ≤ σ 0 3 ∧ σ 0 3 ≤ 940 from by omega) (fun σ53 f53 p53 => ?_)
      have p53 : σ53 0 3 = (σ 0 3) ∧ (σ 0 4) ≤ σ53 0 4 ∧ σ53 0 4 ≤ σ53 0 3 ∧ (0 ≤ σ53 0 11 ∧ σ53 0 11 ≤ 4) ∧ (1 ≤ σ53 0 11 ∧ σ53 0 11 ≤ 3 → (σ 0 4) < σ53 0 4 ∧ 0 ≤ σ53 0 14) := p53
      have hF := hF.tr f53 (by decide) (by decide)
      have kt53 : σ53 3 = σ 3 := f53.1 3 (by decide) (by decide)
      have k20_53 : σ53 0 20 = 1 := f53.2 20 (by decide)
      have hT : TH (σ53 3) (σ53 0 20) := by rw [kt53, k20_53]; exact hT
      have q0_53 := congrFun kt53 0; have q1_53 := congrFun kt53 1; have q7_53 := congrFun kt53 7
      refine s_takes (σ := σ53) (low := 2) (high := 13) (show 0 ≤ σ53 0 4 ∧ σ53 0 4 ≤ σ53 0 3 ∧ σ53 0 3 ≤ 940 from by omega) (fun r54 σ54 f54 p54 => ?_)
      have p54 : (r54 = 1 ∧ (σ53 0 11) = 2 ∧ (2 ≤ σ54 0 18 ∧ σ54 0 18 ≤ 13) ∧ (σ54 0 3 = (σ53 0 3) ∧ (σ53 0 4) ≤ σ54 0 4 ∧ σ54 0 4 ≤ σ54 0 3 ∧ (0 ≤ σ54 0 11 ∧ σ54 0 11 ≤ 4) ∧ (1 ≤ σ54 0 11 ∧ σ54 0 11 ≤ 3 → (σ53 0 4) < σ54 0 4 ∧ 0 ≤ σ54 0 14))) ∨ (r54 = 0 ∧ (0 : Int) ≤ 0) := by
        rcases p54 with q | q
        · exact Or.inl q
        · exact Or.inr ⟨q, by omega⟩
      have hF := hF.tr f54 (by decide) (by decide)
      have kt54 : σ54 3 = σ53 3 := f54.1 3 (by decide) (by decide)
      have k20_54 : σ54 0 20 = σ53 0 20 := f54.2 20 (by decide)
      have hT : TH (σ54 3) (σ54 0 20) := by rw [kt54, k20_54]; exact hT
      have q0_54 := congrFun kt54 0; have q1_54 := congrFun kt54 1; have q7_54 := congrFun kt54 7
      refine And.intro (fun c55 => ?_) (fun c55 => ?_)
      · replace p54 : (σ53 0 11) = 2 ∧ (2 ≤ σ54 0 18 ∧ σ54 0 18 ≤ 13) ∧ (σ54 0 3 = (σ53 0 3) ∧ (σ53 0 4) ≤ σ54 0 4 ∧ σ54 0 4 ≤ σ54 0 3 ∧ (0 ≤ σ54 0 11 ∧ σ54 0 11 ≤ 4) ∧ (1 ≤ σ54 0 11 ∧ σ54 0 11 ≤ 3 → (σ53 0 4) < σ54 0 4 ∧ 0 ≤ σ54 0 14)) := by
          rcases p54 with q | q
          · exact q.2
          · exact absurd q.1 (by omega)
        intro v56 e56 l56 h56
        have e56 : v56 = σ54 0 18 := e56
        refine And.intro (rfl) (And.intro (⟨by omega, by omega⟩) ?_)
        have hF := hF.pt (t := 3) (j := 0) (v := v56) (by decide) (by decide)
        refine And.intro rfl ?_
        refine And.intro (by omega) ?_
        have hT : TH ((xput σ54 3 0 v56) 3) ((xput σ54 3 0 v56) 0 20) := by
          show TH (xput σ54 3 0 v56 3) (σ54 0 20)
          rw [xput_up]
          exact hT.k0 (by omega) (by omega) (by omega)
        exact hQ _ _ hF (Or.inl ⟨by omega, hT, (show (σ54 0 3) = σ 0 3 ∧ σ 0 4 ≤ (σ54 0 4) ∧ (σ54 0 4) ≤ (σ54 0 3) ∧ ((σ54 0 11) = 3 → σ 0 4 < (σ54 0 4)) from by omega)⟩)
      · replace p54 : (0 : Int) ≤ 0 := by
          rcases p54 with q | q
          · exact absurd q.1 (by omega)
          · exact q.2
        refine And.intro rfl ?_
        refine And.intro (by omega) ?_
        exact hQ _ _ hF (Or.inr (by omega))
    · refine s_badF (σ := σ) (kind := 3) (fun r58 σ58 f58 p58 => ?_)
      have p58 : r58 = 0 := p58
      have hF := hF.tr f58 (by decide) (by decide)
      have kt58 : σ58 3 = σ 3 := f58.1 3 (by decide) (by decide)
      have k20_58 : σ58 0 20 = σ 0 20 := f58.2 20 (by decide)
      have hT : TH (σ58 3) (σ58 0 20) := by rw [kt58, k20_58]; exact hT
      have q0_58 := congrFun kt58 0; have q1_58 := congrFun kt58 1; have q7_58 := congrFun kt58 7
      refine And.intro rfl ?_
      refine And.intro (by omega) ?_
      exact hQ _ _ hF (Or.inr (by omega))
