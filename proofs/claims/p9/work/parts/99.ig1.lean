set_option maxHeartbeats 4000000 in
set_option maxRecDepth 100000 in
theorem s_oddsK {σ : xS} {o q kind what : Int} {Q : Option xV → xS → Prop} (hI : RI σ) (hQ : ∀ r : Int, ∀ σ' : xS, RKs σ σ' → Q (some (xvl r)) σ') : xT kX11_odds [xvr 0, xvi o, xvi q, xvi kind, xvi what] σ Q := by
  refine ⟨Nat.le_of_ble_eq_true rfl, fun X hX => ?_⟩
  show X 0 [xvr 0, xvi o, xvi q, xvi kind, xvi what, xvu, xvu] σ
  have hI : RKs σ σ := RKs.rf hI
  have hb0 := hI.1.kinds; have hb1 := hI.1.persons
  refine hX 400 0 _ _ ?_
  refine s_isPerson (σ := σ) (k := o) hI.1  (fun r1 p1 => ?_)
  have p1 : (r1 = 1 ∧ 0 ≤ o ∧ o < (σ 2 1)) ∨ (r1 = 0 ∧ (o < 0 ∨ (σ 2 1) ≤ o)) := p1
  refine And.intro (fun c2 => ?_) (fun c2 => ?_)
  · replace p1 : (o < 0 ∨ (σ 2 1) ≤ o) := by
      rcases p1 with q | q
      · exact absurd q.1 (by omega)
      · exact q.2
    refine s_throwsIfF (σ := σ) (is := 1) (by omega) (fun r3 σ3 f3 p3 => ?_)
    have hI := hI.fr f3 (by decide) (by decide) (by decide) (by decide) (by decide) (by decide) (by decide)
    have k2_3 : σ3 2 = σ 2 := f3.1 2 (by decide) (by decide)
    have k20_3 := congrFun k2_3 0; have k21_3 := congrFun k2_3 1
    refine And.intro (fun c4 => ?_) (fun c4 => ?_)
    · exfalso; omega
    · refine And.intro rfl (And.intro rfl ?_)
      exact hQ _ _ hI 
  · replace p1 : 0 ≤ o ∧ o < (σ 2 1) := by
      rcases p1 with q | q
      · exact q.2
      · exact absurd q.1 (by omega)
    refine s_isPerson (σ := σ) (k := q) hI.1  (fun r5 p5 => ?_)
    have p5 : (r5 = 1 ∧ 0 ≤ q ∧ q < (σ 2 1)) ∨ (r5 = 0 ∧ (q < 0 ∨ (σ 2 1) ≤ q)) := p5
    refine And.intro (fun c6 => ?_) (fun c6 => ?_)
    · replace p5 : (q < 0 ∨ (σ 2 1) ≤ q) := by
        rcases p5 with q | q
        · exact absurd q.1 (by omega)
        · exact q.2
      refine s_throwsIfF (σ := σ) (is := 1) (by omega) (fun r7 σ7 f7 p7 => ?_)
      have hI := hI.fr f7 (by decide) (by decide) (by decide) (by decide) (by decide) (by decide) (by decide)
      have k2_7 : σ7 2 = σ 2 := f7.1 2 (by decide) (by decide)
      have k20_7 := congrFun k2_7 0; have k21_7 := congrFun k2_7 1
      refine And.intro (fun c8 => ?_) (fun c8 => ?_)
      · exfalso; omega
      · refine And.intro rfl (And.intro rfl ?_)
        exact hQ _ _ hI 
    · replace p5 : 0 ≤ q ∧ q < (σ 2 1) := by
        rcases p5 with q | q
        · exact q.2
        · exact absurd q.1 (by omega)
      refine And.intro (fun c9 => ?_) (fun c9 => ?_)
      · refine s_throwsIfF (σ := σ) (is := 1) (by omega) (fun r10 σ10 f10 p10 => ?_)
        have hI := hI.fr f10 (by decide) (by decide) (by decide) (by decide) (by decide) (by decide) (by decide)
        have k2_10 : σ10 2 = σ 2 := f10.1 2 (by decide) (by decide)
        have k20_10 := congrFun k2_10 0; have k21_10 := congrFun k2_10 1
        refine And.intro (fun c11 => ?_) (fun c11 => ?_)
        · exfalso; omega
        · refine And.intro rfl (And.intro rfl ?_)
          exact hQ _ _ hI 
      · refine s_isKind (σ := σ) (k := kind) hI.1  (fun r12 p12 => ?_)
        have p12 : (r12 = 1 ∧ 0 ≤ kind ∧ kind < (σ 2 0)) ∨ (r12 = 0 ∧ (kind < 0 ∨ (σ 2 0) ≤ kind)) := p12
        refine And.intro (fun c13 => ?_) (fun c13 => ?_)
        · replace p12 : (kind < 0 ∨ (σ 2 0) ≤ kind) := by
            rcases p12 with q | q
            · exact absurd q.1 (by omega)
            · exact q.2
          refine s_throwsIfF (σ := σ) (is := 1) (by omega) (fun r14 σ14 f14 p14 => ?_)
          have hI := hI.fr f14 (by decide) (by decide) (by decide) (by decide) (by decide) (by decide) (by decide)
          have k2_14 : σ14 2 = σ 2 := f14.1 2 (by decide) (by decide)
          have k20_14 := congrFun k2_14 0; have k21_14 := congrFun k2_14 1
          refine And.intro (fun c15 => ?_) (fun c15 => ?_)
          · exfalso; omega
          · refine And.intro rfl (And.intro rfl ?_)
            exact hQ _ _ hI 
        · replace p12 : 0 ≤ kind ∧ kind < (σ 2 0) := by
            rcases p12 with q | q
            · exact q.2
            · exact absurd q.1 (by omega)
          refine s_isIn (σ := σ) (v := what) (low := 0) (high := 1)  (fun r16 p16 => ?_)
          have p16 : (r16 = 1 ∧ 0 ≤ what ∧ what ≤ 1) ∨ (r16 = 0 ∧ (what < 0 ∨ 1 < what)) := p16
          refine And.intro (fun c17 => ?_) (fun c17 => ?_)
          · replace p16 : (what < 0 ∨ 1 < what) := by
              rcases p16 with q | q
              · exact absurd q.1 (by omega)
              · exact q.2
            refine s_throwsIfF (σ := σ) (is := 1) (by omega) (fun r18 σ18 f18 p18 => ?_)
            have hI := hI.fr f18 (by decide) (by decide) (by decide) (by decide) (by decide) (by decide) (by decide)
            have k2_18 : σ18 2 = σ 2 := f18.1 2 (by decide) (by decide)
            have k20_18 := congrFun k2_18 0; have k21_18 := congrFun k2_18 1
            refine And.intro (fun c19 => ?_) (fun c19 => ?_)
            · exfalso; omega
            · refine And.intro rfl (And.intro rfl ?_)
              exact hQ _ _ hI 
          · replace p16 : 0 ≤ what ∧ what ≤ 1 := by
              rcases p16 with q | q
              · exact q.2
              · exact absurd q.1 (by omega)
            refine s_looks (σ := σ) (o := o) hI.1 (by omega) (fun r20 σ20 f20 p20 => ?_)
            have hI := hI.fr f20 (by decide) (by decide) (by decide) (by decide) (by decide) (by decide) (by decide)
            have kt2_20 : σ20 2 = σ 2 := f20.1 2 (by decide) (by decide)
            have k20_20 := congrFun kt2_20 0; have k21_20 := congrFun kt2_20 1; have k27_20 := congrFun kt2_20 7
            have p20 : (r20 = 1 ∧ LKx σ20 o) ∨ (r20 = 0 ∧ (0 : Int) ≤ 0) := by
              rcases p20 with q | q
              · exact Or.inl q
              · exact Or.inr ⟨q, by omega⟩
            have hb0 : 0 ≤ (σ20 2 0) ∧ (σ20 2 0) ≤ 13 := hI.1.kinds; have hb1 : 0 ≤ (σ20 2 1) ∧ (σ20 2 1) ≤ 6 := hI.1.persons
            refine And.intro (fun c21 => ?_) (fun c21 => ?_)
            · replace p20 : LKx σ20 o := by
                rcases p20 with q | q
                · exact q.2
                · exact absurd q.1 (by omega)
              refine s_throwsIfF (σ := σ20) (is := 0) (by omega) (fun r22 σ22 f22 p22 => ?_)
              have hI := hI.fr f22 (by decide) (by decide) (by decide) (by decide) (by decide) (by decide) (by decide)
              have k2_22 : σ22 2 = σ20 2 := f22.1 2 (by decide) (by decide)
              have k20_22 := congrFun k2_22 0; have k21_22 := congrFun k2_22 1
              have hL := p20
              have hL := hL.eq (σ' := σ22) (f22.1 2 (by decide) (by decide)) (f22.1 10 (by decide) (by decide)) (f22.1 11 (by decide) (by decide)) (f22.2 33 (by decide)) (f22.2 34 (by decide)) (f22.2 35 (by decide))
              refine And.intro (fun c23 => ?_) (fun c23 => ?_)
              · refine s_waysOf (σ := σ22) (o := o) (q := (-1)) (without := 0) hI.1 (by omega) hL (fun r24 σ24 f24 p24 => ?_)
                have hI := hI.fr f24 (by decide) (by decide) (by decide) (by decide) (by decide) (by decide) (by decide)
                have k2_24 : σ24 2 = σ22 2 := f24.1 2 (by decide) (by decide)
                have k20_24 := congrFun k2_24 0; have k21_24 := congrFun k2_24 1
                have b24 := p24.1
                have hL := hL.eq (σ' := σ24) (f24.1 2 (by decide) (by decide)) (f24.1 10 (by decide) (by decide)) (f24.1 11 (by decide) (by decide)) (f24.2 33 (by decide)) (f24.2 34 (by decide)) (f24.2 35 (by decide))
                have hb0 : 0 ≤ (σ24 2 0) ∧ (σ24 2 0) ≤ 13 := hI.1.kinds; have hb1 : 0 ≤ (σ24 2 1) ∧ (σ24 2 1) ≤ 6 := hI.1.persons
                refine And.intro (Nat.le_of_ble_eq_true rfl) ?_
                show xw _ _ _ _ _ _ _ _ _ _ [xvr 0, xvi o, xvi q, xvi kind, xvi what, xvl r24, xvu] _ _
                intro z25 a25 b25 c25 l25 h25
                refine And.intro (fun c26 => ?_) (fun c26 => ?_)
                · refine s_throwsIfF (σ := σ24) (is := 0) (by omega) (fun r27 σ27 f27 p27 => ?_)
                  have hI := hI.fr f27 (by decide) (by decide) (by decide) (by decide) (by decide) (by decide) (by decide)
                  have k2_27 : σ27 2 = σ24 2 := f27.1 2 (by decide) (by decide)
                  have k20_27 := congrFun k2_27 0; have k21_27 := congrFun k2_27 1
                  have hL := hL.eq (σ' := σ27) (f27.1 2 (by decide) (by decide)) (f27.1 10 (by decide) (by decide)) (f27.1 11 (by decide) (by decide)) (f27.2 33 (by decide)) (f27.2 34 (by decide)) (f27.2 35 (by decide))
                  refine And.intro (fun c28 => ?_) (fun c28 => ?_)
                  · intro z29 t29 e29 l29 h29
                    try have w29 : t29 = 0 := by omega
                    intro z30 t30 e30 l30 h30
                    try have w30 : t30 = 0 := by omega
                    intro z31 t31 e31 l31 h31
                    try have w31 : t31 = 0 := by omega
                    refine And.intro (rfl) (And.intro (⟨by omega, by omega⟩) ?_)
                    intro v32 e32 l32 h32
                    have e32 : v32 = σ27 2 z31.toNat := e32
                    have rv32 : 0 ≤ σ27 2 z31.toNat ∧ σ27 2 z31.toNat ≤ 4 := hI.1.knI (z := z31) (by omega) (by omega)
                    refine And.intro (fun c33 => ?_) (fun c33 => ?_)
                    · refine s_waysOf (σ := σ27) (o := o) (q := q) (without := kind) hI.1 (by omega) hL (fun r34 σ34 f34 p34 => ?_)
                      have hI := hI.fr f34 (by decide) (by decide) (by decide) (by decide) (by decide) (by decide) (by decide)
                      have k2_34 : σ34 2 = σ27 2 := f34.1 2 (by decide) (by decide)
                      have k20_34 := congrFun k2_34 0; have k21_34 := congrFun k2_34 1
                      have b34 := p34.1
                      have hL := hL.eq (σ' := σ34) (f34.1 2 (by decide) (by decide)) (f34.1 10 (by decide) (by decide)) (f34.1 11 (by decide) (by decide)) (f34.2 33 (by decide)) (f34.2 34 (by decide)) (f34.2 35 (by decide))
                      have hb0 : 0 ≤ (σ34 2 0) ∧ (σ34 2 0) ≤ 13 := hI.1.kinds; have hb1 : 0 ≤ (σ34 2 1) ∧ (σ34 2 1) ≤ 6 := hI.1.persons
                      intro z35 t35 e35 l35 h35
                      try have w35 : t35 = 0 := by omega
                      refine s_part (σ := σ34) (a := z35) (b := r24) (what := what) (by omega) (by omega) (by omega) (fun r36 p36 => ?_)
                      refine And.intro rfl (And.intro rfl ?_)
                      exact hQ _ _ hI 
                    · refine And.intro rfl (And.intro rfl ?_)
                      exact hQ _ _ hI 
                  · exfalso; omega
                · refine s_throwsIfF (σ := σ24) (is := 1) (by omega) (fun r37 σ37 f37 p37 => ?_)
                  have hI := hI.fr f37 (by decide) (by decide) (by decide) (by decide) (by decide) (by decide) (by decide)
                  have k2_37 : σ37 2 = σ24 2 := f37.1 2 (by decide) (by decide)
                  have k20_37 := congrFun k2_37 0; have k21_37 := congrFun k2_37 1
                  refine And.intro (fun c38 => ?_) (fun c38 => ?_)
                  · exfalso; omega
                  · refine And.intro rfl (And.intro rfl ?_)
                    exact hQ _ _ hI 
              · refine And.intro rfl (And.intro rfl ?_)
                exact hQ _ _ hI 
            · replace p20 : (0 : Int) ≤ 0 := by
                rcases p20 with q | q
                · exact absurd q.1 (by omega)
                · exact q.2
              refine s_throwsIfF (σ := σ20) (is := 1) (by omega) (fun r39 σ39 f39 p39 => ?_)
              have hI := hI.fr f39 (by decide) (by decide) (by decide) (by decide) (by decide) (by decide) (by decide)
              have k2_39 : σ39 2 = σ20 2 := f39.1 2 (by decide) (by decide)
              have k20_39 := congrFun k2_39 0; have k21_39 := congrFun k2_39 1
              refine And.intro (fun c40 => ?_) (fun c40 => ?_)
              · exfalso; omega
              · refine And.intro rfl (And.intro rfl ?_)
                exact hQ _ _ hI 
