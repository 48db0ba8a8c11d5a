set_option maxHeartbeats 4000000 in
set_option maxRecDepth 100000 in
theorem s_throwsIfF {σ : xS} {is : Int} {Q : Option xV → xS → Prop} (hp0 : is = 0 ∨ is = 1) (hQ : ∀ r : Int, ∀ σ' : xS, Fr [] [0] σ σ' → (r = is) → Q (some (xvi r)) σ') : xT kX11_throwsIf [xvr 0, xvi is] σ Q := by
  refine ⟨Nat.le_of_ble_eq_true rfl, fun X hX => ?_⟩
  show X 0 [xvr 0, xvi is] σ
  have hF : Fr [] [0] σ σ := Fr.rf
  refine hX 400 0 _ _ ?_
  refine And.intro (fun c1 => ?_) (fun c1 => ?_)
  · have hF := hF.p (j := 0) (v := 0) (by decide)
    refine And.intro rfl ?_
    refine And.intro (by omega) ?_
    exact hQ _ _ hF (by omega)
  · have hF := hF.p (j := 0) (v := 1) (by decide)
    refine And.intro rfl ?_
    refine And.intro (by omega) ?_
    exact hQ _ _ hF (by omega)
set_option maxHeartbeats 4000000 in
set_option maxRecDepth 100000 in
theorem s_odds {σ : xS} {o q kind what : Int} {Q : Option xV → xS → Prop} (hI : RI σ) (hQ : ∀ r : Int, ∀ σ' : xS, RK σ σ' → Q (some (xvl r)) σ') : xT kX11_odds [xvr 0, xvi o, xvi q, xvi kind, xvi what] σ Q := by
  refine ⟨Nat.le_of_ble_eq_true rfl, fun X hX => ?_⟩
  show X 0 [xvr 0, xvi o, xvi q, xvi kind, xvi what, xvu, xvu] σ
  have hI : RK σ σ := RK.rf hI
  have hb0 := hI.1.kinds; have hb1 := hI.1.persons
  refine hX 400 0 _ _ ?_
  refine s_isPerson (σ := σ) (k := o) hI.1  (fun r1 p1 => ?_)
  have p1 : (r1 = 1 ∧ 0 ≤ o ∧ o < (σ 2 1)) ∨ (r1 = 0 ∧ (o < 0 ∨ (σ 2 1) ≤ o)) := p1
  refine And.intro (fun c2 => ?_) (fun c2 => ?_)
  · replace p1 : (o < 0 ∨ (σ 2 1) ≤ o) := by
      rcases p1 with q | q
      · exact absurd q.1 (by omega)
      · exact q.2
    refine s_throwsIfF (σ := σ) (is := 1) (by omega) (fun r3 σ3 f3 p3 => ?_)
    have hI := hI.fr f3 (by decide) (by decide) (by decide) (by decide) (by decide) (by decide) (by decide)
    have k2_3 : σ3 2 = σ 2 := f3.1 2 (by decide) (by decide)
    have k20_3 := congrFun k2_3 0; have k21_3 := congrFun k2_3 1
    refine And.intro (fun c4 => ?_) (fun c4 => ?_)
    · exfalso; omega
    · refine And.intro rfl (And.intro rfl ?_)
      exact hQ _ _ hI 
  · replace p1 : 0 ≤ o ∧ o < (σ 2 1) := by
      rcases p1 with q | q
      · exact q.2
      · exact absurd q.1 (by omega)
    refine s_isPerson (σ := σ) (k := q) hI.1  (fun r5 p5 => ?_)
    have p5 : (r5 = 1 ∧ 0 ≤ q ∧ q < (σ 2 1)) ∨ (r5 = 0 ∧ (q < 0 ∨ (σ 2 1) ≤ q)) := p5
    refine And.intro (fun c6 => ?_) (fun c6 => ?_)
    · replace p5 : (q < 0 ∨ (σ 2 1) ≤ q) := by
        rcases p5 with q | q
        · exact absurd q.1 (by omega)
        · exact q.2
      refine s_throwsIfF (σ := σ) (is := 1) (by omega) (fun r7 σ7 f7 p7 => ?_)
      have hI := hI.fr f7 (by decide) (by decide) (by decide) (by decide) (by decide) (by decide) (by decide)
      have k2_7 : σ7 2 = σ 2 := f7.1 2 (by decide) (by decide)
      have k20_7 := congrFun k2_7 0; have k21_7 := congrFun k2_7 1
      refine And.intro (fun c8 => ?_) (fun c8 => ?_)
      · exfalso; omega
      · refine And.intro rfl (And.intro rfl ?_)
        exact hQ _ _ hI 
    · replace p5 : 0 ≤ q ∧ q < (σ 2 1) := by
        rcases p5 with q | q
        · exact q.2
        · exact absurd q.1 (by omega)
      refine And.intro (fun c9 => ?_) (fun c9 => ?_)
      · refine s_throwsIfF (σ := σ) (is := 1) (by omega) (fun r10 σ10 f10 p10 => ?_)
        have hI := hI.fr f10 (by decide) (by decide) (by decide) (by decide) (by decide) (by decide) (by decide)
        have k2_10 : σ10 2 = σ 2 := f10.1 2 (by decide) (by decide)
        have k20_10 := congrFun k2_10 0; have k21_10 := congrFun k2_10 1
        refine And.intro (fun c11 => ?_) (fun c11 => ?_)
        · exfalso; omega
        · refine And.intro rfl (And.intro rfl ?_)
          exact hQ _ _ hI 
      · refine s_isKind (σ := σ) (k := kind) hI.1  (fun r12 p12 => ?_)
        have p12 : (r12 = 1 ∧ 0 ≤ kind ∧ kind < (σ 2 0)) ∨ (r12 = 0 ∧ (kind < 0 ∨ (σ 2 0) ≤ kind)) := p12
        refine And.intro (fun c13 => ?_) (fun c13 => ?_)
        · replace p12 : (kind < 0 ∨ (σ 2 0) ≤ kind) := by
            rcases p12 with q | q
            · exact absurd q.1 (by omega)
            · exact q.2
          refine s_throwsIfF (σ := σ) (is := 1) (by omega) (fun r14 σ14 f14 p14 => ?_)
          have hI := hI.fr f14 (by decide) (by decide) (by decide) (by decide) (by decide) (by decide) (by decide)
          have k2_14 : σ14 2 = σ 2 := f14.1 2 (by decide) (by decide)
          have k20_14 := congrFun k2_14 0; have k21_14 := congrFun k2_14 1
          refine And.intro (fun c15 => ?_) (fun c15 => ?_)
          · exfalso; omega
          · refine And.intro rfl (And.intro rfl ?_)
            exact hQ _ _ hI 
        · replace p12 : 0 ≤ kind ∧ kind < (σ 2 0) := by
            rcases p12 with q | q
            · exact q.2
            · exact absurd q.1 (by omega)
          refine s_isIn (σ := σ) (v := what) (low := 0) (high := 1)  (fun r16 p16 => ?_)
          have p16 : (r16 = 1 ∧ 0 ≤ what ∧ what ≤ 1) ∨ (r16 = 0 ∧ (what < 0 ∨ 1 < what)) := p16
          refine And.intro (fun c17 => ?_) (fun c17 => ?_)
          · replace p16 : (what < 0 ∨ 1 < what) := by
              rcases p16 with q | q
              · exact absurd q.1 (by omega)
              · exact q.2
            refine s_throwsIfF (σ := σ) (is := 1) (by omega) (fun r18 σ18 f18 p18 => ?_)
            have hI := hI.fr f18 (by decide) (by decide) (by decide) (by decide) (by decide) (by decide) (by decide)
            have k2_18 : σ18 2 = σ 2 := f18.1 2 (by decide) (by decide)
            have k20_18 := congrFun k2_18 0; have k21_18 := congrFun k2_18 1
            refine And.intro (fun c19 => ?_) (fun c19 => ?_)
            · exfalso; omega
            · refine And.intro rfl (And.intro rfl ?_)
              exact hQ _ _ hI 
          · replace p16 : 0 ≤ what ∧ what ≤ 1 := by
              rcases p16 with q | q
              · exact q.2
              · exact absurd q.1 (by omega)
            refine s_looks (σ := σ) (o := o) hI.1 (by omega) (fun r20 σ20 f20 p20 => ?_)
            have hI := hI.fr f20 (by decide) (by decide) (by decide) (by decide) (by decide) (by decide) (by decide)
            have kt2_20 : σ20 2 = σ 2 := f20.1 2 (by decide) (by decide)
            have k20_20 := congrFun kt2_20 0; have k21_20 := congrFun kt2_20 1; have k27_20 := congrFun kt2_20 7
            have p20 : (r20 = 1 ∧ LKx σ20 o) ∨ (r20 = 0 ∧ (0 : Int) ≤ 0) := by
              rcases p20 with q | q
              · exact Or.inl q
              · exact Or.inr ⟨q, by omega⟩
            have hb0 : 0 ≤ (σ20 2 0) ∧ (σ20 2 0) ≤ 13 := hI.1.kinds; have hb1 : 0 ≤ (σ20 2 1) ∧ (σ20 2 1) ≤ 6 := hI.1.persons
            refine And.intro (fun c21 => ?_) (fun c21 => ?_)
            · replace p20 : LKx σ20 o := by
                rcases p20 with q | q
                · exact q.2
                · exact absurd q.1 (by omega)
              refine s_throwsIfF (σ := σ20) (is := 0) (by omega) (fun r22 σ22 f22 p22 => ?_)
              have hI := hI.fr f22 (by decide) (by decide) (by decide) (by decide) (by decide) (by decide) (by decide)
              have k2_22 : σ22 2 = σ20 2 := f22.1 2 (by decide) (by decide)
              have k20_22 := congrFun k2_22 0; have k21_22 := congrFun k2_22 1
              have hL := p20
              have hL := hL.eq (σ' := σ22) (f22.1 2 (by decide) (by decide)) (f22.1 10 (by decide) (by decide)) (f22.1 11 (by decide) (by decide)) (f22.2 33 (by decide)) (f22.2 34 (by decide)) (f22.2 35 (by decide))
              refine And.intro (fun c23 => ?_) (fun c23 => ?_)
              · refine s_waysOf (σ := σ22) (o := o) (q := (-1)) (without := 0) hI.1 (by omega) hL (fun r24 σ24 f24 p24 => ?_)
                have hI := hI.fr f24 (by decide) (by decide) (by decide) (by decide) (by decide) (by decide) (by decide)
                have k2_24 : σ24 2 = σ22 2 := f24.1 2 (by decide) (by decide)
                have k20_24 := congrFun k2_24 0; have k21_24 := congrFun k2_24 1
                have b24 := p24.1
                have hL := hL.eq (σ' := σ24) (f24.1 2 (by decide) (by decide)) (f24.1 10 (by decide) (by decide)) (f24.1 11 (by decide) (by decide)) (f24.2 33 (by decide)) (f24.2 34 (by decide)) (f24.2 35 (by decide))
                have hb0 : 0 ≤ (σ24 2 0) ∧ (σ24 2 0) ≤ 13 := hI.1.kinds; have hb1 : 0 ≤ (σ24 2 1) ∧ (σ24 2 1) ≤ 6 := hI.1.persons
                refine And.intro (Nat.le_of_ble_eq_true rfl) ?_
                show xw _ _ _ _ _ _ _ _ _ _ [xvr 0, xvi o, xvi q, xvi kind, xvi what, xvl r24, xvu] _ _
                intro z25 a25 b25 c25 l25 h25
                refine And.intro (fun c26 => ?_) (fun c26 => ?_)
                · refine s_throwsIfF (σ := σ24) (is := 0) (by omega) (fun r27 σ27 f27 p27 => ?_)
                  have hI := hI.fr f27 (by decide) (by decide) (by decide) (by decide) (by decide) (by decide) (by decide)
                  have k2_27 : σ27 2 = σ24 2 := f27.1 2 (by decide) (by decide)
                  have k20_27 := congrFun k2_27 0; have k21_27 := congrFun k2_27 1
                  have hL := hL.eq (σ' := σ27) (f27.1 2 (by decide) (by decide)) (f27.1 10 (by decide) (by decide)) (f27.1 11 (by decide) (by decide)) (f27.2 33 (by decide)) (f27.2 34 (by decide)) (f27.2 35 (by decide))
                  refine And.intro (fun c28 => ?_) (fun c28 => ?_)
                  · intro z29 t29 e29 l29 h29
                    try have w29 : t29 = 0 := by omega
                    intro z30 t30 e30 l30 h30
                    try have w30 : t30 = 0 := by omega
                    intro z31 t31 e31 l31 h31
                    try have w31 : t31 = 0 := by omega
                    refine And.intro (rfl) (And.intro (⟨by omega, by omega⟩) ?_)
                    intro v32 e32 l32 h32
                    have e32 : v32 = σ27 2 z31.toNat := e32
                    have rv32 : 0 ≤ σ27 2 z31.toNat ∧ σ27 2 z31.toNat ≤ 4 := hI.1.knI (z := z31) (by omega) (by omega)
                    refine And.intro (fun c33 => ?_) (fun c33 => ?_)
                    · refine s_waysOf (σ := σ27) (o := o) (q := q) (without := kind) hI.1 (by omega) hL (fun r34 σ34 f34 p34 => ?_)
                      have hI := hI.fr f34 (by decide) (by decide) (by decide) (by decide) (by decide) (by decide) (by decide)
                      have k2_34 : σ34 2 = σ27 2 := f34.1 2 (by decide) (by decide)
                      have k20_34 := congrFun k2_34 0; have k21_34 := congrFun k2_34 1
                      have b34 := p34.1
                      have hL := hL.eq (σ' := σ34) (f34.1 2 (by decide) (by decide)) (f34.1 10 (by decide) (by decide)) (f34.1 11 (by decide) (by decide)) (f34.2 33 (by decide)) (f34.2 34 (by decide)) (f34.2 35 (by decide))
                      have hb0 : 0 ≤ (σ34 2 0) ∧ (σ34 2 0) ≤ 13 := hI.1.kinds; have hb1 : 0 ≤ (σ34 2 1) ∧ (σ34 2 1) ≤ 6 := hI.1.persons
                      intro z35 t35 e35 l35 h35
                      try have w35 : t35 = 0 := by omega
                      refine s_part (σ := σ34) (a := z35) (b := r24) (what := what) (by omega) (by omega) (by omega) (fun r36 p36 => ?_)
                      refine And.intro rfl (And.intro rfl ?_)
                      exact hQ _ _ hI 
                    · refine And.intro rfl (And.intro rfl ?_)
                      exact hQ _ _ hI 
                  · exfalso; omega
                · refine s_throwsIfF (σ := σ24) (is := 1) (by omega) (fun r37 σ37 f37 p37 => ?_)
                  have hI := hI.fr f37 (by decide) (by decide) (by decide) (by decide) (by decide) (by decide) (by decide)
                  have k2_37 : σ37 2 = σ24 2 := f37.1 2 (by decide) (by decide)
                  have k20_37 := congrFun k2_37 0; have k21_37 := congrFun k2_37 1
                  refine And.intro (fun c38 => ?_) (fun c38 => ?_)
                  · exfalso; omega
                  · refine And.intro rfl (And.intro rfl ?_)
                    exact hQ _ _ hI 
              · refine And.intro rfl (And.intro rfl ?_)
                exact hQ _ _ hI 
            · replace p20 : (0 : Int) ≤ 0 := by
                rcases p20 with q | q
                · exact absurd q.1 (by omega)
                · exact q.2
              refine s_throwsIfF (σ := σ20) (is := 1) (by omega) (fun r39 σ39 f39 p39 => ?_)
              have hI := hI.fr f39 (by decide) (by decide) (by decide) (by decide) (by decide) (by decide) (by decide)
              have k2_39 : σ39 2 = σ20 2 := f39.1 2 (by decide) (by decide)
              have k20_39 := congrFun k2_39 0; have k21_39 := congrFun k2_39 1
              refine And.intro (fun c40 => ?_) (fun c40 => ?_)
              · exfalso; omega
              · refine And.intro rfl (And.intro rfl ?_)
                exact hQ _ _ hI 
theorem mul24 {w m : Int} (h0 : 1 ≤ w) (h1 : 1 ≤ m) (h2 : m ≤ 24) : 1 ≤ w * m ∧ w * m ≤ 24 * w := by
  have a := Int.mul_le_mul_of_nonneg_left h2 (show 0 ≤ w from by omega)
  have b := Int.mul_le_mul_of_nonneg_left h1 (show 0 ≤ w from by omega)
  omega
set_option maxHeartbeats 4000000 in
set_option maxRecDepth 100000 in
theorem s_next_ {σ : xS} {o kind what : Int} {Q : Option xV → xS → Prop} (hI : RI σ) (hQ : ∀ r : Int, ∀ σ' : xS, RK σ σ' → Q (some (xvl r)) σ') : xT kX11_next_ [xvr 0, xvi o, xvi kind, xvi what] σ Q := by
  refine ⟨Nat.le_of_ble_eq_true rfl, fun X hX => ?_⟩
  show X 0 [xvr 0, xvi o, xvi kind, xvi what, xvu, xvu, xvu, xvu, xvu, xvu, xvu] σ
  have hI : RK σ σ := RK.rf hI
  have hb0 := hI.1.kinds; have hb1 := hI.1.persons
  refine hX 400 0 _ _ ?_
  refine s_isPerson (σ := σ) (k := o) hI.1  (fun r1 p1 => ?_)
  have p1 : (r1 = 1 ∧ 0 ≤ o ∧ o < (σ 2 1)) ∨ (r1 = 0 ∧ (o < 0 ∨ (σ 2 1) ≤ o)) := p1
  refine And.intro (fun c2 => ?_) (fun c2 => ?_)
  · replace p1 : (o < 0 ∨ (σ 2 1) ≤ o) := by
      rcases p1 with q | q
      · exact absurd q.1 (by omega)
      · exact q.2
    refine s_throwsIfF (σ := σ) (is := 1) (by omega) (fun r3 σ3 f3 p3 => ?_)
    have hI := hI.fr f3 (by decide) (by decide) (by decide) (by decide) (by decide) (by decide) (by decide)
    have k2_3 : σ3 2 = σ 2 := f3.1 2 (by decide) (by decide)
    have k20_3 := congrFun k2_3 0; have k21_3 := congrFun k2_3 1
    refine And.intro (fun c4 => ?_) (fun c4 => ?_)
    · exfalso; omega
    · refine And.intro rfl (And.intro rfl ?_)
      exact hQ _ _ hI 
  · replace p1 : 0 ≤ o ∧ o < (σ 2 1) := by
      rcases p1 with q | q
      · exact q.2
      · exact absurd q.1 (by omega)
    refine s_isKind (σ := σ) (k := kind) hI.1  (fun r5 p5 => ?_)
    have p5 : (r5 = 1 ∧ 0 ≤ kind ∧ kind < (σ 2 0)) ∨ (r5 = 0 ∧ (kind < 0 ∨ (σ 2 0) ≤ kind)) := p5
    refine And.intro (fun c6 => ?_) (fun c6 => ?_)
    · replace p5 : (kind < 0 ∨ (σ 2 0) ≤ kind) := by
        rcases p5 with q | q
        · exact absurd q.1 (by omega)
        · exact q.2
      refine s_throwsIfF (σ := σ) (is := 1) (by omega) (fun r7 σ7 f7 p7 => ?_)
      have hI := hI.fr f7 (by decide) (by decide) (by decide) (by decide) (by decide) (by decide) (by decide)
      have k2_7 : σ7 2 = σ 2 := f7.1 2 (by decide) (by decide)
      have k20_7 := congrFun k2_7 0; have k21_7 := congrFun k2_7 1
      refine And.intro (fun c8 => ?_) (fun c8 => ?_)
      · exfalso; omega
      · refine And.intro rfl (And.intro rfl ?_)
        exact hQ _ _ hI 
    · replace p5 : 0 ≤ kind ∧ kind < (σ 2 0) := by
        rcases p5 with q | q
        · exact q.2
        · exact absurd q.1 (by omega)
      refine s_isIn (σ := σ) (v := what) (low := 0) (high := 1)  (fun r9 p9 => ?_)
      have p9 : (r9 = 1 ∧ 0 ≤ what ∧ what ≤ 1) ∨ (r9 = 0 ∧ (what < 0 ∨ 1 < what)) := p9
      refine And.intro (fun c10 => ?_) (fun c10 => ?_)
      · replace p9 : (what < 0 ∨ 1 < what) := by
          rcases p9 with q | q
          · exact absurd q.1 (by omega)
          · exact q.2
        refine s_throwsIfF (σ := σ) (is := 1) (by omega) (fun r11 σ11 f11 p11 => ?_)
        have hI := hI.fr f11 (by decide) (by decide) (by decide) (by decide) (by decide) (by decide) (by decide)
        have k2_11 : σ11 2 = σ 2 := f11.1 2 (by decide) (by decide)
        have k20_11 := congrFun k2_11 0; have k21_11 := congrFun k2_11 1
        refine And.intro (fun c12 => ?_) (fun c12 => ?_)
        · exfalso; omega
        · refine And.intro rfl (And.intro rfl ?_)
          exact hQ _ _ hI 
      · replace p9 : 0 ≤ what ∧ what ≤ 1 := by
          rcases p9 with q | q
          · exact q.2
          · exact absurd q.1 (by omega)
        refine And.intro (rfl) (And.intro (⟨by omega, by omega⟩) ?_)
        intro v13 e13 l13 h13
        have e13 : v13 = σ 2 7 := e13
        have rv13 : 0 ≤ (σ 2 7) ∧ (σ 2 7) ≤ 52 := hI.1.heaped
        refine And.intro (fun c14 => ?_) (fun c14 => ?_)
        · refine s_throwsIfF (σ := σ) (is := 1) (by omega) (fun r15 σ15 f15 p15 => ?_)
          have hI := hI.fr f15 (by decide) (by decide) (by decide) (by decide) (by decide) (by decide) (by decide)
          have k2_15 : σ15 2 = σ 2 := f15.1 2 (by decide) (by decide)
          have k20_15 := congrFun k2_15 0; have k21_15 := congrFun k2_15 1
          refine And.intro (fun c16 => ?_) (fun c16 => ?_)
          · exfalso; omega
          · refine And.intro rfl (And.intro rfl ?_)
            exact hQ _ _ hI 
        · refine s_looks (σ := σ) (o := o) hI.1 (by omega) (fun r17 σ17 f17 p17 => ?_)
          have hI := hI.fr f17 (by decide) (by decide) (by decide) (by decide) (by decide) (by decide) (by decide)
          have kt2_17 : σ17 2 = σ 2 := f17.1 2 (by decide) (by decide)
          have k20_17 := congrFun kt2_17 0; have k21_17 := congrFun kt2_17 1; have k27_17 := congrFun kt2_17 7
          have p17 : (r17 = 1 ∧ LKx σ17 o) ∨ (r17 = 0 ∧ (0 : Int) ≤ 0) := by
            rcases p17 with q | q
            · exact Or.inl q
            · exact Or.inr ⟨q, by omega⟩
          have hb0 : 0 ≤ (σ17 2 0) ∧ (σ17 2 0) ≤ 13 := hI.1.kinds; have hb1 : 0 ≤ (σ17 2 1) ∧ (σ17 2 1) ≤ 6 := hI.1.persons
          refine And.intro (fun c18 => ?_) (fun c18 => ?_)
          · replace p17 : LKx σ17 o := by
              rcases p17 with q | q
              · exact q.2
              · exact absurd q.1 (by omega)
            refine s_throwsIfF (σ := σ17) (is := 0) (by omega) (fun r19 σ19 f19 p19 => ?_)
            have hI := hI.fr f19 (by decide) (by decide) (by decide) (by decide) (by decide) (by decide) (by decide)
            have k2_19 : σ19 2 = σ17 2 := f19.1 2 (by decide) (by decide)
            have k20_19 := congrFun k2_19 0; have k21_19 := congrFun k2_19 1
            have hL := p17
            have hL := hL.eq (σ' := σ19) (f19.1 2 (by decide) (by decide)) (f19.1 10 (by decide) (by decide)) (f19.1 11 (by decide) (by decide)) (f19.2 33 (by decide)) (f19.2 34 (by decide)) (f19.2 35 (by decide))
            refine And.intro (fun c20 => ?_) (fun c20 => ?_)
            · refine s_waysOf (σ := σ19) (o := o) (q := (-1)) (without := 0) hI.1 (by omega) hL (fun r21 σ21 f21 p21 => ?_)
              have hI := hI.fr f21 (by decide) (by decide) (by decide) (by decide) (by decide) (by decide) (by decide)
              have k2_21 : σ21 2 = σ19 2 := f21.1 2 (by decide) (by decide)
              have k20_21 := congrFun k2_21 0; have k21_21 := congrFun k2_21 1
              have b21 := p21.1
              have hL := hL.eq (σ' := σ21) (f21.1 2 (by decide) (by decide)) (f21.1 10 (by decide) (by decide)) (f21.1 11 (by decide) (by decide)) (f21.2 33 (by decide)) (f21.2 34 (by decide)) (f21.2 35 (by decide))
              have hb0 : 0 ≤ (σ21 2 0) ∧ (σ21 2 0) ≤ 13 := hI.1.kinds; have hb1 : 0 ≤ (σ21 2 1) ∧ (σ21 2 1) ≤ 6 := hI.1.persons
              refine And.intro (Nat.le_of_ble_eq_true rfl) ?_
              show xw _ _ _ _ _ _ _ _ _ _ [xvr 0, xvi o, xvi kind, xvi what, xvl r21, xvu, xvu, xvu, xvu, xvu, xvu] _ _
              intro z22 a22 b22 c22 l22 h22
              refine And.intro (fun c23 => ?_) (fun c23 => ?_)
              · refine s_throwsIfF (σ := σ21) (is := 1) (by omega) (fun r24 σ24 f24 p24 => ?_)
                have hI := hI.fr f24 (by decide) (by decide) (by decide) (by decide) (by decide) (by decide) (by decide)
                have k2_24 : σ24 2 = σ21 2 := f24.1 2 (by decide) (by decide)
                have k20_24 := congrFun k2_24 0; have k21_24 := congrFun k2_24 1
                refine And.intro (fun c25 => ?_) (fun c25 => ?_)
                · exfalso; omega
                · refine And.intro rfl (And.intro rfl ?_)
                  exact hQ _ _ hI 
              · intro v26 e26 l26 h26
                have e26 : v26 = σ21 0 34 := e26
                intro v27 e27 l27 h27
                have e27 : v27 = σ21 0 35 := e27
                refine And.intro (fun c28 => ?_) (fun c28 => ?_)
                · refine s_throwsIfF (σ := σ21) (is := 0) (by omega) (fun r29 σ29 f29 p29 => ?_)
                  have hI := hI.fr f29 (by decide) (by decide) (by decide) (by decide) (by decide) (by decide) (by decide)
                  have k2_29 : σ29 2 = σ21 2 := f29.1 2 (by decide) (by decide)
                  have k20_29 := congrFun k2_29 0; have k21_29 := congrFun k2_29 1
                  have hL := hL.eq (σ' := σ29) (f29.1 2 (by decide) (by decide)) (f29.1 10 (by decide) (by decide)) (f29.1 11 (by decide) (by decide)) (f29.2 33 (by decide)) (f29.2 34 (by decide)) (f29.2 35 (by decide))
                  have hst : ∀ j : Nat, (j : Int) < σ21 0 33 → σ29 12 j = f5 j := fun j hj => by rw [f29.1 12 (by decide) (by decide)]; exact p21.2 j (by rw [← f21.2 33 (by decide)]; exact hj)
                  have w33 : σ29 0 33 = σ21 0 33 := f29.2 33 (by decide)
                  have w34 : σ29 0 34 = σ21 0 34 := f29.2 34 (by decide)
                  have w35 : σ29 0 35 = σ21 0 35 := f29.2 35 (by decide)
                  have hLc := hL.2.2.1; have hLk := hL.1
                  refine And.intro (fun c30 => ?_) (fun c30 => ?_)
                  · refine And.intro (Nat.le_of_ble_eq_true rfl) ?_
                    show xw _ _ _ _ _ _ _ _ _ _ [xvr 0, xvi o, xvi kind, xvi what, xvl r21, xvu, xvi 1, xvu, xvu, xvu, xvu] _ _
                    refine And.intro (Nat.le_of_ble_eq_true rfl) ?_
                    show xw _ _ _ _ _ _ _ _ _ _ [xvr 0, xvi o, xvi kind, xvi what, xvl r21, xvu, xvi 1, xvi 0, xvu, xvu, xvu] _ _
                    have lp_104 : ∀ (m104 : Nat) (codes : Int) (i : Int), ((6 - i).toNat) = m104 → ((0 ≤ i ∧ i ≤ σ29 0 33) ∧ codes = f5 i.toNat) → X 104 [xvr 0, xvi o, xvi kind, xvi what, xvl r21, xvu, xvi codes, xvi i, xvu, xvu, xvu] σ29 := by
                      intro m104
                      induction m104 using Nat.strongRecOn with
                      | _ m104 ih_104 =>
                      intro codes i hm_104 hv_104
                      have hc1 := f5_p (n := i.toNat); have hc2 := f5_6 (n := i.toNat) (by omega)
                      refine hX 400 104 _ _ ?_
                      intro v32 e32 l32 h32
                      have e32 : v32 = σ29 0 33 := e32
                      refine And.intro (fun c33 => ?_) (fun c33 => ?_)
                      · refine And.intro (Nat.le_of_ble_eq_true rfl) ?_
                        show xw _ _ _ _ _ _ _ _ _ _ [xvr 0, xvi o, xvi kind, xvi what, xvl r21, xvu, xvi codes, xvl 0, xvu, xvu, xvu] _ _
                        refine And.intro (Nat.le_of_ble_eq_true rfl) ?_
                        show xw _ _ _ _ _ _ _ _ _ _ [xvr 0, xvi o, xvi kind, xvi what, xvl r21, xvu, xvi codes, xvl 0, xvu, xvi 0, xvu] _ _
                        have lp_131 : ∀ (m131 : Nat) (sum : Int) (j : Int) (u34_10 : xV), ((6 - j).toNat) = m131 → (0 ≤ j ∧ (-9223372036854775808 ≤ sum ∧ sum ≤ 9223372036854775807)) → X 131 [xvr 0, xvi o, xvi kind, xvi what, xvl r21, xvu, xvi codes, xvl sum, xvu, xvi j, u34_10] σ29 := by
                          intro m131
                          induction m131 using Nat.strongRecOn with
                          | _ m131 ih_131 =>
                          intro sum j u34_10 hm_131 hv_131
                          refine hX 400 131 _ _ ?_
                          intro v35 e35 l35 h35
                          have e35 : v35 = σ29 0 33 := e35
                          refine And.intro (fun c36 => ?_) (fun c36 => ?_)
                          · have hsl : 0 ≤ σ29 0 35 := by rw [hL.2.2.2.1]; exact (onx_nn (fun p hp => hI.1.1.others hp) (by have := hI.1.persons; omega)).1
                            intro v37 e37 l37 h37
                            have e37 : v37 = σ29 0 34 := e37
                            intro v38 e38 l38 h38
                            have e38 : v38 = σ29 0 35 := e38
                            intro z39 t39 e39 l39 h39
                            try have w39 : t39 = 0 := by omega
                            have hmu := mul24 (w := r21) (m := z39) (by omega) (by omega) (by omega)
                            intro z40 t40 e40 l40 h40
                            try have w40 : t40 = 0 := by omega
                            refine s_part (σ := σ29) (a := sum) (b := z40) (what := what) (by omega) (by omega) (by omega) (fun r41 p41 => ?_)
                            refine And.intro rfl (And.intro rfl ?_)
                            exact hQ _ _ hI 
                          · refine And.intro (rfl) (And.intro (⟨by omega, by omega⟩) ?_)
                            intro v42 e42 l42 h42
                            have e42 : v42 = σ29 11 j.toNat := e42
                            refine And.intro (fun c43 => ?_) (fun c43 => ?_)
                            · refine And.intro (Nat.le_of_ble_eq_true rfl) ?_
                              show xw _ _ _ _ _ _ _ _ _ _ [xvr 0, xvi o, xvi kind, xvi what, xvl r21, xvu, xvi codes, xvl sum, xvu, xvi j, xvi 0] _ _
                              have lp_157 : ∀ (m157 : Nat) (sum2 : Int) (c : Int), ((15625 - c).toNat) = m157 → (0 ≤ c ∧ (-9223372036854775808 ≤ sum2 ∧ sum2 ≤ 9223372036854775807)) → X 157 [xvr 0, xvi o, xvi kind, xvi what, xvl r21, xvu, xvi codes, xvl sum2, xvu, xvi j, xvi c] σ29 := by
                                intro m157
                                induction m157 using Nat.strongRecOn with
                                | _ m157 ih_157 =>
                                intro sum2 c hm_157 hv_157
                                refine hX 400 157 _ _ ?_
                                refine And.intro (fun c45 => ?_) (fun c45 => ?_)
                                · refine hX 400 203 _ _ ?_
                                  intro z46 t46 e46 l46 h46
                                  try have w46 : t46 = 0 := by omega
                                  show xw _ _ _ _ _ _ _ _ _ _ [xvr 0, xvi o, xvi kind, xvi what, xvl r21, xvu, xvi codes, xvl sum2, xvu, xvi z46, xvi c] _ _
                                  exact ih_131 _ (show (6 - z46).toNat < m131 from by omega) sum2 z46 (xvi c) rfl (show 0 ≤ z46 ∧ (-9223372036854775808 ≤ sum2 ∧ sum2 ≤ 9223372036854775807) from by first | trivial | omega | (refine ⟨by assumption, ?_⟩; omega) | (refine ⟨?_, ?_⟩ <;> omega))
                                · refine And.intro (rfl) (And.intro (⟨by omega, by omega⟩) ?_)
                                  intro v47 e47 l47 h47
                                  have e47 : v47 = σ29 13 c.toNat := e47
                                  refine And.intro (rfl) (And.intro (⟨by omega, by omega⟩) ?_)
                                  intro v48 e48 l48 h48
                                  have e48 : v48 = σ29 10 kind.toNat := e48
                                  refine And.intro (rfl) (And.intro (⟨by omega, by omega⟩) ?_)
                                  intro v49 e49 l49 h49
                                  have e49 : v49 = σ29 12 j.toNat := e49
                                  have hsv49 : v49 = f5 j.toNat := by rw [e49]; exact hst j.toNat (by omega)
                                  have hsp := f5_p (n := j.toNat)
                                  refine s_digitE (σ := σ29) (code := c) (by_ := v49) (by omega) (fun r50 p50 => ?_)
                                  intro z51 t51 e51 l51 h51
                                  try have w51 : t51 = 0 := by omega
                                  intro z52 t52 e52 l52 h52
                                  intro z53 t53 e53 l53 h53
                                  refine And.intro (Nat.le_of_ble_eq_true rfl) ?_
                                  show xw _ _ _ _ _ _ _ _ _ _ [xvr 0, xvi o, xvi kind, xvi what, xvl r21, xvu, xvi codes, xvl z53, xvu, xvi j, xvi c] _ _
                                  intro z54 t54 e54 l54 h54
                                  try have w54 : t54 = 0 := by omega
                                  show xw _ _ _ _ _ _ _ _ _ _ [xvr 0, xvi o, xvi kind, xvi what, xvl r21, xvu, xvi codes, xvl z53, xvu, xvi j, xvi z54] _ _
                                  exact ih_157 _ (show (15625 - z54).toNat < m157 from by omega) z53 z54 rfl (show 0 ≤ z54 ∧ (-9223372036854775808 ≤ z53 ∧ z53 ≤ 9223372036854775807) from by first | trivial | omega | (refine ⟨by assumption, ?_⟩; omega) | (refine ⟨?_, ?_⟩ <;> omega))
                              exact lp_157 _ sum 0 rfl (show 0 ≤ 0 ∧ (-9223372036854775808 ≤ sum ∧ sum ≤ 9223372036854775807) from by first | trivial | omega | (refine ⟨by assumption, ?_⟩; omega) | (refine ⟨?_, ?_⟩ <;> omega))
                            · refine hX 400 203 _ _ ?_
                              intro z55 t55 e55 l55 h55
                              try have w55 : t55 = 0 := by omega
                              show xw _ _ _ _ _ _ _ _ _ _ [xvr 0, xvi o, xvi kind, xvi what, xvl r21, xvu, xvi codes, xvl sum, xvu, xvi z55, u34_10] _ _
                              exact ih_131 _ (show (6 - z55).toNat < m131 from by omega) sum z55 (u34_10) rfl (show 0 ≤ z55 ∧ (-9223372036854775808 ≤ sum ∧ sum ≤ 9223372036854775807) from by first | trivial | omega | (refine ⟨by assumption, ?_⟩; omega) | (refine ⟨?_, ?_⟩ <;> omega))
                        exact lp_131 _ 0 0 (xvu) rfl (show 0 ≤ 0 ∧ (-9223372036854775808 ≤ 0 ∧ 0 ≤ 9223372036854775807) from by first | trivial | omega | (refine ⟨by assumption, ?_⟩; omega) | (refine ⟨?_, ?_⟩ <;> omega))
                      · intro z56 t56 e56 l56 h56
                        try have w56 : t56 = 0 := by omega
                        refine And.intro (Nat.le_of_ble_eq_true rfl) ?_
                        show xw _ _ _ _ _ _ _ _ _ _ [xvr 0, xvi o, xvi kind, xvi what, xvl r21, xvu, xvi z56, xvi i, xvu, xvu, xvu] _ _
                        intro z57 t57 e57 l57 h57
                        try have w57 : t57 = 0 := by omega
                        show xw _ _ _ _ _ _ _ _ _ _ [xvr 0, xvi o, xvi kind, xvi what, xvl r21, xvu, xvi z56, xvi z57, xvu, xvu, xvu] _ _
                        exact ih_104 _ (show (6 - z57).toNat < m104 from by omega) z56 z57 rfl ⟨by omega, (by rw [show z57.toNat = i.toNat + 1 from by omega]; show z56 = 5 * f5 i.toNat; omega)⟩
                    exact lp_104 _ 1 0 rfl ⟨by omega, rfl⟩
                  · exfalso; omega
                · refine s_throwsIfF (σ := σ21) (is := 1) (by omega) (fun r58 σ58 f58 p58 => ?_)
                  have hI := hI.fr f58 (by decide) (by decide) (by decide) (by decide) (by decide) (by decide) (by decide)
                  have k2_58 : σ58 2 = σ21 2 := f58.1 2 (by decide) (by decide)
                  have k20_58 := congrFun k2_58 0; have k21_58 := congrFun k2_58 1
                  refine And.intro (fun c59 => ?_) (fun c59 => ?_)
                  · exfalso; omega
                  · refine And.intro rfl (And.intro rfl ?_)
                    exact hQ _ _ hI 
            · refine And.intro rfl (And.intro rfl ?_)
              exact hQ _ _ hI 
          · replace p17 : (0 : Int) ≤ 0 := by
              rcases p17 with q | q
              · exact absurd q.1 (by omega)
              · exact q.2
            refine s_throwsIfF (σ := σ17) (is := 1) (by omega) (fun r60 σ60 f60 p60 => ?_)
            have hI := hI.fr f60 (by decide) (by decide) (by decide) (by decide) (by decide) (by decide) (by decide)
            have k2_60 : σ60 2 = σ17 2 := f60.1 2 (by decide) (by decide)
            have k20_60 := congrFun k2_60 0; have k21_60 := congrFun k2_60 1
            refine And.intro (fun c61 => ?_) (fun c61 => ?_)
            · exfalso; omega
            · refine And.intro rfl (And.intro rfl ?_)
              exact hQ _ _ hI 
set_option maxHeartbeats 4000000 in
set_option maxRecDepth 100000 in
theorem s_whom {σ : xS} {o : Int} {Q : Option xV → xS → Prop} (hI : RI σ) (hQ : ∀ r : Int, ∀ σ' : xS, RK σ σ' → Q (some (xvi r)) σ') : xT kX11_whom [xvr 0, xvi o] σ Q := by
  refine ⟨Nat.le_of_ble_eq_true rfl, fun X hX => ?_⟩
  show X 0 [xvr 0, xvi o, xvu, xvu, xvu, xvu, xvu, xvu, xvu, xvu, xvu] σ
  have hI : RK σ σ := RK.rf hI
  have hb0 := hI.1.kinds; have hb1 := hI.1.persons
  refine hX 400 0 _ _ ?_
  have hI := hI.p0 (j := 0) (v := 0) (by decide) (by decide) (by decide)
  refine s_isPerson (σ := (xput σ 0 0 0)) (k := o) hI.1  (fun r2 p2 => ?_)
  have p2 : (r2 = 1 ∧ 0 ≤ o ∧ o < (σ 2 1)) ∨ (r2 = 0 ∧ (o < 0 ∨ (σ 2 1) ≤ o)) := p2
  refine And.intro (fun c3 => ?_) (fun c3 => ?_)
  · replace p2 : (o < 0 ∨ (σ 2 1) ≤ o) := by
      rcases p2 with q | q
      · exact absurd q.1 (by omega)
      · exact q.2
    refine hX 400 29 _ _ ?_
    refine And.intro rfl ?_
    exact hQ _ _ hI 
  · replace p2 : 0 ≤ o ∧ o < (σ 2 1) := by
      rcases p2 with q | q
      · exact q.2
      · exact absurd q.1 (by omega)
    refine s_cards (σ := (xput σ 0 0 0)) (k := o) (show V0 ((xput σ 0 0 0) 2) from (VG_iff.mp hI.1.1).1) (show 0 ≤ o ∧ o ≤ 5 from by omega) (fun r4 p4 => ?_)
    have p4 : r4 = sm 13 (hd ((xput σ 0 0 0) 2) o.toNat) ∧ 0 ≤ r4 ∧ r4 ≤ 52 := p4
    refine And.intro (fun c5 => ?_) (fun c5 => ?_)
    · refine hX 400 29 _ _ ?_
      refine And.intro rfl ?_
      exact hQ _ _ hI 
    · refine s_looks (σ := (xput σ 0 0 0)) (o := o) hI.1 (by omega) (fun r6 σ6 f6 p6 => ?_)
      have hI := hI.fr f6 (by decide) (by decide) (by decide) (by decide) (by decide) (by decide) (by decide)
      have kt2_6 : σ6 2 = σ 2 := f6.1 2 (by decide) (by decide)
      have k20_6 := congrFun kt2_6 0; have k21_6 := congrFun kt2_6 1; have k27_6 := congrFun kt2_6 7
      have p6 : (r6 = 1 ∧ LKx σ6 o) ∨ (r6 = 0 ∧ (0 : Int) ≤ 0) := by
        rcases p6 with q | q
        · exact Or.inl q
        · exact Or.inr ⟨q, by omega⟩
      have hb0 : 0 ≤ (σ6 2 0) ∧ (σ6 2 0) ≤ 13 := hI.1.kinds; have hb1 : 0 ≤ (σ6 2 1) ∧ (σ6 2 1) ≤ 6 := hI.1.persons
      refine And.intro (fun c7 => ?_) (fun c7 => ?_)
      · replace p6 : LKx σ6 o := by
          rcases p6 with q | q
          · exact q.2
          · exact absurd q.1 (by omega)
        have hL := p6
        refine s_waysOf (σ := σ6) (o := o) (q := (-1)) (without := 0) hI.1 (by omega) hL (fun r8 σ8 f8 p8 => ?_)
        have hI := hI.fr f8 (by decide) (by decide) (by decide) (by decide) (by decide) (by decide) (by decide)
        have k2_8 : σ8 2 = σ6 2 := f8.1 2 (by decide) (by decide)
        have k20_8 := congrFun k2_8 0; have k21_8 := congrFun k2_8 1
        have b8 := p8.1
        have hL := hL.eq (σ' := σ8) (f8.1 2 (by decide) (by decide)) (f8.1 10 (by decide) (by decide)) (f8.1 11 (by decide) (by decide)) (f8.2 33 (by decide)) (f8.2 34 (by decide)) (f8.2 35 (by decide))
        have hb0 : 0 ≤ (σ8 2 0) ∧ (σ8 2 0) ≤ 13 := hI.1.kinds; have hb1 : 0 ≤ (σ8 2 1) ∧ (σ8 2 1) ≤ 6 := hI.1.persons
        refine And.intro (Nat.le_of_ble_eq_true rfl) ?_
        show xw _ _ _ _ _ _ _ _ _ _ [xvr 0, xvi o, xvl r8, xvu, xvu, xvu, xvu, xvu, xvu, xvu, xvu] _ _
        intro z9 a9 b9 c9 l9 h9
        refine And.intro (fun c10 => ?_) (fun c10 => ?_)
        · refine And.intro (Nat.le_of_ble_eq_true rfl) ?_
          show xw _ _ _ _ _ _ _ _ _ _ [xvr 0, xvi o, xvl r8, xvu, xvl (-1), xvu, xvu, xvu, xvu, xvu, xvu] _ _
          refine And.intro (Nat.le_of_ble_eq_true rfl) ?_
          show xw _ _ _ _ _ _ _ _ _ _ [xvr 0, xvi o, xvl r8, xvu, xvl (-1), xvu, xvi (-1), xvu, xvu, xvu, xvu] _ _
          refine And.intro (Nat.le_of_ble_eq_true rfl) ?_
          show xw _ _ _ _ _ _ _ _ _ _ [xvr 0, xvi o, xvl r8, xvu, xvl (-1), xvu, xvi (-1), xvi 0, xvu, xvu, xvu] _ _
          have lp_58 : ∀ (m58 : Nat) (most : Int) (best : Int) (q : Int) (u11_8 : xV) (u11_9 : xV) (u11_10 : xV) (s1 : xS), ((6 - q).toNat) = m58 → (RK σ s1 ∧ LKx s1 o ∧ (0 ≤ o ∧ o < s1 2 1) ∧ (0 ≤ q)) → X 58 [xvr 0, xvi o, xvl r8, xvu, xvl most, xvu, xvi best, xvi q, u11_8, u11_9, u11_10] s1 := by
            intro m58
            induction m58 using Nat.strongRecOn with
            | _ m58 ih_58 =>
            intro most best q u11_8 u11_9 u11_10 s1 hm_58 hv_58
            obtain ⟨hI, hL, ho, hv_58⟩ := hv_58
            have hb0 := hI.1.kinds; have hb1 := hI.1.persons
            refine hX 400 58 _ _ ?_
            refine And.intro (rfl) (And.intro (⟨by omega, by omega⟩) ?_)
            intro v12 e12 l12 h12
            have e12 : v12 = s1 2 1 := e12
            have rv12 : 0 ≤ (s1 2 1) ∧ (s1 2 1) ≤ 6 := hI.1.persons
            refine And.intro (fun c13 => ?_) (fun c13 => ?_)
            · refine And.intro rfl ?_
              exact hQ _ _ hI 
            · refine And.intro (Nat.le_of_ble_eq_true rfl) ?_
              show xw _ _ _ _ _ _ _ _ _ _ [xvr 0, xvi o, xvl r8, xvu, xvl most, xvu, xvi best, xvi q, xvi 0, u11_9, u11_10] _ _
              have lp_72 : ∀ (m72 : Nat) (most2 : Int) (best2 : Int) (kd : Int) (u14_9 : xV) (u14_10 : xV) (s2 : xS), ((13 - kd).toNat) = m72 → (RK σ s2 ∧ LKx s2 o ∧ (0 ≤ o ∧ o < s2 2 1) ∧ (q < s2 2 1) ∧ (0 ≤ kd)) → X 72 [xvr 0, xvi o, xvl r8, xvu, xvl most2, xvu, xvi best2, xvi q, xvi kd, u14_9, u14_10] s2 := by
                intro m72
                induction m72 using Nat.strongRecOn with
                | _ m72 ih_72 =>
                intro most2 best2 kd u14_9 u14_10 s2 hm_72 hv_72
                obtain ⟨hI, hL, ho, hq, hv_72⟩ := hv_72
                have hb0 := hI.1.kinds; have hb1 := hI.1.persons
                refine hX 400 72 _ _ ?_
                refine And.intro (rfl) (And.intro (⟨by omega, by omega⟩) ?_)
                intro v15 e15 l15 h15
                have e15 : v15 = s2 2 0 := e15
                have rv15 : 0 ≤ (s2 2 0) ∧ (s2 2 0) ≤ 13 := hI.1.kinds
                refine And.intro (fun c16 => ?_) (fun c16 => ?_)
                · intro z17 t17 e17 l17 h17
                  try have w17 : t17 = 0 := by omega
                  show xw _ _ _ _ _ _ _ _ _ _ [xvr 0, xvi o, xvl r8, xvu, xvl most2, xvu, xvi best2, xvi z17, xvi kd, u14_9, u14_10] _ _
                  exact ih_58 _ (show (6 - z17).toNat < m58 from by omega) most2 best2 z17 (xvi kd) (u14_9) (u14_10) s2 rfl ⟨hI, hL, by omega, by omega⟩
                · refine And.intro (fun c18 => ?_) (fun c18 => ?_)
                  · refine hX 400 165 _ _ ?_
                    intro z19 t19 e19 l19 h19
                    try have w19 : t19 = 0 := by omega
                    show xw _ _ _ _ _ _ _ _ _ _ [xvr 0, xvi o, xvl r8, xvu, xvl most2, xvu, xvi best2, xvi q, xvi z19, u14_9, u14_10] _ _
                    exact ih_72 _ (show (13 - z19).toNat < m72 from by omega) most2 best2 z19 (u14_9) (u14_10) s2 rfl ⟨hI, hL, by omega, by omega, by omega⟩
                  · refine s_hand0 (σ := s2) (k := o) (kind := kd) hI.1 (show 0 ≤ o ∧ o ≤ 5 from by omega) (show 0 ≤ kd ∧ kd ≤ 12 from by omega) (fun r20 p20 => ?_)
                    have p20 : r20 = s2 2 (60 + 13 * o + kd).toNat ∧ 0 ≤ r20 ∧ r20 ≤ 4 := p20
                    refine And.intro (fun c21 => ?_) (fun c21 => ?_)
                    · intro z22 t22 e22 l22 h22
                      try have w22 : t22 = 0 := by omega
                      intro z23 t23 e23 l23 h23
                      try have w23 : t23 = 0 := by omega
                      intro z24 t24 e24 l24 h24
                      try have w24 : t24 = 0 := by omega
                      refine And.intro (rfl) (And.intro (⟨by omega, by omega⟩) ?_)
                      intro v25 e25 l25 h25
                      have e25 : v25 = s2 2 z24.toNat := e25
                      have rv25 : 0 ≤ s2 2 z24.toNat ∧ s2 2 z24.toNat ≤ 4 := hI.1.knI (z := z24) (by omega) (by omega)
                      refine And.intro (fun c26 => ?_) (fun c26 => ?_)
                      · refine s_waysOf (σ := s2) (o := o) (q := q) (without := kd) hI.1 (by omega) hL (fun r27 σ27 f27 p27 => ?_)
                        have hI := hI.fr f27 (by decide) (by decide) (by decide) (by decide) (by decide) (by decide) (by decide)
                        have k2_27 : σ27 2 = s2 2 := f27.1 2 (by decide) (by decide)
                        have k20_27 := congrFun k2_27 0; have k21_27 := congrFun k2_27 1
                        have b27 := p27.1
                        have hL := hL.eq (σ' := σ27) (f27.1 2 (by decide) (by decide)) (f27.1 10 (by decide) (by decide)) (f27.1 11 (by decide) (by decide)) (f27.2 33 (by decide)) (f27.2 34 (by decide)) (f27.2 35 (by decide))
                        have hb0 : 0 ≤ (σ27 2 0) ∧ (σ27 2 0) ≤ 13 := hI.1.kinds; have hb1 : 0 ≤ (σ27 2 1) ∧ (σ27 2 1) ≤ 6 := hI.1.persons
                        intro z28 t28 e28 l28 h28
                        try have w28 : t28 = 0 := by omega
                        refine And.intro (Nat.le_of_ble_eq_true rfl) ?_
                        show xw _ _ _ _ _ _ _ _ _ _ [xvr 0, xvi o, xvl r8, xvu, xvl most2, xvu, xvi best2, xvi q, xvi kd, xvl z28, xvu] _ _
                        intro z29 a29 b29 c29 l29 h29
                        refine And.intro (fun c30 => ?_) (fun c30 => ?_)
                        · refine And.intro (Nat.le_of_ble_eq_true rfl) ?_
                          show xw _ _ _ _ _ _ _ _ _ _ [xvr 0, xvi o, xvl r8, xvu, xvl z28, xvu, xvi best2, xvi q, xvi kd, xvl z28, xvu] _ _
                          intro z31 t31 e31 l31 h31
                          try have w31 : t31 = 0 := by omega
                          intro z32 t32 e32 l32 h32
                          try have w32 : t32 = 0 := by omega
                          refine And.intro (Nat.le_of_ble_eq_true rfl) ?_
                          show xw _ _ _ _ _ _ _ _ _ _ [xvr 0, xvi o, xvl r8, xvu, xvl z28, xvu, xvi z32, xvi q, xvi kd, xvl z28, xvu] _ _
                          refine hX 400 165 _ _ ?_
                          intro z33 t33 e33 l33 h33
                          try have w33 : t33 = 0 := by omega
                          show xw _ _ _ _ _ _ _ _ _ _ [xvr 0, xvi o, xvl r8, xvu, xvl z28, xvu, xvi z32, xvi q, xvi z33, xvl z28, xvu] _ _
                          exact ih_72 _ (show (13 - z33).toNat < m72 from by omega) z28 z32 z33 (xvl z28) (xvu) σ27 rfl ⟨hI, hL, by omega, by omega, by omega⟩
                        · refine hX 400 165 _ _ ?_
                          intro z34 t34 e34 l34 h34
                          try have w34 : t34 = 0 := by omega
                          show xw _ _ _ _ _ _ _ _ _ _ [xvr 0, xvi o, xvl r8, xvu, xvl most2, xvu, xvi best2, xvi q, xvi z34, xvl z28, xvu] _ _
                          exact ih_72 _ (show (13 - z34).toNat < m72 from by omega) most2 best2 z34 (xvl z28) (xvu) σ27 rfl ⟨hI, hL, by omega, by omega, by omega⟩
                      · refine And.intro (Nat.le_of_ble_eq_true rfl) ?_
                        show xw _ _ _ _ _ _ _ _ _ _ [xvr 0, xvi o, xvl r8, xvu, xvl most2, xvu, xvi best2, xvi q, xvi kd, xvl r8, xvu] _ _
                        intro z35 a35 b35 c35 l35 h35
                        refine And.intro (fun c36 => ?_) (fun c36 => ?_)
                        · refine And.intro (Nat.le_of_ble_eq_true rfl) ?_
                          show xw _ _ _ _ _ _ _ _ _ _ [xvr 0, xvi o, xvl r8, xvu, xvl r8, xvu, xvi best2, xvi q, xvi kd, xvl r8, xvu] _ _
                          intro z37 t37 e37 l37 h37
                          try have w37 : t37 = 0 := by omega
                          intro z38 t38 e38 l38 h38
                          try have w38 : t38 = 0 := by omega
                          refine And.intro (Nat.le_of_ble_eq_true rfl) ?_
                          show xw _ _ _ _ _ _ _ _ _ _ [xvr 0, xvi o, xvl r8, xvu, xvl r8, xvu, xvi z38, xvi q, xvi kd, xvl r8, xvu] _ _
                          refine hX 400 165 _ _ ?_
                          intro z39 t39 e39 l39 h39
                          try have w39 : t39 = 0 := by omega
                          show xw _ _ _ _ _ _ _ _ _ _ [xvr 0, xvi o, xvl r8, xvu, xvl r8, xvu, xvi z38, xvi q, xvi z39, xvl r8, xvu] _ _
                          exact ih_72 _ (show (13 - z39).toNat < m72 from by omega) r8 z38 z39 (xvl r8) (xvu) s2 rfl ⟨hI, hL, by omega, by omega, by omega⟩
                        · refine hX 400 165 _ _ ?_
                          intro z40 t40 e40 l40 h40
                          try have w40 : t40 = 0 := by omega
                          show xw _ _ _ _ _ _ _ _ _ _ [xvr 0, xvi o, xvl r8, xvu, xvl most2, xvu, xvi best2, xvi q, xvi z40, xvl r8, xvu] _ _
                          exact ih_72 _ (show (13 - z40).toNat < m72 from by omega) most2 best2 z40 (xvl r8) (xvu) s2 rfl ⟨hI, hL, by omega, by omega, by omega⟩
                    · refine hX 400 165 _ _ ?_
                      intro z41 t41 e41 l41 h41
                      try have w41 : t41 = 0 := by omega
                      show xw _ _ _ _ _ _ _ _ _ _ [xvr 0, xvi o, xvl r8, xvu, xvl most2, xvu, xvi best2, xvi q, xvi z41, u14_9, u14_10] _ _
                      exact ih_72 _ (show (13 - z41).toNat < m72 from by omega) most2 best2 z41 (u14_9) (u14_10) s2 rfl ⟨hI, hL, by omega, by omega, by omega⟩
              exact lp_72 _ most best 0 (u11_9) (u11_10) s1 rfl ⟨hI, hL, by omega, by omega, by omega⟩
          exact lp_58 _ (-1) (-1) 0 (xvu) (xvu) (xvu) σ8 rfl ⟨hI, hL, (by omega), by omega⟩
        · refine And.intro rfl ?_
          exact hQ _ _ hI 
      · replace p6 : (0 : Int) ≤ 0 := by
          rcases p6 with q | q
          · exact absurd q.1 (by omega)
          · exact q.2
        refine hX 400 29 _ _ ?_
        refine And.intro rfl ?_
        exact hQ _ _ hI 
theorem RK.sw {σ0 σ : xS} (h : RK σ0 σ) {v : Int} (hv : 0 ≤ v ∧ v ≤ 65) : RK σ0 (xput σ 0 37 v) := by
  obtain ⟨⟨g1, g2, g3, g4, g5, g6, g7⟩, h2, h3⟩ := h
  exact ⟨⟨g1, g2, g3, g4, g5, hv, g7⟩, h2, h3⟩
set_option maxHeartbeats 4000000 in
set_option maxRecDepth 100000 in
theorem s_sweep {σ : xS} {k : Int} {Q : Option xV → xS → Prop} (hI : RI σ) (hQ : ∀ r : Int, ∀ σ' : xS, RK σ σ' → Q (some (xvi r)) σ') : xT kX11_sweep [xvr 0, xvi k] σ Q := by
  refine ⟨Nat.le_of_ble_eq_true rfl, fun X hX => ?_⟩
  show X 0 [xvr 0, xvi k, xvu, xvu] σ
  have hI : RK σ σ := RK.rf hI
  have hb0 := hI.1.kinds; have hb1 := hI.1.persons
  refine hX 400 0 _ _ ?_
  have hI := hI.p0 (j := 0) (v := 0) (by decide) (by decide) (by decide)
  refine s_isPerson (σ := (xput σ 0 0 0)) (k := k) hI.1  (fun r2 p2 => ?_)
  have p2 : (r2 = 1 ∧ 0 ≤ k ∧ k < (σ 2 1)) ∨ (r2 = 0 ∧ (k < 0 ∨ (σ 2 1) ≤ k)) := p2
  refine And.intro (fun c3 => ?_) (fun c3 => ?_)
  · replace p2 : 0 ≤ k ∧ k < (σ 2 1) := by
      rcases p2 with q | q
      · exact q.2
      · exact absurd q.1 (by omega)
    have hI := hI.sw (v := 0) (by omega)
    refine And.intro (Nat.le_of_ble_eq_true rfl) ?_
    show xw _ _ _ _ _ _ _ _ _ _ [xvr 0, xvi k, xvi 0, xvu] _ _
    have lp_22 : ∀ (m22 : Nat) (kd : Int) (u5_3 : xV) (s1 : xS), ((13 - kd).toNat) = m22 → (RK σ s1 ∧ s1 2 = σ 2 ∧ (0 ≤ kd ∧ kd ≤ 13 ∧ 0 ≤ s1 0 37 ∧ s1 0 37 ≤ 5 * kd)) → X 22 [xvr 0, xvi k, xvi kd, u5_3] s1 := by
      intro m22
      induction m22 using Nat.strongRecOn with
      | _ m22 ih_22 =>
      intro kd u5_3 s1 hm_22 hv_22
      obtain ⟨hI, hs2, hv_22⟩ := hv_22
      have hq1 := congrFun hs2 1
      refine hX 400 22 _ _ ?_
      refine And.intro (fun c6 => ?_) (fun c6 => ?_)
      · intro v7 e7 l7 h7
        have e7 : v7 = s1 0 37 := e7
        have rv7 : 0 ≤ (s1 0 37) ∧ (s1 0 37) ≤ 65 := hI.1.sw
        refine And.intro rfl ?_
        exact hQ _ _ hI 
      · refine And.intro (Nat.le_of_ble_eq_true rfl) ?_
        show xw _ _ _ _ _ _ _ _ _ _ [xvr 0, xvi k, xvi kd, xvi 0] _ _
        have lp_30 : ∀ (m30 : Nat) (q : Int) (s2 : xS), ((6 - q).toNat) = m30 → (RK σ s2 ∧ s2 2 = σ 2 ∧ (0 ≤ q ∧ q ≤ σ 2 1 ∧ 0 ≤ s2 0 37 ∧ s2 0 37 + (if q ≤ k then 1 else 0) ≤ 5 * kd + q + (if q ≤ k then 1 else 0)) ∧ (k < q → s2 0 37 ≤ 5 * kd + q - 1)) → X 30 [xvr 0, xvi k, xvi kd, xvi q] s2 := by
          intro m30
          induction m30 using Nat.strongRecOn with
          | _ m30 ih_30 =>
          intro q s2 hm_30 hv_30
          obtain ⟨hI, hs2, hv_30, hkq⟩ := hv_30
          have hq1 := congrFun hs2 1
          refine hX 400 30 _ _ ?_
          refine And.intro (rfl) (And.intro (⟨by omega, by omega⟩) ?_)
          intro v9 e9 l9 h9
          have e9 : v9 = s2 2 1 := e9
          have rv9 : 0 ≤ (s2 2 1) ∧ (s2 2 1) ≤ 6 := hI.1.persons
          refine And.intro (fun c10 => ?_) (fun c10 => ?_)
          · intro z11 t11 e11 l11 h11
            try have w11 : t11 = 0 := by omega
            show xw _ _ _ _ _ _ _ _ _ _ [xvr 0, xvi k, xvi z11, xvi q] _ _
            exact ih_22 _ (show (13 - z11).toNat < m22 from by omega) z11 (xvi q) s2 rfl ⟨hI, hs2, by omega⟩
          · refine And.intro (fun c12 => ?_) (fun c12 => ?_)
            · refine hX 400 93 _ _ ?_
              intro z13 t13 e13 l13 h13
              try have w13 : t13 = 0 := by omega
              show xw _ _ _ _ _ _ _ _ _ _ [xvr 0, xvi k, xvi kd, xvi z13] _ _
              exact ih_30 _ (show (6 - z13).toNat < m30 from by omega) z13 s2 rfl ⟨hI, hs2, (show 0 ≤ z13 ∧ z13 ≤ σ 2 1 ∧ 0 ≤ s2 0 37 ∧ s2 0 37 + (if z13 ≤ k then 1 else 0) ≤ 5 * kd + z13 + (if z13 ≤ k then 1 else 0) from by omega), (show k < z13 → s2 0 37 ≤ 5 * kd + z13 - 1 from by omega)⟩
            · refine s_hand0 (σ := s2) (k := k) (kind := kd) hI.1 (show 0 ≤ k ∧ k ≤ 5 from by omega) (show 0 ≤ kd ∧ kd ≤ 12 from by omega) (fun r14 p14 => ?_)
              have p14 : r14 = s2 2 (60 + 13 * k + kd).toNat ∧ 0 ≤ r14 ∧ r14 ≤ 4 := p14
              refine And.intro (fun c15 => ?_) (fun c15 => ?_)
              · refine hX 400 93 _ _ ?_
                intro z16 t16 e16 l16 h16
                try have w16 : t16 = 0 := by omega
                show xw _ _ _ _ _ _ _ _ _ _ [xvr 0, xvi k, xvi kd, xvi z16] _ _
                exact ih_30 _ (show (6 - z16).toNat < m30 from by omega) z16 s2 rfl ⟨hI, hs2, (show 0 ≤ z16 ∧ z16 ≤ σ 2 1 ∧ 0 ≤ s2 0 37 ∧ s2 0 37 + (if z16 ≤ k then 1 else 0) ≤ 5 * kd + z16 + (if z16 ≤ k then 1 else 0) from by omega), (show k < z16 → s2 0 37 ≤ 5 * kd + z16 - 1 from by omega)⟩
              · refine s_hand0 (σ := s2) (k := q) (kind := kd) hI.1 (show 0 ≤ q ∧ q ≤ 5 from by omega) (show 0 ≤ kd ∧ kd ≤ 12 from by omega) (fun r17 p17 => ?_)
                have p17 : r17 = s2 2 (60 + 13 * q + kd).toNat ∧ 0 ≤ r17 ∧ r17 ≤ 4 := p17
                refine And.intro (fun c18 => ?_) (fun c18 => ?_)
                · intro v19 e19 l19 h19
                  have e19 : v19 = s2 0 37 := e19
                  have rv19 : 0 ≤ (s2 0 37) ∧ (s2 0 37) ≤ 65 := hI.1.sw
                  intro z20 t20 e20 l20 h20
                  try have w20 : t20 = 0 := by omega
                  intro z21 t21 e21 l21 h21
                  try have w21 : t21 = 0 := by omega
                  refine And.intro (rfl) (And.intro (⟨by omega, by omega⟩) ?_)
                  have hI := hI.pt (t := 15) (j := v19.toNat) (v := z21) (by decide) (by decide) (by decide) (by decide) (by decide)
                  intro v23 e23 l23 h23
                  have e23 : v23 = s2 0 37 := e23
                  have rv23 : 0 ≤ (s2 0 37) ∧ (s2 0 37) ≤ 65 := hI.1.sw
                  intro z24 t24 e24 l24 h24
                  try have w24 : t24 = 0 := by omega
                  have hI := hI.sw (v := z24) (by omega)
                  refine hX 400 93 _ _ ?_
                  intro z26 t26 e26 l26 h26
                  try have w26 : t26 = 0 := by omega
                  show xw _ _ _ _ _ _ _ _ _ _ [xvr 0, xvi k, xvi kd, xvi z26] _ _
                  exact ih_30 _ (show (6 - z26).toNat < m30 from by omega) z26 (xput (xput s2 15 v19.toNat z21) 0 37 z24) rfl ⟨hI, hs2, (show 0 ≤ z26 ∧ z26 ≤ σ 2 1 ∧ 0 ≤ z24 ∧ z24 + (if z26 ≤ k then 1 else 0) ≤ 5 * kd + z26 + (if z26 ≤ k then 1 else 0) from by omega), (show k < z26 → z24 ≤ 5 * kd + z26 - 1 from by omega)⟩
                · refine hX 400 93 _ _ ?_
                  intro z27 t27 e27 l27 h27
                  try have w27 : t27 = 0 := by omega
                  show xw _ _ _ _ _ _ _ _ _ _ [xvr 0, xvi k, xvi kd, xvi z27] _ _
                  exact ih_30 _ (show (6 - z27).toNat < m30 from by omega) z27 s2 rfl ⟨hI, hs2, (show 0 ≤ z27 ∧ z27 ≤ σ 2 1 ∧ 0 ≤ s2 0 37 ∧ s2 0 37 + (if z27 ≤ k then 1 else 0) ≤ 5 * kd + z27 + (if z27 ≤ k then 1 else 0) from by omega), (show k < z27 → s2 0 37 ≤ 5 * kd + z27 - 1 from by omega)⟩
        exact lp_30 _ 0 s1 rfl ⟨hI, hs2, by omega, by omega⟩
    exact lp_22 _ 0 (xvu) (xput (xput σ 0 0 0) 0 37 0) rfl ⟨hI, rfl, (show (0 : Int) ≤ 0 ∧ (0 : Int) ≤ 13 ∧ (0 : Int) ≤ 0 ∧ (0 : Int) ≤ 5 * 0 from by omega)⟩
  · replace p2 : (k < 0 ∨ (σ 2 1) ≤ k) := by
      rcases p2 with q | q
      · exact absurd q.1 (by omega)
      · exact q.2
    refine And.intro rfl ?_
    exact hQ _ _ hI 
