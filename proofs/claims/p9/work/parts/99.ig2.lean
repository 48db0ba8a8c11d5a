set_option maxHeartbeats 4000000 in
set_option maxRecDepth 100000 in
theorem s_next_K {σ : xS} {o kind what : Int} {Q : Option xV → xS → Prop} (hI : RI σ) (hQ : ∀ r : Int, ∀ σ' : xS, RKs σ σ' → Q (some (xvl r)) σ') : xT kX11_next_ [xvr 0, xvi o, xvi kind, xvi what] σ Q := by
  refine ⟨Nat.le_of_ble_eq_true rfl, fun X hX => ?_⟩
  show X 0 [xvr 0, xvi o, xvi kind, xvi what, xvu, xvu, xvu, xvu, xvu, xvu, xvu] σ
  have hI : RKs σ σ := RKs.rf hI
  have hb0 := hI.1.kinds; have hb1 := hI.1.persons
  refine hX 400 0 _ _ ?_
  refine s_isPerson (σ := σ) (k := o) hI.1  (fun r1 p1 => ?_)
  have p1 : (r1 = 1 ∧ 0 ≤ o ∧ o < (σ 2 1)) ∨ (r1 = 0 ∧ (o < 0 ∨ (σ 2 1) ≤ o)) := p1
  refine And.intro (fun c2 => ?_) (fun c2 => ?_)
  · replace p1 : (o < 0 ∨ (σ 2 1) ≤ o) := by
      rcases p1 with q | q
      · exact absurd q.1 (by omega)
      · exact q.2
    refine s_throwsIfF (σ := σ) (is := 1) (by omega) (fun r3 σ3 f3 p3 => ?_)
    have hI := hI.fr f3 (by decide) (by decide) (by decide) (by decide) (by decide) (by decide) (by decide)
    have k2_3 : σ3 2 = σ 2 := f3.1 2 (by decide) (by decide)
    have k20_3 := congrFun k2_3 0; have k21_3 := congrFun k2_3 1
    refine And.intro (fun c4 => ?_) (fun c4 => ?_)
    · exfalso; omega
    · refine And.intro rfl (And.intro rfl ?_)
      exact hQ _ _ hI 
  · replace p1 : 0 ≤ o ∧ o < (σ 2 1) := by
      rcases p1 with q | q
      · exact q.2
      · exact absurd q.1 (by omega)
    refine s_isKind (σ := σ) (k := kind) hI.1  (fun r5 p5 => ?_)
    have p5 : (r5 = 1 ∧ 0 ≤ kind ∧ kind < (σ 2 0)) ∨ (r5 = 0 ∧ (kind < 0 ∨ (σ 2 0) ≤ kind)) := p5
    refine And.intro (fun c6 => ?_) (fun c6 => ?_)
    · replace p5 : (kind < 0 ∨ (σ 2 0) ≤ kind) := by
        rcases p5 with q | q
        · exact absurd q.1 (by omega)
        · exact q.2
      refine s_throwsIfF (σ := σ) (is := 1) (by omega) (fun r7 σ7 f7 p7 => ?_)
      have hI := hI.fr f7 (by decide) (by decide) (by decide) (by decide) (by decide) (by decide) (by decide)
      have k2_7 : σ7 2 = σ 2 := f7.1 2 (by decide) (by decide)
      have k20_7 := congrFun k2_7 0; have k21_7 := congrFun k2_7 1
      refine And.intro (fun c8 => ?_) (fun c8 => ?_)
      · exfalso; omega
      · refine And.intro rfl (And.intro rfl ?_)
        exact hQ _ _ hI 
    · replace p5 : 0 ≤ kind ∧ kind < (σ 2 0) := by
        rcases p5 with q | q
        · exact q.2
        · exact absurd q.1 (by omega)
      refine s_isIn (σ := σ) (v := what) (low := 0) (high := 1)  (fun r9 p9 => ?_)
      have p9 : (r9 = 1 ∧ 0 ≤ what ∧ what ≤ 1) ∨ (r9 = 0 ∧ (what < 0 ∨ 1 < what)) := p9
      refine And.intro (fun c10 => ?_) (fun c10 => ?_)
      · replace p9 : (what < 0 ∨ 1 < what) := by
          rcases p9 with q | q
          · exact absurd q.1 (by omega)
          · exact q.2
        refine s_throwsIfF (σ := σ) (is := 1) (by omega) (fun r11 σ11 f11 p11 => ?_)
        have hI := hI.fr f11 (by decide) (by decide) (by decide) (by decide) (by decide) (by decide) (by decide)
        have k2_11 : σ11 2 = σ 2 := f11.1 2 (by decide) (by decide)
        have k20_11 := congrFun k2_11 0; have k21_11 := congrFun k2_11 1
        refine And.intro (fun c12 => ?_) (fun c12 => ?_)
        · exfalso; omega
        · refine And.intro rfl (And.intro rfl ?_)
          exact hQ _ _ hI 
      · replace p9 : 0 ≤ what ∧ what ≤ 1 := by
          rcases p9 with q | q
          · exact q.2
          · exact absurd q.1 (by omega)
        refine And.intro (rfl) (And.intro (⟨by omega, by omega⟩) ?_)
        intro v13 e13 l13 h13
        have e13 : v13 = σ 2 7 := e13
        have rv13 : 0 ≤ (σ 2 7) ∧ (σ 2 7) ≤ 52 := hI.1.heaped
        refine And.intro (fun c14 => ?_) (fun c14 => ?_)
        · refine s_throwsIfF (σ := σ) (is := 1) (by omega) (fun r15 σ15 f15 p15 => ?_)
          have hI := hI.fr f15 (by decide) (by decide) (by decide) (by decide) (by decide) (by decide) (by decide)
          have k2_15 : σ15 2 = σ 2 := f15.1 2 (by decide) (by decide)
          have k20_15 := congrFun k2_15 0; have k21_15 := congrFun k2_15 1
          refine And.intro (fun c16 => ?_) (fun c16 => ?_)
          · exfalso; omega
          · refine And.intro rfl (And.intro rfl ?_)
            exact hQ _ _ hI 
        · refine s_looks (σ := σ) (o := o) hI.1 (by omega) (fun r17 σ17 f17 p17 => ?_)
          have hI := hI.fr f17 (by decide) (by decide) (by decide) (by decide) (by decide) (by decide) (by decide)
          have kt2_17 : σ17 2 = σ 2 := f17.1 2 (by decide) (by decide)
          have k20_17 := congrFun kt2_17 0; have k21_17 := congrFun kt2_17 1; have k27_17 := congrFun kt2_17 7
          have p17 : (r17 = 1 ∧ LKx σ17 o) ∨ (r17 = 0 ∧ (0 : Int) ≤ 0) := by
            rcases p17 with q | q
            · exact Or.inl q
            · exact Or.inr ⟨q, by omega⟩
          have hb0 : 0 ≤ (σ17 2 0) ∧ (σ17 2 0) ≤ 13 := hI.1.kinds; have hb1 : 0 ≤ (σ17 2 1) ∧ (σ17 2 1) ≤ 6 := hI.1.persons
          refine And.intro (fun c18 => ?_) (fun c18 => ?_)
          · replace p17 : LKx σ17 o := by
              rcases p17 with q | q
              · exact q.2
              · exact absurd q.1 (by omega)
            refine s_throwsIfF (σ := σ17) (is := 0) (by omega) (fun r19 σ19 f19 p19 => ?_)
            have hI := hI.fr f19 (by decide) (by decide) (by decide) (by decide) (by decide) (by decide) (by decide)
            have k2_19 : σ19 2 = σ17 2 := f19.1 2 (by decide) (by decide)
            have k20_19 := congrFun k2_19 0; have k21_19 := congrFun k2_19 1
            have hL := p17
            have hL := hL.eq (σ' := σ19) (f19.1 2 (by decide) (by decide)) (f19.1 10 (by decide) (by decide)) (f19.1 11 (by decide) (by decide)) (f19.2 33 (by decide)) (f19.2 34 (by decide)) (f19.2 35 (by decide))
            refine And.intro (fun c20 => ?_) (fun c20 => ?_)
            · refine s_waysOf (σ := σ19) (o := o) (q := (-1)) (without := 0) hI.1 (by omega) hL (fun r21 σ21 f21 p21 => ?_)
              have hI := hI.fr f21 (by decide) (by decide) (by decide) (by decide) (by decide) (by decide) (by decide)
              have k2_21 : σ21 2 = σ19 2 := f21.1 2 (by decide) (by decide)
              have k20_21 := congrFun k2_21 0; have k21_21 := congrFun k2_21 1
              have b21 := p21.1
              have hL := hL.eq (σ' := σ21) (f21.1 2 (by decide) (by decide)) (f21.1 10 (by decide) (by decide)) (f21.1 11 (by decide) (by decide)) (f21.2 33 (by decide)) (f21.2 34 (by decide)) (f21.2 35 (by decide))
              have hb0 : 0 ≤ (σ21 2 0) ∧ (σ21 2 0) ≤ 13 := hI.1.kinds; have hb1 : 0 ≤ (σ21 2 1) ∧ (σ21 2 1) ≤ 6 := hI.1.persons
              refine And.intro (Nat.le_of_ble_eq_true rfl) ?_
              show xw _ _ _ _ _ _ _ _ _ _ [xvr 0, xvi o, xvi kind, xvi what, xvl r21, xvu, xvu, xvu, xvu, xvu, xvu] _ _
              intro z22 a22 b22 c22 l22 h22
              refine And.intro (fun c23 => ?_) (fun c23 => ?_)
              · refine s_throwsIfF (σ := σ21) (is := 1) (by omega) (fun r24 σ24 f24 p24 => ?_)
                have hI := hI.fr f24 (by decide) (by decide) (by decide) (by decide) (by decide) (by decide) (by decide)
                have k2_24 : σ24 2 = σ21 2 := f24.1 2 (by decide) (by decide)
                have k20_24 := congrFun k2_24 0; have k21_24 := congrFun k2_24 1
                refine And.intro (fun c25 => ?_) (fun c25 => ?_)
                · exfalso; omega
                · refine And.intro rfl (And.intro rfl ?_)
                  exact hQ _ _ hI 
              · intro v26 e26 l26 h26
                have e26 : v26 = σ21 0 34 := e26
                intro v27 e27 l27 h27
                have e27 : v27 = σ21 0 35 := e27
                refine And.intro (fun c28 => ?_) (fun c28 => ?_)
                · refine s_throwsIfF (σ := σ21) (is := 0) (by omega) (fun r29 σ29 f29 p29 => ?_)
                  have hI := hI.fr f29 (by decide) (by decide) (by decide) (by decide) (by decide) (by decide) (by decide)
                  have k2_29 : σ29 2 = σ21 2 := f29.1 2 (by decide) (by decide)
                  have k20_29 := congrFun k2_29 0; have k21_29 := congrFun k2_29 1
                  have hL := hL.eq (σ' := σ29) (f29.1 2 (by decide) (by decide)) (f29.1 10 (by decide) (by decide)) (f29.1 11 (by decide) (by decide)) (f29.2 33 (by decide)) (f29.2 34 (by decide)) (f29.2 35 (by decide))
                  have hst : ∀ j : Nat, (j : Int) < σ21 0 33 → σ29 12 j = f5 j := fun j hj => by rw [f29.1 12 (by decide) (by decide)]; exact p21.2 j (by rw [← f21.2 33 (by decide)]; exact hj)
                  have w33 : σ29 0 33 = σ21 0 33 := f29.2 33 (by decide)
                  have w34 : σ29 0 34 = σ21 0 34 := f29.2 34 (by decide)
                  have w35 : σ29 0 35 = σ21 0 35 := f29.2 35 (by decide)
                  have hLc := hL.2.2.1; have hLk := hL.1
                  refine And.intro (fun c30 => ?_) (fun c30 => ?_)
                  · refine And.intro (Nat.le_of_ble_eq_true rfl) ?_
                    show xw _ _ _ _ _ _ _ _ _ _ [xvr 0, xvi o, xvi kind, xvi what, xvl r21, xvu, xvi 1, xvu, xvu, xvu, xvu] _ _
                    refine And.intro (Nat.le_of_ble_eq_true rfl) ?_
                    show xw _ _ _ _ _ _ _ _ _ _ [xvr 0, xvi o, xvi kind, xvi what, xvl r21, xvu, xvi 1, xvi 0, xvu, xvu, xvu] _ _
                    have lp_104 : ∀ (m104 : Nat) (codes : Int) (i : Int), ((6 - i).toNat) = m104 → ((0 ≤ i ∧ i ≤ σ29 0 33) ∧ codes = f5 i.toNat) → X 104 [xvr 0, xvi o, xvi kind, xvi what, xvl r21, xvu, xvi codes, xvi i, xvu, xvu, xvu] σ29 := by
                      intro m104
                      induction m104 using Nat.strongRecOn with
                      | _ m104 ih_104 =>
                      intro codes i hm_104 hv_104
                      have hc1 := f5_p (n := i.toNat); have hc2 := f5_6 (n := i.toNat) (by omega)
                      refine hX 400 104 _ _ ?_
                      intro v32 e32 l32 h32
                      have e32 : v32 = σ29 0 33 := e32
                      refine And.intro (fun c33 => ?_) (fun c33 => ?_)
                      · refine And.intro (Nat.le_of_ble_eq_true rfl) ?_
                        show xw _ _ _ _ _ _ _ _ _ _ [xvr 0, xvi o, xvi kind, xvi what, xvl r21, xvu, xvi codes, xvl 0, xvu, xvu, xvu] _ _
                        refine And.intro (Nat.le_of_ble_eq_true rfl) ?_
                        show xw _ _ _ _ _ _ _ _ _ _ [xvr 0, xvi o, xvi kind, xvi what, xvl r21, xvu, xvi codes, xvl 0, xvu, xvi 0, xvu] _ _
                        have lp_131 : ∀ (m131 : Nat) (sum : Int) (j : Int) (u34_10 : xV), ((6 - j).toNat) = m131 → (0 ≤ j ∧ (-9223372036854775808 ≤ sum ∧ sum ≤ 9223372036854775807)) → X 131 [xvr 0, xvi o, xvi kind, xvi what, xvl r21, xvu, xvi codes, xvl sum, xvu, xvi j, u34_10] σ29 := by
                          intro m131
                          induction m131 using Nat.strongRecOn with
                          | _ m131 ih_131 =>
                          intro sum j u34_10 hm_131 hv_131
                          refine hX 400 131 _ _ ?_
                          intro v35 e35 l35 h35
                          have e35 : v35 = σ29 0 33 := e35
                          refine And.intro (fun c36 => ?_) (fun c36 => ?_)
                          · have hsl : 0 ≤ σ29 0 35 := by rw [hL.2.2.2.1]; exact (onx_nn (fun p hp => hI.1.1.others hp) (by have := hI.1.persons; omega)).1
                            intro v37 e37 l37 h37
                            have e37 : v37 = σ29 0 34 := e37
                            intro v38 e38 l38 h38
                            have e38 : v38 = σ29 0 35 := e38
                            intro z39 t39 e39 l39 h39
                            try have w39 : t39 = 0 := by omega
                            have hmu := mul24 (w := r21) (m := z39) (by omega) (by omega) (by omega)
                            intro z40 t40 e40 l40 h40
                            try have w40 : t40 = 0 := by omega
                            refine s_part (σ := σ29) (a := sum) (b := z40) (what := what) (by omega) (by omega) (by omega) (fun r41 p41 => ?_)
                            refine And.intro rfl (And.intro rfl ?_)
                            exact hQ _ _ hI 
                          · refine And.intro (rfl) (And.intro (⟨by omega, by omega⟩) ?_)
                            intro v42 e42 l42 h42
                            have e42 : v42 = σ29 11 j.toNat := e42
                            refine And.intro (fun c43 => ?_) (fun c43 => ?_)
                            · refine And.intro (Nat.le_of_ble_eq_true rfl) ?_
                              show xw _ _ _ _ _ _ _ _ _ _ [xvr 0, xvi o, xvi kind, xvi what, xvl r21, xvu, xvi codes, xvl sum, xvu, xvi j, xvi 0] _ _
                              have lp_157 : ∀ (m157 : Nat) (sum2 : Int) (c : Int), ((15625 - c).toNat) = m157 → (0 ≤ c ∧ (-9223372036854775808 ≤ sum2 ∧ sum2 ≤ 9223372036854775807)) → X 157 [xvr 0, xvi o, xvi kind, xvi what, xvl r21, xvu, xvi codes, xvl sum2, xvu, xvi j, xvi c] σ29 := by
                                intro m157
                                induction m157 using Nat.strongRecOn with
                                | _ m157 ih_157 =>
                                intro sum2 c hm_157 hv_157
                                refine hX 400 157 _ _ ?_
                                refine And.intro (fun c45 => ?_) (fun c45 => ?_)
                                · refine hX 400 203 _ _ ?_
                                  intro z46 t46 e46 l46 h46
                                  try have w46 : t46 = 0 := by omega
                                  show xw _ _ _ _ _ _ _ _ _ _ [xvr 0, xvi o, xvi kind, xvi what, xvl r21, xvu, xvi codes, xvl sum2, xvu, xvi z46, xvi c] _ _
                                  exact ih_131 _ (show (6 - z46).toNat < m131 from by omega) sum2 z46 (xvi c) rfl (show 0 ≤ z46 ∧ (-9223372036854775808 ≤ sum2 ∧ sum2 ≤ 9223372036854775807) from by first | trivial | omega | (refine ⟨by assumption, ?_⟩; omega) | (refine ⟨?_, ?_⟩ <;> omega))
                                · refine And.intro (rfl) (And.intro (⟨by omega, by omega⟩) ?_)
                                  intro v47 e47 l47 h47
                                  have e47 : v47 = σ29 13 c.toNat := e47
                                  refine And.intro (rfl) (And.intro (⟨by omega, by omega⟩) ?_)
                                  intro v48 e48 l48 h48
                                  have e48 : v48 = σ29 10 kind.toNat := e48
                                  refine And.intro (rfl) (And.intro (⟨by omega, by omega⟩) ?_)
                                  intro v49 e49 l49 h49
                                  have e49 : v49 = σ29 12 j.toNat := e49
                                  have hsv49 : v49 = f5 j.toNat := by rw [e49]; exact hst j.toNat (by omega)
                                  have hsp := f5_p (n := j.toNat)
                                  refine s_digitE (σ := σ29) (code := c) (by_ := v49) (by omega) (fun r50 p50 => ?_)
                                  intro z51 t51 e51 l51 h51
                                  try have w51 : t51 = 0 := by omega
                                  intro z52 t52 e52 l52 h52
                                  intro z53 t53 e53 l53 h53
                                  refine And.intro (Nat.le_of_ble_eq_true rfl) ?_
                                  show xw _ _ _ _ _ _ _ _ _ _ [xvr 0, xvi o, xvi kind, xvi what, xvl r21, xvu, xvi codes, xvl z53, xvu, xvi j, xvi c] _ _
                                  intro z54 t54 e54 l54 h54
                                  try have w54 : t54 = 0 := by omega
                                  show xw _ _ _ _ _ _ _ _ _ _ [xvr 0, xvi o, xvi kind, xvi what, xvl r21, xvu, xvi codes, xvl z53, xvu, xvi j, xvi z54] _ _
                                  exact ih_157 _ (show (15625 - z54).toNat < m157 from by omega) z53 z54 rfl (show 0 ≤ z54 ∧ (-9223372036854775808 ≤ z53 ∧ z53 ≤ 9223372036854775807) from by first | trivial | omega | (refine ⟨by assumption, ?_⟩; omega) | (refine ⟨?_, ?_⟩ <;> omega))
                              exact lp_157 _ sum 0 rfl (show 0 ≤ 0 ∧ (-9223372036854775808 ≤ sum ∧ sum ≤ 9223372036854775807) from by first | trivial | omega | (refine ⟨by assumption, ?_⟩; omega) | (refine ⟨?_, ?_⟩ <;> omega))
                            · refine hX 400 203 _ _ ?_
                              intro z55 t55 e55 l55 h55
                              try have w55 : t55 = 0 := by omega
                              show xw _ _ _ _ _ _ _ _ _ _ [xvr 0, xvi o, xvi kind, xvi what, xvl r21, xvu, xvi codes, xvl sum, xvu, xvi z55, u34_10] _ _
                              exact ih_131 _ (show (6 - z55).toNat < m131 from by omega) sum z55 (u34_10) rfl (show 0 ≤ z55 ∧ (-9223372036854775808 ≤ sum ∧ sum ≤ 9223372036854775807) from by first | trivial | omega | (refine ⟨by assumption, ?_⟩; omega) | (refine ⟨?_, ?_⟩ <;> omega))
                        exact lp_131 _ 0 0 (xvu) rfl (show 0 ≤ 0 ∧ (-9223372036854775808 ≤ 0 ∧ 0 ≤ 9223372036854775807) from by first | trivial | omega | (refine ⟨by assumption, ?_⟩; omega) | (refine ⟨?_, ?_⟩ <;> omega))
                      · intro z56 t56 e56 l56 h56
                        try have w56 : t56 = 0 := by omega
                        refine And.intro (Nat.le_of_ble_eq_true rfl) ?_
                        show xw _ _ _ _ _ _ _ _ _ _ [xvr 0, xvi o, xvi kind, xvi what, xvl r21, xvu, xvi z56, xvi i, xvu, xvu, xvu] _ _
                        intro z57 t57 e57 l57 h57
                        try have w57 : t57 = 0 := by omega
                        show xw _ _ _ _ _ _ _ _ _ _ [xvr 0, xvi o, xvi kind, xvi what, xvl r21, xvu, xvi z56, xvi z57, xvu, xvu, xvu] _ _
                        exact ih_104 _ (show (6 - z57).toNat < m104 from by omega) z56 z57 rfl ⟨by omega, (by rw [show z57.toNat = i.toNat + 1 from by omega]; show z56 = 5 * f5 i.toNat; omega)⟩
                    exact lp_104 _ 1 0 rfl ⟨by omega, rfl⟩
                  · exfalso; omega
                · refine s_throwsIfF (σ := σ21) (is := 1) (by omega) (fun r58 σ58 f58 p58 => ?_)
                  have hI := hI.fr f58 (by decide) (by decide) (by decide) (by decide) (by decide) (by decide) (by decide)
                  have k2_58 : σ58 2 = σ21 2 := f58.1 2 (by decide) (by decide)
                  have k20_58 := congrFun k2_58 0; have k21_58 := congrFun k2_58 1
                  refine And.intro (fun c59 => ?_) (fun c59 => ?_)
                  · exfalso; omega
                  · refine And.intro rfl (And.intro rfl ?_)
                    exact hQ _ _ hI 
            · refine And.intro rfl (And.intro rfl ?_)
              exact hQ _ _ hI 
          · replace p17 : (0 : Int) ≤ 0 := by
              rcases p17 with q | q
              · exact absurd q.1 (by omega)
              · exact q.2
            refine s_throwsIfF (σ := σ17) (is := 1) (by omega) (fun r60 σ60 f60 p60 => ?_)
            have hI := hI.fr f60 (by decide) (by decide) (by decide) (by decide) (by decide) (by decide) (by decide)
            have k2_60 : σ60 2 = σ17 2 := f60.1 2 (by decide) (by decide)
            have k20_60 := congrFun k2_60 0; have k21_60 := congrFun k2_60 1
            refine And.intro (fun c61 => ?_) (fun c61 => ?_)
            · exfalso; omega
            · refine And.intro rfl (And.intro rfl ?_)
              exact hQ _ _ hI 
