set_option maxHeartbeats 4000000 in
set_option maxRecDepth 100000 in
theorem s_whomK {σ : xS} {o : Int} {Q : Option xV → xS → Prop} (hI : RI σ) (hQ : ∀ r : Int, ∀ σ' : xS, RKs σ σ' → Q (some (xvi r)) σ') : xT kX11_whom [xvr 0, xvi o] σ Q := by
  refine ⟨Nat.le_of_ble_eq_true rfl, fun X hX => ?_⟩
  show X 0 [xvr 0, xvi o, xvu, xvu, xvu, xvu, xvu, xvu, xvu, xvu, xvu] σ
  have hI : RKs σ σ := RKs.rf hI
  have hb0 := hI.1.kinds; have hb1 := hI.1.persons
  refine hX 400 0 _ _ ?_
  have hI := hI.p0 (j := 0) (v := 0) (by decide) (by decide) (by decide)
  refine s_isPerson (σ := (xput σ 0 0 0)) (k := o) hI.1  (fun r2 p2 => ?_)
  have p2 : (r2 = 1 ∧ 0 ≤ o ∧ o < (σ 2 1)) ∨ (r2 = 0 ∧ (o < 0 ∨ (σ 2 1) ≤ o)) := p2
  refine And.intro (fun c3 => ?_) (fun c3 => ?_)
  · replace p2 : (o < 0 ∨ (σ 2 1) ≤ o) := by
      rcases p2 with q | q
      · exact absurd q.1 (by omega)
      · exact q.2
    refine hX 400 29 _ _ ?_
    refine And.intro rfl ?_
    exact hQ _ _ hI 
  · replace p2 : 0 ≤ o ∧ o < (σ 2 1) := by
      rcases p2 with q | q
      · exact q.2
      · exact absurd q.1 (by omega)
    refine s_cards (σ := (xput σ 0 0 0)) (k := o) (show V0 ((xput σ 0 0 0) 2) from (VG_iff.mp hI.1.1).1) (show 0 ≤ o ∧ o ≤ 5 from by omega) (fun r4 p4 => ?_)
    have p4 : r4 = sm 13 (hd ((xput σ 0 0 0) 2) o.toNat) ∧ 0 ≤ r4 ∧ r4 ≤ 52 := p4
    refine And.intro (fun c5 => ?_) (fun c5 => ?_)
    · refine hX 400 29 _ _ ?_
      refine And.intro rfl ?_
      exact hQ _ _ hI 
    · refine s_looks (σ := (xput σ 0 0 0)) (o := o) hI.1 (by omega) (fun r6 σ6 f6 p6 => ?_)
      have hI := hI.fr f6 (by decide) (by decide) (by decide) (by decide) (by decide) (by decide) (by decide)
      have kt2_6 : σ6 2 = σ 2 := f6.1 2 (by decide) (by decide)
      have k20_6 := congrFun kt2_6 0; have k21_6 := congrFun kt2_6 1; have k27_6 := congrFun kt2_6 7
      have p6 : (r6 = 1 ∧ LKx σ6 o) ∨ (r6 = 0 ∧ (0 : Int) ≤ 0) := by
        rcases p6 with q | q
        · exact Or.inl q
        · exact Or.inr ⟨q, by omega⟩
      have hb0 : 0 ≤ (σ6 2 0) ∧ (σ6 2 0) ≤ 13 := hI.1.kinds; have hb1 : 0 ≤ (σ6 2 1) ∧ (σ6 2 1) ≤ 6 := hI.1.persons
      refine And.intro (fun c7 => ?_) (fun c7 => ?_)
      · replace p6 : LKx σ6 o := by
          rcases p6 with q | q
          · exact q.2
          · exact absurd q.1 (by omega)
        have hL := p6
        refine s_waysOf (σ := σ6) (o := o) (q := (-1)) (without := 0) hI.1 (by omega) hL (fun r8 σ8 f8 p8 => ?_)
        have hI := hI.fr f8 (by decide) (by decide) (by decide) (by decide) (by decide) (by decide) (by decide)
        have k2_8 : σ8 2 = σ6 2 := f8.1 2 (by decide) (by decide)
        have k20_8 := congrFun k2_8 0; have k21_8 := congrFun k2_8 1
        have b8 := p8.1
        have hL := hL.eq (σ' := σ8) (f8.1 2 (by decide) (by decide)) (f8.1 10 (by decide) (by decide)) (f8.1 11 (by decide) (by decide)) (f8.2 33 (by decide)) (f8.2 34 (by decide)) (f8.2 35 (by decide))
        have hb0 : 0 ≤ (σ8 2 0) ∧ (σ8 2 0) ≤ 13 := hI.1.kinds; have hb1 : 0 ≤ (σ8 2 1) ∧ (σ8 2 1) ≤ 6 := hI.1.persons
        refine And.intro (Nat.le_of_ble_eq_true rfl) ?_
        show xw _ _ _ _ _ _ _ _ _ _ [xvr 0, xvi o, xvl r8, xvu, xvu, xvu, xvu, xvu, xvu, xvu, xvu] _ _
        intro z9 a9 b9 c9 l9 h9
        refine And.intro (fun c10 => ?_) (fun c10 => ?_)
        · refine And.intro (Nat.le_of_ble_eq_true rfl) ?_
          show xw _ _ _ _ _ _ _ _ _ _ [xvr 0, xvi o, xvl r8, xvu, xvl (-1), xvu, xvu, xvu, xvu, xvu, xvu] _ _
          refine And.intro (Nat.le_of_ble_eq_true rfl) ?_
          show xw _ _ _ _ _ _ _ _ _ _ [xvr 0, xvi o, xvl r8, xvu, xvl (-1), xvu, xvi (-1), xvu, xvu, xvu, xvu] _ _
          refine And.intro (Nat.le_of_ble_eq_true rfl) ?_
          show xw _ _ _ _ _ _ _ _ _ _ [xvr 0, xvi o, xvl r8, xvu, xvl (-1), xvu, xvi (-1), xvi 0, xvu, xvu, xvu] _ _
          have lp_58 : ∀ (m58 : Nat) (most : Int) (best : Int) (q : Int) (u11_8 : xV) (u11_9 : xV) (u11_10 : xV) (s1 : xS), ((6 - q).toNat) = m58 → (RKs σ s1 ∧ LKx s1 o ∧ (0 ≤ o ∧ o < s1 2 1) ∧ (0 ≤ q)) → X 58 [xvr 0, xvi o, xvl r8, xvu, xvl most, xvu, xvi best, xvi q, u11_8, u11_9, u11_10] s1 := by
            intro m58
            induction m58 using Nat.strongRecOn with
            | _ m58 ih_58 =>
            intro most best q u11_8 u11_9 u11_10 s1 hm_58 hv_58
            obtain ⟨hI, hL, ho, hv_58⟩ := hv_58
            have hb0 := hI.1.kinds; have hb1 := hI.1.persons
            refine hX 400 58 _ _ ?_
            refine And.intro (rfl) (And.intro (⟨by omega, by omega⟩) ?_)
            intro v12 e12 l12 h12
            have e12 : v12 = s1 2 1 := e12
            have rv12 : 0 ≤ (s1 2 1) ∧ (s1 2 1) ≤ 6 := hI.1.persons
            refine And.intro (fun c13 => ?_) (fun c13 => ?_)
            · refine And.intro rfl ?_
              exact hQ _ _ hI 
            · refine And.intro (Nat.le_of_ble_eq_true rfl) ?_
              show xw _ _ _ _ _ _ _ _ _ _ [xvr 0, xvi o, xvl r8, xvu, xvl most, xvu, xvi best, xvi q, xvi 0, u11_9, u11_10] _ _
              have lp_72 : ∀ (m72 : Nat) (most2 : Int) (best2 : Int) (kd : Int) (u14_9 : xV) (u14_10 : xV) (s2 : xS), ((13 - kd).toNat) = m72 → (RKs σ s2 ∧ LKx s2 o ∧ (0 ≤ o ∧ o < s2 2 1) ∧ (q < s2 2 1) ∧ (0 ≤ kd)) → X 72 [xvr 0, xvi o, xvl r8, xvu, xvl most2, xvu, xvi best2, xvi q, xvi kd, u14_9, u14_10] s2 := by
                intro m72
                induction m72 using Nat.strongRecOn with
                | _ m72 ih_72 =>
                intro most2 best2 kd u14_9 u14_10 s2 hm_72 hv_72
                obtain ⟨hI, hL, ho, hq, hv_72⟩ := hv_72
                have hb0 := hI.1.kinds; have hb1 := hI.1.persons
                refine hX 400 72 _ _ ?_
                refine And.intro (rfl) (And.intro (⟨by omega, by omega⟩) ?_)
                intro v15 e15 l15 h15
                have e15 : v15 = s2 2 0 := e15
                have rv15 : 0 ≤ (s2 2 0) ∧ (s2 2 0) ≤ 13 := hI.1.kinds
                refine And.intro (fun c16 => ?_) (fun c16 => ?_)
                · intro z17 t17 e17 l17 h17
                  try have w17 : t17 = 0 := by omega
                  show xw _ _ _ _ _ _ _ _ _ _ [xvr 0, xvi o, xvl r8, xvu, xvl most2, xvu, xvi best2, xvi z17, xvi kd, u14_9, u14_10] _ _
                  exact ih_58 _ (show (6 - z17).toNat < m58 from by omega) most2 best2 z17 (xvi kd) (u14_9) (u14_10) s2 rfl ⟨hI, hL, by omega, by omega⟩
                · refine And.intro (fun c18 => ?_) (fun c18 => ?_)
                  · refine hX 400 165 _ _ ?_
                    intro z19 t19 e19 l19 h19
                    try have w19 : t19 = 0 := by omega
                    show xw _ _ _ _ _ _ _ _ _ _ [xvr 0, xvi o, xvl r8, xvu, xvl most2, xvu, xvi best2, xvi q, xvi z19, u14_9, u14_10] _ _
                    exact ih_72 _ (show (13 - z19).toNat < m72 from by omega) most2 best2 z19 (u14_9) (u14_10) s2 rfl ⟨hI, hL, by omega, by omega, by omega⟩
                  · refine s_hand0 (σ := s2) (k := o) (kind := kd) hI.1 (show 0 ≤ o ∧ o ≤ 5 from by omega) (show 0 ≤ kd ∧ kd ≤ 12 from by omega) (fun r20 p20 => ?_)
                    have p20 : r20 = s2 2 (60 + 13 * o + kd).toNat ∧ 0 ≤ r20 ∧ r20 ≤ 4 := p20
                    refine And.intro (fun c21 => ?_) (fun c21 => ?_)
                    · intro z22 t22 e22 l22 h22
                      try have w22 : t22 = 0 := by omega
                      intro z23 t23 e23 l23 h23
                      try have w23 : t23 = 0 := by omega
                      intro z24 t24 e24 l24 h24
                      try have w24 : t24 = 0 := by omega
                      refine And.intro (rfl) (And.intro (⟨by omega, by omega⟩) ?_)
                      intro v25 e25 l25 h25
                      have e25 : v25 = s2 2 z24.toNat := e25
                      have rv25 : 0 ≤ s2 2 z24.toNat ∧ s2 2 z24.toNat ≤ 4 := hI.1.knI (z := z24) (by omega) (by omega)
                      refine And.intro (fun c26 => ?_) (fun c26 => ?_)
                      · refine s_waysOf (σ := s2) (o := o) (q := q) (without := kd) hI.1 (by omega) hL (fun r27 σ27 f27 p27 => ?_)
                        have hI := hI.fr f27 (by decide) (by decide) (by decide) (by decide) (by decide) (by decide) (by decide)
                        have k2_27 : σ27 2 = s2 2 := f27.1 2 (by decide) (by decide)
                        have k20_27 := congrFun k2_27 0; have k21_27 := congrFun k2_27 1
                        have b27 := p27.1
                        have hL := hL.eq (σ' := σ27) (f27.1 2 (by decide) (by decide)) (f27.1 10 (by decide) (by decide)) (f27.1 11 (by decide) (by decide)) (f27.2 33 (by decide)) (f27.2 34 (by decide)) (f27.2 35 (by decide))
                        have hb0 : 0 ≤ (σ27 2 0) ∧ (σ27 2 0) ≤ 13 := hI.1.kinds; have hb1 : 0 ≤ (σ27 2 1) ∧ (σ27 2 1) ≤ 6 := hI.1.persons
                        intro z28 t28 e28 l28 h28
                        try have w28 : t28 = 0 := by omega
                        refine And.intro (Nat.le_of_ble_eq_true rfl) ?_
                        show xw _ _ _ _ _ _ _ _ _ _ [xvr 0, xvi o, xvl r8, xvu, xvl most2, xvu, xvi best2, xvi q, xvi kd, xvl z28, xvu] _ _
                        intro z29 a29 b29 c29 l29 h29
                        refine And.intro (fun c30 => ?_) (fun c30 => ?_)
                        · refine And.intro (Nat.le_of_ble_eq_true rfl) ?_
                          show xw _ _ _ _ _ _ _ _ _ _ [xvr 0, xvi o, xvl r8, xvu, xvl z28, xvu, xvi best2, xvi q, xvi kd, xvl z28, xvu] _ _
                          intro z31 t31 e31 l31 h31
                          try have w31 : t31 = 0 := by omega
                          intro z32 t32 e32 l32 h32
                          try have w32 : t32 = 0 := by omega
                          refine And.intro (Nat.le_of_ble_eq_true rfl) ?_
                          show xw _ _ _ _ _ _ _ _ _ _ [xvr 0, xvi o, xvl r8, xvu, xvl z28, xvu, xvi z32, xvi q, xvi kd, xvl z28, xvu] _ _
                          refine hX 400 165 _ _ ?_
                          intro z33 t33 e33 l33 h33
                          try have w33 : t33 = 0 := by omega
                          show xw _ _ _ _ _ _ _ _ _ _ [xvr 0, xvi o, xvl r8, xvu, xvl z28, xvu, xvi z32, xvi q, xvi z33, xvl z28, xvu] _ _
                          exact ih_72 _ (show (13 - z33).toNat < m72 from by omega) z28 z32 z33 (xvl z28) (xvu) σ27 rfl ⟨hI, hL, by omega, by omega, by omega⟩
                        · refine hX 400 165 _ _ ?_
                          intro z34 t34 e34 l34 h34
                          try have w34 : t34 = 0 := by omega
                          show xw _ _ _ _ _ _ _ _ _ _ [xvr 0, xvi o, xvl r8, xvu, xvl most2, xvu, xvi best2, xvi q, xvi z34, xvl z28, xvu] _ _
                          exact ih_72 _ (show (13 - z34).toNat < m72 from by omega) most2 best2 z34 (xvl z28) (xvu) σ27 rfl ⟨hI, hL, by omega, by omega, by omega⟩
                      · refine And.intro (Nat.le_of_ble_eq_true rfl) ?_
                        show xw _ _ _ _ _ _ _ _ _ _ [xvr 0, xvi o, xvl r8, xvu, xvl most2, xvu, xvi best2, xvi q, xvi kd, xvl r8, xvu] _ _
                        intro z35 a35 b35 c35 l35 h35
                        refine And.intro (fun c36 => ?_) (fun c36 => ?_)
                        · refine And.intro (Nat.le_of_ble_eq_true rfl) ?_
                          show xw _ _ _ _ _ _ _ _ _ _ [xvr 0, xvi o, xvl r8, xvu, xvl r8, xvu, xvi best2, xvi q, xvi kd, xvl r8, xvu] _ _
                          intro z37 t37 e37 l37 h37
                          try have w37 : t37 = 0 := by omega
                          intro z38 t38 e38 l38 h38
                          try have w38 : t38 = 0 := by omega
                          refine And.intro (Nat.le_of_ble_eq_true rfl) ?_
                          show xw _ _ _ _ _ _ _ _ _ _ [xvr 0, xvi o, xvl r8, xvu, xvl r8, xvu, xvi z38, xvi q, xvi kd, xvl r8, xvu] _ _
                          refine hX 400 165 _ _ ?_
                          intro z39 t39 e39 l39 h39
                          try have w39 : t39 = 0 := by omega
                          show xw _ _ _ _ _ _ _ _ _ _ [xvr 0, xvi o, xvl r8, xvu, xvl r8, xvu, xvi z38, xvi q, xvi z39, xvl r8, xvu] _ _
                          exact ih_72 _ (show (13 - z39).toNat < m72 from by omega) r8 z38 z39 (xvl r8) (xvu) s2 rfl ⟨hI, hL, by omega, by omega, by omega⟩
                        · refine hX 400 165 _ _ ?_
                          intro z40 t40 e40 l40 h40
                          try have w40 : t40 = 0 := by omega
                          show xw _ _ _ _ _ _ _ _ _ _ [xvr 0, xvi o, xvl r8, xvu, xvl most2, xvu, xvi best2, xvi q, xvi z40, xvl r8, xvu] _ _
                          exact ih_72 _ (show (13 - z40).toNat < m72 from by omega) most2 best2 z40 (xvl r8) (xvu) s2 rfl ⟨hI, hL, by omega, by omega, by omega⟩
                    · refine hX 400 165 _ _ ?_
                      intro z41 t41 e41 l41 h41
                      try have w41 : t41 = 0 := by omega
                      show xw _ _ _ _ _ _ _ _ _ _ [xvr 0, xvi o, xvl r8, xvu, xvl most2, xvu, xvi best2, xvi q, xvi z41, u14_9, u14_10] _ _
                      exact ih_72 _ (show (13 - z41).toNat < m72 from by omega) most2 best2 z41 (u14_9) (u14_10) s2 rfl ⟨hI, hL, by omega, by omega, by omega⟩
              exact lp_72 _ most best 0 (u11_9) (u11_10) s1 rfl ⟨hI, hL, by omega, by omega, by omega⟩
          exact lp_58 _ (-1) (-1) 0 (xvu) (xvu) (xvu) σ8 rfl ⟨hI, hL, (by omega), by omega⟩
        · refine And.intro rfl ?_
          exact hQ _ _ hI 
      · replace p6 : (0 : Int) ≤ 0 := by
          rcases p6 with q | q
          · exact absurd q.1 (by omega)
          · exact q.2
        refine hX 400 29 _ _ ?_
        refine And.intro rfl ?_
        exact hQ _ _ hI 
