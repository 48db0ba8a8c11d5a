set_option maxHeartbeats 4000000 in
set_option maxRecDepth 100000 in
theorem s_dealsF {σ : xS} {n fr : Int} {Q : Option xV → xS → Prop} (hp0 : 0 ≤ σ 0 3 ∨ σ 0 3 < 0) (hp1 : 1 ≤ σ 2 0 ∧ σ 2 0 ≤ 13) (hp2 : 1 ≤ σ 2 1 ∧ σ 2 1 ≤ 6) (hp3 : 0 ≤ σ 2 3 ∧ σ 2 3 ≤ 9) (hp4 : 1 ≤ n ∧ n ≤ 9) (hp5 : n * σ 2 1 ≤ 4 * σ 2 0) (hQ : ∀ σ' : xS, Fr [2, 21] [49] σ σ' → (σ' 2 = dealF (σ 2) n fr) → Q none σ') : xT kX11_deals [xvr 0, xvi n, xvi fr] σ Q := by
  refine ⟨Nat.le_of_ble_eq_true rfl, fun X hX => ?_⟩
  show X 0 [xvr 0, xvi n, xvi fr, xvu, xvu, xvu, xvu] σ
  have hF : Fr [2, 21] [49] σ σ := Fr.rf
  refine hX 400 0 _ _ ?_
  have hSv := SHf_v (K := σ 2 0) (seed := fr) hp1.1
  refine And.intro (rfl) (And.intro (⟨by omega, by omega⟩) ?_)
  intro v1 e1 l1 h1
  have e1 : v1 = σ 2 0 := e1
  intro z2 t2 e2 l2 h2
  try have w2 : t2 = 0 := by omega
  refine And.intro (Nat.le_of_ble_eq_true rfl) ?_
  show xw _ _ _ _ _ _ _ _ _ _ [xvr 0, xvi n, xvi fr, xvi z2, xvu, xvu, xvu] _ _
  have hF := hF.p (j := 49) (v := fr) (by decide)
  refine And.intro (Nat.le_of_ble_eq_true rfl) ?_
  show xw _ _ _ _ _ _ _ _ _ _ [xvr 0, xvi n, xvi fr, xvi z2, xvi 0, xvu, xvu] _ _
  have lp_17 : ∀ (m17 : Nat) (i : Int) (s1 : xS), ((52 - i).toNat) = m17 → (Fr [2, 21] [49] σ s1 ∧ s1 2 = σ 2 ∧ s1 0 49 = fr ∧ (∀ q : Nat, (q : Int) < i → s1 21 q = pk0 q) ∧ (0 ≤ i ∧ i ≤ 4 * σ 2 0)) → X 17 [xvr 0, xvi n, xvi fr, xvi z2, xvi i, xvu, xvu] s1 := by
    intro m17
    induction m17 using Nat.strongRecOn with
    | _ m17 ih_17 =>
    intro i s1 hm_17 hv_17
    obtain ⟨hF, hs2, hsd, hP, hv_17⟩ := hv_17
    refine hX 400 17 _ _ ?_
    refine And.intro (fun c5 => ?_) (fun c5 => ?_)
    · intro z6 t6 e6 l6 h6
      try have w6 : t6 = 0 := by omega
      refine And.intro (Nat.le_of_ble_eq_true rfl) ?_
      show xw _ _ _ _ _ _ _ _ _ _ [xvr 0, xvi n, xvi fr, xvi z2, xvi z6, xvu, xvu] _ _
      have lp_45 : ∀ (m45 : Nat) (i2 : Int) (u7_5 : xV) (u7_6 : xV) (s2 : xS), ((i2 + 1).toNat) = m45 → (Fr [2, 21] [49] σ s2 ∧ s2 2 = σ 2 ∧ ∃ (h : Nat → Int) (x : Int), shu h x i2.toNat = (SHf (σ 2 0) fr) ∧ s2 0 49 = x ∧ AGn (s2 21) h (4 * σ 2 0) ∧ (0 ≤ i2 ∧ i2 < 4 * σ 2 0)) → X 45 [xvr 0, xvi n, xvi fr, xvi z2, xvi i2, u7_5, u7_6] s2 := by
        intro m45
        induction m45 using Nat.strongRecOn with
        | _ m45 ih_45 =>
        intro i2 u7_5 u7_6 s2 hm_45 hv_45
        obtain ⟨hF, hs2, h, x, hSH, hx, hA, hv_45⟩ := hv_45
        refine hX 400 45 _ _ ?_
        refine And.intro (fun c8 => ?_) (fun c8 => ?_)
        · refine And.intro (Nat.le_of_ble_eq_true rfl) ?_
          show xw _ _ _ _ _ _ _ _ _ _ [xvr 0, xvi n, xvi fr, xvi z2, xvi 0, u7_5, u7_6] _ _
          have lp_101 : ∀ (m101 : Nat) (i3 : Int) (s3 : xS), ((580 - i3).toNat) = m101 → (Fr [2, 21] [49] σ s3 ∧ AGn (s3 21) (SHf (σ 2 0) fr) (4 * σ 2 0) ∧ (∀ q : Nat, (q < 4 ∨ 584 ≤ q) → s3 2 q = σ 2 q) ∧ (∀ q : Nat, (q : Int) < i3 → s3 2 (4 + q) = 0) ∧ (0 ≤ i3 ∧ i3 ≤ 580)) → X 101 [xvr 0, xvi n, xvi fr, xvi z2, xvi i3, u7_5, u7_6] s3 := by
            intro m101
            induction m101 using Nat.strongRecOn with
            | _ m101 ih_101 =>
            intro i3 s3 hm_101 hv_101
            obtain ⟨hF, hpk, hL, hZ, hv_101⟩ := hv_101
            refine hX 400 101 _ _ ?_
            refine And.intro (fun c10 => ?_) (fun c10 => ?_)
            · refine And.intro (Nat.le_of_ble_eq_true rfl) ?_
              show xw _ _ _ _ _ _ _ _ _ _ [xvr 0, xvi n, xvi fr, xvi z2, xvi 0, u7_5, u7_6] _ _
              have lp_128 : ∀ (m128 : Nat) (i4 : Int) (s4 : xS), ((13 - i4).toNat) = m128 → (Fr [2, 21] [49] σ s4 ∧ AGn (s4 21) (SHf (σ 2 0) fr) (4 * σ 2 0) ∧ (∀ q : Nat, (q < 4 ∨ 584 ≤ q) → s4 2 q = σ 2 q) ∧ (∀ q : Nat, 4 ≤ q → q < 571 → s4 2 q = 0) ∧ (∀ q : Nat, q < 13 → s4 2 (571 + q) = if (q : Int) < i4 then 4 else 0) ∧ (0 ≤ i4 ∧ i4 ≤ σ 2 0)) → X 128 [xvr 0, xvi n, xvi fr, xvi z2, xvi i4, u7_5, u7_6] s4 := by
                intro m128
                induction m128 using Nat.strongRecOn with
                | _ m128 ih_128 =>
                intro i4 s4 hm_128 hv_128
                obtain ⟨hF, hpk, hL, hZ, hB, hv_128⟩ := hv_128
                have q0 : s4 2 0 = σ 2 0 := hL 0 (by omega)
                refine hX 400 128 _ _ ?_
                refine And.intro (rfl) (And.intro (⟨by omega, by omega⟩) ?_)
                intro v12 e12 l12 h12
                have e12 : v12 = s4 2 0 := e12
                refine And.intro (fun c13 => ?_) (fun c13 => ?_)
                · refine And.intro (Nat.le_of_ble_eq_true rfl) ?_
                  show xw _ _ _ _ _ _ _ _ _ _ [xvr 0, xvi n, xvi fr, xvi z2, xvi 0, u7_5, u7_6] _ _
                  have lp_160 : ∀ (m160 : Nat) (i5 : Int) (s5 : xS), ((52 - i5).toNat) = m160 → (Fr [2, 21] [49] σ s5 ∧ AGn (s5 21) (SHf (σ 2 0) fr) (4 * σ 2 0) ∧ s5 2 = (dlN (σ 2) (SHf (σ 2 0) fr) n i5.toNat) ∧ (0 ≤ i5 ∧ i5 ≤ 4 * σ 2 0)) → X 160 [xvr 0, xvi n, xvi fr, xvi z2, xvi i5, u7_5, u7_6] s5 := by
                    intro m160
                    induction m160 using Nat.strongRecOn with
                    | _ m160 ih_160 =>
                    intro i5 s5 hm_160 hv_160
                    obtain ⟨hF, hpk, hE, hv_160⟩ := hv_160
                    obtain ⟨dv1, dv2, dv3, dv4, dv5⟩ := dlN_v (f := σ 2) (S := (SHf (σ 2 0) fr)) (n := n) hp1 hp2 hp3 hp4 hSv.1 i5.toNat (by omega)
                    have q0 : s5 2 0 = σ 2 0 := by rw [hE]; exact dv2 0 (by omega)
                    have q1 : s5 2 1 = σ 2 1 := by rw [hE]; exact dv2 1 (by omega)
                    have q7 : s5 2 7 = (dlN (σ 2) (SHf (σ 2 0) fr) n i5.toNat) 7 := by rw [hE]
                    have hmp : 0 < n * σ 2 1 := Int.mul_pos (by omega) (by omega)
                    refine hX 400 160 _ _ ?_
                    refine And.intro (fun c15 => ?_) (fun c15 => ?_)
                    · have hEd : s5 2 = dlF (σ 2) n fr := by rw [hE, show i5.toNat = (4 * σ 2 0).toNat from by omega]; rfl
                      have hV := dlF_vs (f := σ 2) (n := n) (seed := fr) hp1 hp2 hp3 hp4
                      refine s_beginsF (σ := s5) (by rw [hEd]; exact hV.1) (fun σ16 f16 p16 => ?_)
                      have hF := hF.tr f16 (by decide) (by decide)
                      refine And.intro rfl (And.intro rfl ?_)
                      exact hQ _ hF (p16.trans (by rw [hEd]; rfl))
                    · refine And.intro (rfl) (And.intro (⟨by omega, by omega⟩) ?_)
                      intro v17 e17 l17 h17
                      have e17 : v17 = s5 2 1 := e17
                      have hy175 : n * v17 = n * σ 2 1 := by rw [show v17 = σ 2 1 from by omega]
                      intro z18 t18 e18 l18 h18
                      try have w18 : t18 = 0 := by omega
                      have hz176 : z18 = n * σ 2 1 := by omega
                      refine And.intro (fun c19 => ?_) (fun c19 => ?_)
                      · refine And.intro (rfl) (And.intro (⟨by omega, by omega⟩) ?_)
                        intro v20 e20 l20 h20
                        have e20 : v20 = s5 2 7 := e20
                        intro z21 t21 e21 l21 h21
                        try have w21 : t21 = 0 := by omega
                        refine And.intro (rfl) (And.intro (⟨by omega, by omega⟩) ?_)
                        intro v22 e22 l22 h22
                        have e22 : v22 = s5 21 i5.toNat := e22
                        have hx9 : v22 = (SHf (σ 2 0) fr) i5.toNat := by rw [e22, show i5.toNat = i5.toNat from by omega]; exact hpk i5.toNat (by omega)
                        have hc9 := hSv.1 i5.toNat (by omega)
                        refine And.intro (rfl) (And.intro (⟨by omega, by omega⟩) ?_)
                        have hF := hF.pt (t := 2) (j := z21.toNat) (v := v22) (by decide) (by decide)
                        refine And.intro (rfl) (And.intro (⟨by omega, by omega⟩) ?_)
                        intro v24 e24 l24 h24
                        have e24 : v24 = (xput s5 2 z21.toNat v22) 2 7 := e24
                        rw [xput_o (by omega)] at e24
                        intro z25 t25 e25 l25 h25
                        try have w25 : t25 = 0 := by omega
                        refine And.intro (rfl) (And.intro (⟨by omega, by omega⟩) ?_)
                        have hF := hF.pt (t := 2) (j := 7) (v := z25) (by decide) (by decide)
                        refine hX 400 232 _ _ ?_
                        intro z27 t27 e27 l27 h27
                        try have w27 : t27 = 0 := by omega
                        show xw _ _ _ _ _ _ _ _ _ _ [xvr 0, xvi n, xvi fr, xvi z2, xvi z27, u7_5, u7_6] _ _
                        exact ih_160 _ (show (52 - z27).toNat < m160 from by omega) z27 (xput (xput s5 2 z21.toNat v22) 2 7 z25) rfl ⟨hF, hpk, (by
                                      rw [show z27.toNat = i5.toNat + 1 from by omega, dlN_s, if_neg (by omega), ← hE]
                                      show xput (xput s5 2 z21.toNat v22) 2 7 z25 2 = _
                                      rw [xput_up, xput_up, show z21.toNat = 8 + (s5 2 7).toNat from by omega, show z25 = s5 2 7 + 1 from by omega, show v22 = (SHf (σ 2 0) fr) i5.toNat from by omega]), by omega⟩
                      · refine And.intro (by omega) ?_
                        intro z28 e28 f28 l28 h28
                        replace f28 := f28 (by omega) (by omega)
                        have g28 := Int.ediv_nonneg (a := i5) (b := n) (by omega) (by omega); rw [← f28] at g28
                        refine And.intro (rfl) (And.intro (⟨by omega, by omega⟩) ?_)
                        intro v29 e29 l29 h29
                        have e29 : v29 = s5 21 i5.toNat := e29
                        have hx9 : v29 = (SHf (σ 2 0) fr) i5.toNat := by rw [e29, show i5.toNat = i5.toNat from by omega]; exact hpk i5.toNat (by omega)
                        have hc9 := hSv.1 i5.toNat (by omega)
                        have hlt : i5 < n * σ 2 1 := by omega
                        have hdv := div_lt (i := i5) (n := n) (P := σ 2 1) (by omega) (by omega) hlt
                        have hpd : z28 = i5 / n := by omega
                        have hbb := dv1.b (n := (4 * σ 2 0).toNat) (by omega) (fun k hk => by rw [hSv.2 k hk]; split <;> omega) (p := z28.toNat) (k := v29.toNat) (by omega) (by omega)
                        have hbb : 0 ≤ (dlN (σ 2) (SHf (σ 2 0) fr) n i5.toNat) (60 + 13 * z28.toNat + v29.toNat) ∧ (dlN (σ 2) (SHf (σ 2 0) fr) n i5.toNat) (60 + 13 * z28.toNat + v29.toNat) ≤ 4 := hbb
                        refine s_handMF (σ := s5) (k := z28) (kind := v29) (more := 1) (by omega) (by omega) (by rw [hE]; omega) (fun r30 σ30 f30 p30 => ?_)
                        have hE2 : σ30 2 = dlN (σ 2) (SHf (σ 2 0) fr) n (i5.toNat + 1) := by
                          rw [p30.2, hE, dlN_s, if_pos (by omega), show ((i5.toNat : Nat) : Int) = i5 from by omega, hpd, hx9]
                        have k21b : σ30 21 = s5 21 := f30.1 21 (by decide) (by decide)
                        have hF := hF.tr f30 (by decide) (by decide)
                        refine hX 400 232 _ _ ?_
                        intro z31 t31 e31 l31 h31
                        try have w31 : t31 = 0 := by omega
                        show xw _ _ _ _ _ _ _ _ _ _ [xvr 0, xvi n, xvi fr, xvi z2, xvi z31, u7_5, u7_6] _ _
                        exact ih_160 _ (show (52 - z31).toNat < m160 from by omega) z31 σ30 rfl ⟨hF, (fun q hq => by rw [k21b]; exact hpk q hq), (by rw [show z31.toNat = i5.toNat + 1 from by omega]; exact hE2), by omega⟩
                  exact lp_160 _ 0 s4 rfl ⟨hF, hpk, (by
                        show s4 2 = dl0 (σ 2)
                        funext q
                        unfold dl0
                        by_cases c1 : q < 4
                        · rw [if_pos c1]; exact hL q (by omega)
                        · rw [if_neg c1]
                          by_cases c2 : q < 571
                          · rw [if_pos c2]; exact hZ q (by omega) c2
                          · rw [if_neg c2]
                            by_cases c3 : q < 584
                            · have z := hB (q - 571) (by omega)
                              rw [show 571 + (q - 571) = q from by omega] at z
                              rw [if_pos c3, z]
                              by_cases c4 : ((q - 571 : Nat) : Int) < i4
                              · rw [if_pos c4, if_pos (by omega)]
                              · rw [if_neg c4, if_neg (by omega)]
                            · rw [if_neg c3]; exact hL q (by omega)), by omega⟩
                · intro z32 t32 e32 l32 h32
                  try have w32 : t32 = 0 := by omega
                  refine And.intro (rfl) (And.intro (⟨by omega, by omega⟩) ?_)
                  have hF := hF.pt (t := 2) (j := z32.toNat) (v := 4) (by decide) (by decide)
                  intro z34 t34 e34 l34 h34
                  try have w34 : t34 = 0 := by omega
                  show xw _ _ _ _ _ _ _ _ _ _ [xvr 0, xvi n, xvi fr, xvi z2, xvi z34, u7_5, u7_6] _ _
                  exact ih_128 _ (show (13 - z34).toNat < m128 from by omega) z34 (xput s4 2 z32.toNat 4) rfl ⟨hF, hpk, (fun q hq => by rw [xput_o (by omega)]; exact hL q hq), (fun q h1 h2 => by rw [xput_o (by omega)]; exact hZ q h1 h2), (fun q hq => by
                            by_cases e : 571 + q = z32.toNat
                            · rw [e, xput_s, if_pos (by omega)]
                            · rw [xput_o e, hB q hq]
                              by_cases c : (q : Int) < i4
                              · rw [if_pos c, if_pos (by omega)]
                              · rw [if_neg c, if_neg (by omega)]), by omega⟩
              exact lp_128 _ 0 s3 rfl ⟨hF, hpk, hL, (fun q h1 h2 => by have z := hZ (q - 4) (by omega); rw [show 4 + (q - 4) = q from by omega] at z; exact z), (fun q hq => by have z := hZ (567 + q) (by omega); rw [show 4 + (567 + q) = 571 + q from by omega] at z; rw [z, if_neg (by omega)]), by omega⟩
            · intro z35 t35 e35 l35 h35
              try have w35 : t35 = 0 := by omega
              refine And.intro (rfl) (And.intro (⟨by omega, by omega⟩) ?_)
              have hF := hF.pt (t := 2) (j := z35.toNat) (v := 0) (by decide) (by decide)
              intro z37 t37 e37 l37 h37
              try have w37 : t37 = 0 := by omega
              show xw _ _ _ _ _ _ _ _ _ _ [xvr 0, xvi n, xvi fr, xvi z2, xvi z37, u7_5, u7_6] _ _
              exact ih_101 _ (show (580 - z37).toNat < m101 from by omega) z37 (xput s3 2 z35.toNat 0) rfl ⟨hF, hpk, (fun q hq => by rw [xput_o (by omega)]; exact hL q hq), (fun q hq => by
                        by_cases e : 4 + q = z35.toNat
                        · rw [e, xput_s]
                        · rw [xput_o e]; exact hZ q (by omega)), by omega⟩
          exact lp_101 _ 0 s2 rfl ⟨hF, (by rw [show i2.toNat = 0 from by omega] at hSH; rw [← hSH]; exact hA), (fun q _ => by rw [hs2]), (fun q hq => by omega), by omega⟩
        · intro z38 t38 e38 l38 h38
          try have w38 : t38 = 0 := by omega
          refine s_drawF (σ := s2) (n := z38) (by omega) (fun r39 σ39 f39 p39 => ?_)
          have hF := hF.tr f39 (by decide) (by decide)
          have k21 : σ39 21 = s2 21 := f39.1 21 (by decide) (by decide)
          have hs2 : σ39 2 = σ 2 := (f39.1 2 (by decide) (by decide)).trans hs2
          rw [hx] at p39
          have hj : r39 = us8 (nxs x) % ((i2.toNat - 1 : Nat) + 2 : Int) := by rw [p39.2, show z38 = ((i2.toNat - 1 : Nat) + 2 : Int) from by omega]
          have hj0 := Int.emod_nonneg (us8 (nxs x)) (show ((i2.toNat - 1 : Nat) + 2 : Int) ≠ 0 by omega)
          have hj1 := Int.emod_lt_of_pos (us8 (nxs x)) (show 0 < ((i2.toNat - 1 : Nat) + 2 : Int) by omega)
          rw [← hj] at hj0 hj1
          refine And.intro (Nat.le_of_ble_eq_true rfl) ?_
          show xw _ _ _ _ _ _ _ _ _ _ [xvr 0, xvi n, xvi fr, xvi z2, xvi i2, xvi r39, u7_6] _ _
          refine And.intro (rfl) (And.intro (⟨by omega, by omega⟩) ?_)
          intro v40 e40 l40 h40
          have e40 : v40 = σ39 21 i2.toNat := e40
          -- was
          refine And.intro (Nat.le_of_ble_eq_true rfl) ?_
          show xw _ _ _ _ _ _ _ _ _ _ [xvr 0, xvi n, xvi fr, xvi z2, xvi i2, xvi r39, xvi v40] _ _
          refine And.intro (rfl) (And.intro (⟨by omega, by omega⟩) ?_)
          intro v41 e41 l41 h41
          have e41 : v41 = σ39 21 r39.toNat := e41
          refine And.intro (rfl) (And.intro (⟨by omega, by omega⟩) ?_)
          have hF := hF.pt (t := 21) (j := i2.toNat) (v := v41) (by decide) (by decide)
          refine And.intro (rfl) (And.intro (⟨by omega, by omega⟩) ?_)
          have hF := hF.pt (t := 21) (j := r39.toNat) (v := v40) (by decide) (by decide)
          intro z44 t44 e44 l44 h44
          try have w44 : t44 = 0 := by omega
          show xw _ _ _ _ _ _ _ _ _ _ [xvr 0, xvi n, xvi fr, xvi z2, xvi z44, xvi r39, xvi v40] _ _
          exact ih_45 _ (show (z44 + 1).toNat < m45 from by omega) z44 (xvi r39) (xvi v40) (xput (xput σ39 21 i2.toNat v41) 21 r39.toNat v40) rfl (by
                      have hsw : AGn (xput (xput σ39 21 i2.toNat v41) 21 r39.toNat v40 21) (swp h i2.toNat r39.toNat) (4 * σ 2 0) := fun q hq => by
                        have y := AGn.swq (i := i2.toNat) (j := r39.toNat) hA (by omega) (by omega) q hq
                        rw [← y]
                        show xput (xput σ39 21 i2.toNat v41) 21 r39.toNat v40 21 q = up (up (s2 21) i2.toNat (s2 21 r39.toNat)) r39.toNat (s2 21 i2.toNat) q
                        rw [xput_up, xput_up, k21, show v41 = s2 21 r39.toNat from by rw [e41, k21], show v40 = s2 21 i2.toNat from by rw [e40, k21]]
                      refine ⟨hF, hs2, swp h i2.toNat r39.toNat, nxs x, ?_, p39.1, hsw, by omega⟩
                      rw [← hSH, show i2.toNat = (i2.toNat - 1) + 1 from by omega, shu_s, ← hj, show z44.toNat = i2.toNat - 1 from by omega, show i2.toNat - 1 + 1 = i2.toNat from by omega])
      exact lp_45 _ z6 (xvu) (xvu) s1 rfl ⟨hF, hs2, pk0, fr, (by rw [show z6.toNat = (4 * σ 2 0 - 1).toNat from by omega]; rfl), hsd, (fun q hq => hP q (by omega)), by omega⟩
    · refine And.intro (by omega) ?_
      intro z45 e45 f45 l45 h45
      replace f45 := f45 (by omega) (by omega)
      refine And.intro (rfl) (And.intro (⟨by omega, by omega⟩) ?_)
      have hF := hF.pt (t := 21) (j := i.toNat) (v := z45) (by decide) (by decide)
      intro z47 t47 e47 l47 h47
      try have w47 : t47 = 0 := by omega
      show xw _ _ _ _ _ _ _ _ _ _ [xvr 0, xvi n, xvi fr, xvi z2, xvi z47, xvu, xvu] _ _
      exact ih_17 _ (show (52 - z47).toNat < m17 from by omega) z47 (xput s1 21 i.toNat z45) rfl ⟨hF, hs2, hsd, (fun q hq => by
                by_cases e : q = i.toNat
                · rw [show q = i.toNat from by omega, xput_s]; show _ = ((_ / 4 : Nat) : Int); omega
                · rw [xput_o (by omega)]; exact hP q (by omega)), by omega⟩
  exact lp_17 _ 0 (xput σ 0 49 fr) rfl ⟨hF, rfl, rfl, (fun q hq => by omega), by omega⟩

