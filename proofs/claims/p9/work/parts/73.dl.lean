set_option maxHeartbeats 4000000 in
set_option maxRecDepth 100000 in
theorem s_deals {σ : xS} {n fr : Int} {Q : Option xV → xS → Prop} (hp0 : RI σ) (hp1 : 1 ≤ n ∧ n ≤ 9) (hp2 : 1 ≤ σ 2 1 ∧ 1 ≤ σ 2 0) (hp3 : n * σ 2 1 ≤ 4 * σ 2 0) (hQ : ∀ σ' : xS, Fr [2, 21] [49] σ σ' → (VG (σ' 2) ∧ LPx (σ 2) (σ' 2)) → Q none σ') : xT kX11_deals [xvr 0, xvi n, xvi fr] σ Q := by
  refine ⟨Nat.le_of_ble_eq_true rfl, fun X hX => ?_⟩
  show X 0 [xvr 0, xvi n, xvi fr, xvu, xvu, xvu, xvu] σ
  have hF : Fr [2, 21] [49] σ σ := Fr.rf
  refine hX 400 0 _ _ ?_
  have hb0 := hp0.kinds; have hb1 := hp0.persons
  refine And.intro (rfl) (And.intro (⟨by omega, by omega⟩) ?_)
  intro v1 e1 l1 h1
  have e1 : v1 = σ 2 0 := e1
  intro z2 t2 e2 l2 h2
  try have w2 : t2 = 0 := by omega
  refine And.intro (Nat.le_of_ble_eq_true rfl) ?_
  show xw _ _ _ _ _ _ _ _ _ _ [xvr 0, xvi n, xvi fr, xvi z2, xvu, xvu, xvu] _ _
  have hF := hF.p (j := 49) (v := fr) (by decide)
  refine And.intro (Nat.le_of_ble_eq_true rfl) ?_
  show xw _ _ _ _ _ _ _ _ _ _ [xvr 0, xvi n, xvi fr, xvi z2, xvi 0, xvu, xvu] _ _
  have lp_17 : ∀ (m17 : Nat) (i : Int) (s1 : xS), ((52 - i).toNat) = m17 → (Fr [2, 21] [49] σ s1 ∧ s1 2 = σ 2 ∧ (∀ q : Nat, (q : Int) < i → s1 21 q = ((q / 4 : Nat) : Int)) ∧ (0 ≤ i ∧ i ≤ 4 * σ 2 0)) → X 17 [xvr 0, xvi n, xvi fr, xvi z2, xvi i, xvu, xvu] s1 := by
    intro m17
    induction m17 using Nat.strongRecOn with
    | _ m17 ih_17 =>
    intro i s1 hm_17 hv_17
    obtain ⟨hF, hs2, hP, hv_17⟩ := hv_17
    refine hX 400 17 _ _ ?_
    refine And.intro (fun c5 => ?_) (fun c5 => ?_)
    · intro z6 t6 e6 l6 h6
      try have w6 : t6 = 0 := by omega
      refine And.intro (Nat.le_of_ble_eq_true rfl) ?_
      show xw _ _ _ _ _ _ _ _ _ _ [xvr 0, xvi n, xvi fr, xvi z2, xvi z6, xvu, xvu] _ _
      have lp_45 : ∀ (m45 : Nat) (i2 : Int) (u7_5 : xV) (u7_6 : xV) (s2 : xS), ((i2 + 1).toNat) = m45 → (Fr [2, 21] [49] σ s2 ∧ s2 2 = σ 2 ∧ (∀ q : Nat, (q : Int) < 4 * σ 2 0 → 0 ≤ s2 21 q ∧ s2 21 q < σ 2 0) ∧ (∀ k : Nat, k < 13 → pcx (s2 21) (4 * σ 2 0).toNat k = if (k : Int) < σ 2 0 then 4 else 0) ∧ (-1 ≤ i2 ∧ i2 < 4 * σ 2 0)) → X 45 [xvr 0, xvi n, xvi fr, xvi z2, xvi i2, u7_5, u7_6] s2 := by
        intro m45
        induction m45 using Nat.strongRecOn with
        | _ m45 ih_45 =>
        intro i2 u7_5 u7_6 s2 hm_45 hv_45
        obtain ⟨hF, hs2, hR, hC, hv_45⟩ := hv_45
        refine hX 400 45 _ _ ?_
        refine And.intro (fun c8 => ?_) (fun c8 => ?_)
        · refine And.intro (Nat.le_of_ble_eq_true rfl) ?_
          show xw _ _ _ _ _ _ _ _ _ _ [xvr 0, xvi n, xvi fr, xvi z2, xvi 0, u7_5, u7_6] _ _
          have lp_101 : ∀ (m101 : Nat) (i3 : Int) (s3 : xS), ((580 - i3).toNat) = m101 → (Fr [2, 21] [49] σ s3 ∧ s3 21 = s2 21 ∧ (∀ q : Nat, (q < 4 ∨ 584 ≤ q) → q ≠ 2 → s3 2 q = σ 2 q) ∧ (∀ q : Nat, (q : Int) < i3 → s3 2 (4 + q) = 0) ∧ (0 ≤ i3 ∧ i3 ≤ 580)) → X 101 [xvr 0, xvi n, xvi fr, xvi z2, xvi i3, u7_5, u7_6] s3 := by
            intro m101
            induction m101 using Nat.strongRecOn with
            | _ m101 ih_101 =>
            intro i3 s3 hm_101 hv_101
            obtain ⟨hF, hpk21, hL, hZ, hv_101⟩ := hv_101
            refine hX 400 101 _ _ ?_
            refine And.intro (fun c10 => ?_) (fun c10 => ?_)
            · refine And.intro (Nat.le_of_ble_eq_true rfl) ?_
              show xw _ _ _ _ _ _ _ _ _ _ [xvr 0, xvi n, xvi fr, xvi z2, xvi 0, u7_5, u7_6] _ _
              have lp_128 : ∀ (m128 : Nat) (i4 : Int) (s4 : xS), ((13 - i4).toNat) = m128 → (Fr [2, 21] [49] σ s4 ∧ s4 21 = s2 21 ∧ (∀ q : Nat, (q < 4 ∨ 584 ≤ q) → q ≠ 2 → s4 2 q = σ 2 q) ∧ (∀ q : Nat, 4 ≤ q → q < 571 → s4 2 q = 0) ∧ (∀ q : Nat, q < 13 → s4 2 (571 + q) = if (q : Int) < i4 then 4 else 0) ∧ (0 ≤ i4 ∧ i4 ≤ σ 2 0)) → X 128 [xvr 0, xvi n, xvi fr, xvi z2, xvi i4, u7_5, u7_6] s4 := by
                intro m128
                induction m128 using Nat.strongRecOn with
                | _ m128 ih_128 =>
                intro i4 s4 hm_128 hv_128
                obtain ⟨hF, hpk21, hL, hZ, hB, hv_128⟩ := hv_128
                have q0 : s4 2 0 = σ 2 0 := hL 0 (by omega) (by omega)
                refine hX 400 128 _ _ ?_
                refine And.intro (rfl) (And.intro (⟨by omega, by omega⟩) ?_)
                intro v12 e12 l12 h12
                have e12 : v12 = s4 2 0 := e12
                refine And.intro (fun c13 => ?_) (fun c13 => ?_)
                · refine And.intro (Nat.le_of_ble_eq_true rfl) ?_
                  show xw _ _ _ _ _ _ _ _ _ _ [xvr 0, xvi n, xvi fr, xvi z2, xvi 0, u7_5, u7_6] _ _
                  have lp_160 : ∀ (m160 : Nat) (i5 : Int) (s5 : xS), ((52 - i5).toNat) = m160 → (Fr [2, 21] [49] σ s5 ∧ s5 21 = s2 21 ∧ (∀ q : Nat, (q < 4 ∨ 584 ≤ q) → q ≠ 2 → s5 2 q = σ 2 q) ∧ DL (s5 2) (s2 21) i5.toNat ∧ (0 ≤ i5 ∧ i5 ≤ 4 * σ 2 0 ∧ 0 ≤ s5 2 7 ∧ s5 2 7 ≤ i5)) → X 160 [xvr 0, xvi n, xvi fr, xvi z2, xvi i5, u7_5, u7_6] s5 := by
                    intro m160
                    induction m160 using Nat.strongRecOn with
                    | _ m160 ih_160 =>
                    intro i5 s5 hm_160 hv_160
                    obtain ⟨hF, hpk21, hL, hD, hv_160⟩ := hv_160
                    have q0 : s5 2 0 = σ 2 0 := hL 0 (by omega) (by omega)
                    have q1 : s5 2 1 = σ 2 1 := hL 1 (by omega) (by omega)
                    have hd7 := hD.1.2.2.2
                    refine hX 400 160 _ _ ?_
                    refine And.intro (fun c15 => ?_) (fun c15 => ?_)
                    · have hV := hD.vs (fun k hk => by rw [show i5.toNat = (4 * σ 2 0).toNat from by omega, q0]; exact hC k hk)
                      refine s_begins (σ := s5) hV.1 hV.2 (fun σ16 f16 p16 => ?_)
                      have hF := hF.tr f16 (by decide) (by decide)
                      refine And.intro rfl (And.intro rfl ?_)
                      exact hQ _ hF ⟨p16.1, LPx.tr (g := s5 2) (fun q h1 h2 => hL q h1 h2) p16.2.p⟩
                    · refine And.intro (rfl) (And.intro (⟨by omega, by omega⟩) ?_)
                      intro v17 e17 l17 h17
                      have e17 : v17 = s5 2 1 := e17
                      have hmv : n * v17 = n * σ 2 1 := by rw [show v17 = σ 2 1 from by omega]
                      have hmu : n * σ 2 1 ≤ 54 := by have z := hp3; omega
                      have hmu0 : 0 ≤ n * σ 2 1 := Int.mul_nonneg (by omega) (by omega)
                      intro z18 t18 e18 l18 h18
                      try have w18 : t18 = 0 := by omega
                      refine And.intro (fun c19 => ?_) (fun c19 => ?_)
                      · refine And.intro (rfl) (And.intro (⟨by omega, by omega⟩) ?_)
                        intro v20 e20 l20 h20
                        have e20 : v20 = s5 2 7 := e20
                        intro z21 t21 e21 l21 h21
                        try have w21 : t21 = 0 := by omega
                        refine And.intro (rfl) (And.intro (⟨by omega, by omega⟩) ?_)
                        intro v22 e22 l22 h22
                        have e22 : v22 = s5 21 i5.toNat := e22
                        have hx9 : v22 = s2 21 i5.toNat := by rw [e22, hpk21, show i5.toNat = i5.toNat from by omega]
                        have hc9 := hR i5.toNat (by omega)
                        rw [← hx9] at hc9
                        refine And.intro (rfl) (And.intro (⟨by omega, by omega⟩) ?_)
                        have hF := hF.pt (t := 2) (j := z21.toNat) (v := v22) (by decide) (by decide)
                        refine And.intro (rfl) (And.intro (⟨by omega, by omega⟩) ?_)
                        intro v24 e24 l24 h24
                        have e24 : v24 = (xput s5 2 z21.toNat v22) 2 7 := e24
                        rw [xput_o (by omega)] at e24
                        intro z25 t25 e25 l25 h25
                        try have w25 : t25 = 0 := by omega
                        refine And.intro (rfl) (And.intro (⟨by omega, by omega⟩) ?_)
                        have hF := hF.pt (t := 2) (j := 7) (v := z25) (by decide) (by decide)
                        refine hX 400 232 _ _ ?_
                        intro z27 t27 e27 l27 h27
                        try have w27 : t27 = 0 := by omega
                        show xw _ _ _ _ _ _ _ _ _ _ [xvr 0, xvi n, xvi fr, xvi z2, xvi z27, u7_5, u7_6] _ _
                        exact ih_160 _ (show (52 - z27).toNat < m160 from by omega) z27 (xput (xput s5 2 z21.toNat v22) 2 7 z25) rfl (by
                                    have e7 : xput (xput s5 2 z21.toNat v22) 2 7 z25 2 7 = s5 2 7 + 1 := by rw [xput_s]; omega
                                    refine ⟨hF, hpk21, (fun q hq h2 => by rw [xput_o (by omega), xput_o (by omega)]; exact hL q hq h2), ?_, ?_⟩
                                    · rw [show z27.toNat = i5.toNat + 1 from by omega]
                                      exact hD.heap (c := v22) (by omega) (by omega) hx9.symm e7 (by rw [xput_o (by omega), show 8 + (s5 2 7).toNat = z21.toNat from by omega, xput_s]) (fun q h1 h2 => by rw [xput_o h1, xput_o (by omega)])
                                    · rw [e7]; omega)
                      · refine And.intro (by omega) ?_
                        intro z28 e28 f28 l28 h28
                        replace f28 := f28 (by omega) (by omega)
                        have g28 := Int.ediv_nonneg (a := i5) (b := n) (by omega) (by omega); rw [← f28] at g28
                        refine And.intro (rfl) (And.intro (⟨by omega, by omega⟩) ?_)
                        intro v29 e29 l29 h29
                        have e29 : v29 = s5 21 i5.toNat := e29
                        have hx30 : v29 = s2 21 i5.toNat := by rw [e29, hpk21, show i5.toNat = i5.toNat from by omega]
                        have hc30 := hR i5.toNat (by omega)
                        rw [← hx30] at hc30
                        have hdv := div_lt (i := i5) (n := n) (P := σ 2 1) (by omega) (by omega) (by omega)
                        have hbb := hD.b (n := (4 * σ 2 0).toNat) (by omega) (fun k hk => by rw [hC k hk]; split <;> omega) (p := z28.toNat) (k := v29.toNat) (by omega) (by omega)
                        have i1 := hdI (s5 2) (k := z28) (kind := v29) (by omega) (by omega)
                        refine s_handM (σ := s5) (k := z28) (kind := v29) (more := 1) (by omega) (by omega) (by omega) (fun r30 σ30 f30 p30 => ?_)
                        have hF := hF.tr f30 (by decide) (by decide)
                        have hD2 := hD.hand (p := z28) (c := v29) (by omega) (by omega) hx30.symm p30.2
                        have k21_30 : σ30 21 = s2 21 := (f30.1 21 (by decide) (by decide)).trans hpk21
                        have k7_30 : σ30 2 7 = s5 2 7 := by rw [p30.2 7 (nir (by omega) (by omega) (by omega)), up_n (by omega)]
                        refine hX 400 232 _ _ ?_
                        intro z31 t31 e31 l31 h31
                        try have w31 : t31 = 0 := by omega
                        show xw _ _ _ _ _ _ _ _ _ _ [xvr 0, xvi n, xvi fr, xvi z2, xvi z31, u7_5, u7_6] _ _
                        exact ih_160 _ (show (52 - z31).toNat < m160 from by omega) z31 σ30 rfl ⟨hF, k21_30, (fun q hq h2 => by rw [p30.2 q (nir h2 (by omega) (by omega)), up_n (by omega)]; exact hL q hq h2), (by rw [show z31.toNat = i5.toNat + 1 from by omega]; exact hD2), by omega⟩
                  exact lp_160 _ 0 s4 rfl ⟨hF, hpk21, hL, DL.new (by rw [hL 0 (by omega) (by omega)]; omega) (by rw [hL 1 (by omega) (by omega)]; omega) (by rw [hL 3 (by omega) (by omega)]; exact hp0.refill) hZ (fun k hk => by rw [hB k hk, hL 0 (by omega) (by omega)]; rw [show i4 = σ 2 0 from by omega]), (by have z := hZ 7 (by omega) (by omega); omega)⟩
                · intro z32 t32 e32 l32 h32
                  try have w32 : t32 = 0 := by omega
                  refine And.intro (rfl) (And.intro (⟨by omega, by omega⟩) ?_)
                  have hF := hF.pt (t := 2) (j := z32.toNat) (v := 4) (by decide) (by decide)
                  intro z34 t34 e34 l34 h34
                  try have w34 : t34 = 0 := by omega
                  show xw _ _ _ _ _ _ _ _ _ _ [xvr 0, xvi n, xvi fr, xvi z2, xvi z34, u7_5, u7_6] _ _
                  exact ih_128 _ (show (13 - z34).toNat < m128 from by omega) z34 (xput s4 2 z32.toNat 4) rfl ⟨hF, hpk21, (fun q hq h2 => by rw [xput_o (by omega)]; exact hL q hq h2), (fun q h1 h2 => by rw [xput_o (by omega)]; exact hZ q h1 h2), (fun q hq => by
                            by_cases e : 571 + q = z32.toNat
                            · rw [e, xput_s, if_pos (by omega)]
                            · rw [xput_o e, hB q hq]
                              by_cases c : (q : Int) < i4
                              · rw [if_pos c, if_pos (by omega)]
                              · rw [if_neg c, if_neg (by omega)]), by omega⟩
              exact lp_128 _ 0 s3 rfl ⟨hF, hpk21, hL, (fun q h1 h2 => by have z := hZ (q - 4) (by omega); rw [show 4 + (q - 4) = q from by omega] at z; exact z), (fun q hq => by have z := hZ (567 + q) (by omega); rw [show 4 + (567 + q) = 571 + q from by omega] at z; rw [z, if_neg (by omega)]), by omega⟩
            · intro z35 t35 e35 l35 h35
              try have w35 : t35 = 0 := by omega
              refine And.intro (rfl) (And.intro (⟨by omega, by omega⟩) ?_)
              have hF := hF.pt (t := 2) (j := z35.toNat) (v := 0) (by decide) (by decide)
              intro z37 t37 e37 l37 h37
              try have w37 : t37 = 0 := by omega
              show xw _ _ _ _ _ _ _ _ _ _ [xvr 0, xvi n, xvi fr, xvi z2, xvi z37, u7_5, u7_6] _ _
              exact ih_101 _ (show (580 - z37).toNat < m101 from by omega) z37 (xput s3 2 z35.toNat 0) rfl ⟨hF, hpk21, (fun q hq h2 => by rw [xput_o (by omega)]; exact hL q hq h2), (fun q hq => by
                        by_cases e : 4 + q = z35.toNat
                        · rw [e, xput_s]
                        · rw [xput_o e]; exact hZ q (by omega)), by omega⟩
          exact lp_101 _ 0 s2 rfl ⟨hF, rfl, (fun q _ _ => by rw [hs2]), (fun q hq => by omega), by omega⟩
        · intro z38 t38 e38 l38 h38
          try have w38 : t38 = 0 := by omega
          refine s_draw (σ := s2) (n := z38) (by omega) (fun r39 σ39 f39 p39 => ?_)
          have hF := hF.tr f39 (by decide) (by decide)
          have k21 : σ39 21 = s2 21 := f39.1 21 (by decide) (by decide)
          have hs2 : σ39 2 = σ 2 := (f39.1 2 (by decide) (by decide)).trans hs2
          refine And.intro (Nat.le_of_ble_eq_true rfl) ?_
          show xw _ _ _ _ _ _ _ _ _ _ [xvr 0, xvi n, xvi fr, xvi z2, xvi i2, xvi r39, u7_6] _ _
          refine And.intro (rfl) (And.intro (⟨by omega, by omega⟩) ?_)
          intro v40 e40 l40 h40
          have e40 : v40 = σ39 21 i2.toNat := e40
          have wv40 : v40 = s2 21 i2.toNat := by rw [e40, k21]
          refine And.intro (Nat.le_of_ble_eq_true rfl) ?_
          show xw _ _ _ _ _ _ _ _ _ _ [xvr 0, xvi n, xvi fr, xvi z2, xvi i2, xvi r39, xvi v40] _ _
          refine And.intro (rfl) (And.intro (⟨by omega, by omega⟩) ?_)
          intro v41 e41 l41 h41
          have e41 : v41 = σ39 21 r39.toNat := e41
          have wv41 : v41 = s2 21 r39.toNat := by rw [e41, k21]
          refine And.intro (rfl) (And.intro (⟨by omega, by omega⟩) ?_)
          have hF := hF.pt (t := 21) (j := i2.toNat) (v := v41) (by decide) (by decide)
          refine And.intro (rfl) (And.intro (⟨by omega, by omega⟩) ?_)
          have hF := hF.pt (t := 21) (j := r39.toNat) (v := v40) (by decide) (by decide)
          intro z44 t44 e44 l44 h44
          try have w44 : t44 = 0 := by omega
          show xw _ _ _ _ _ _ _ _ _ _ [xvr 0, xvi n, xvi fr, xvi z2, xvi z44, xvi r39, xvi v40] _ _
          exact ih_45 _ (show (z44 + 1).toNat < m45 from by omega) z44 (xvi r39) (xvi v40) (xput (xput σ39 21 i2.toNat v41) 21 r39.toNat v40) rfl (by
                      have eS : ∀ q, q ≠ i2.toNat → q ≠ r39.toNat → (xput (xput σ39 21 i2.toNat v41) 21 r39.toNat v40) 21 q = s2 21 q := fun q h1 h2 => by rw [xput_o h2, xput_o h1, k21]
                      have eJ : (xput (xput σ39 21 i2.toNat v41) 21 r39.toNat v40) 21 r39.toNat = s2 21 i2.toNat := by rw [xput_s]; exact wv40
                      have eI : i2.toNat ≠ r39.toNat → (xput (xput σ39 21 i2.toNat v41) 21 r39.toNat v40) 21 i2.toNat = s2 21 r39.toNat := fun h => by rw [xput_o h, xput_s]; exact wv41
                      refine ⟨hF, hs2, (fun q hq => ?_), (fun k hk => ?_), by omega⟩
                      · by_cases c : q = r39.toNat
                        · rw [c, eJ]; exact hR i2.toNat (by omega)
                        · by_cases d : q = i2.toNat
                          · rw [d, eI (by omega)]; exact hR _ (by omega)
                          · rw [eS q d c]; exact hR q hq
                      · rw [pcx_swap (pk := s2 21) (i := i2.toNat) (j := r39.toNat) (by omega) (by omega) eJ eI (fun q h1 h2 => eS q h1 h2)]
                        exact hC k hk)
      exact lp_45 _ z6 (xvu) (xvu) s1 rfl ⟨hF, hs2, (fun q hq => by have z := hP q (by omega); omega), (fun k hk => by
            have z := pcx_new (pk := s1 21) (K := (σ 2 0).toNat) (fun q hq => by have y := hP q (by omega); omega) k
            rw [show (4 * σ 2 0).toNat = 4 * (σ 2 0).toNat from by omega, z]
            by_cases c : k < (σ 2 0).toNat
            · rw [if_pos c, if_pos (by omega)]
            · rw [if_neg c, if_neg (by omega)]), by omega⟩
    · refine And.intro (by omega) ?_
      intro z45 e45 f45 l45 h45
      replace f45 := f45 (by omega) (by omega)
      refine And.intro (rfl) (And.intro (⟨by omega, by omega⟩) ?_)
      have hF := hF.pt (t := 21) (j := i.toNat) (v := z45) (by decide) (by decide)
      intro z47 t47 e47 l47 h47
      try have w47 : t47 = 0 := by omega
      show xw _ _ _ _ _ _ _ _ _ _ [xvr 0, xvi n, xvi fr, xvi z2, xvi z47, xvu, xvu] _ _
      exact ih_17 _ (show (52 - z47).toNat < m17 from by omega) z47 (xput s1 21 i.toNat z45) rfl ⟨hF, hs2, (fun q hq => by
                by_cases e : q = i.toNat
                · rw [show q = i.toNat from by omega, xput_s]; omega
                · rw [xput_o (by omega)]; exact hP q (by omega)), by omega⟩
  exact lp_17 _ 0 (xput σ 0 49 fr) rfl ⟨hF, rfl, (fun q hq => by omega), by omega⟩
set_option maxHeartbeats 4000000 in
set_option maxRecDepth 100000 in
theorem s_deal {σ : xS} {n fr : Int} {Q : Option xV → xS → Prop} (hI : RI σ) (hQ : ∀ r : Int, ∀ σ' : xS, RK σ σ' → Q (some (xvi r)) σ') : xT kX11_deal [xvr 0, xvi n, xvi fr] σ Q := by
  refine ⟨Nat.le_of_ble_eq_true rfl, fun X hX => ?_⟩
  show X 0 [xvr 0, xvi n, xvi fr] σ
  have hI : RK σ σ := RK.rf hI
  have hb0 := hI.1.kinds; have hb1 := hI.1.persons
  refine hX 400 0 _ _ ?_
  have hI := hI.p0 (j := 0) (v := 0) (by decide) (by decide) (by decide)
  have lp_52 : ∀ (_ : Unit), (True) → X 52 [xvr 0, xvi n, xvi fr] (xput σ 0 0 0) := by
    intro _ hv_52
    refine hX 400 52 _ _ ?_
    refine And.intro rfl ?_
    refine And.intro (by omega) ?_
    exact hQ _ _ hI 
  refine s_isIn (σ := (xput σ 0 0 0)) (v := n) (low := 1) (high := 9)  (fun r3 p3 => ?_)
  have p3 : (r3 = 1 ∧ 1 ≤ n ∧ n ≤ 9) ∨ (r3 = 0 ∧ (n < 1 ∨ 9 < n)) := p3
  refine And.intro (fun c4 => ?_) (fun c4 => ?_)
  · replace p3 : (n < 1 ∨ 9 < n) := by
      rcases p3 with q | q
      · exact absurd q.1 (by omega)
      · exact q.2
    exact lp_52 () (show True from by first | trivial | omega | (refine ⟨by assumption, ?_⟩; omega) | (refine ⟨?_, ?_⟩ <;> omega))
  · replace p3 : 1 ≤ n ∧ n ≤ 9 := by
      rcases p3 with q | q
      · exact q.2
      · exact absurd q.1 (by omega)
    refine And.intro (rfl) (And.intro (⟨by omega, by omega⟩) ?_)
    intro v5 e5 l5 h5
    have e5 : v5 = σ 2 1 := e5
    have rv5 : 0 ≤ (σ 2 1) ∧ (σ 2 1) ≤ 6 := hI.1.persons
    refine And.intro (fun c6 => ?_) (fun c6 => ?_)
    · exact lp_52 () (show True from by first | trivial | omega | (refine ⟨by assumption, ?_⟩; omega) | (refine ⟨?_, ?_⟩ <;> omega))
    · refine And.intro (rfl) (And.intro (⟨by omega, by omega⟩) ?_)
      intro v7 e7 l7 h7
      have e7 : v7 = σ 2 0 := e7
      have rv7 : 0 ≤ (σ 2 0) ∧ (σ 2 0) ≤ 13 := hI.1.kinds
      refine And.intro (fun c8 => ?_) (fun c8 => ?_)
      · exact lp_52 () (show True from by first | trivial | omega | (refine ⟨by assumption, ?_⟩; omega) | (refine ⟨?_, ?_⟩ <;> omega))
      · refine And.intro (rfl) (And.intro (⟨by omega, by omega⟩) ?_)
        intro v9 e9 l9 h9
        have e9 : v9 = σ 2 1 := e9
        have rv9 : 0 ≤ (σ 2 1) ∧ (σ 2 1) ≤ 6 := hI.1.persons
        have hmu0 : 0 ≤ n * v9 ∧ n * v9 ≤ 9 * v9 := ⟨Int.mul_nonneg (by omega) (by omega), Int.mul_le_mul_of_nonneg_right (by omega) (by omega)⟩
        have hmv : n * v9 = n * σ 2 1 := by rw [show v9 = σ 2 1 from by omega]
        intro z10 t10 e10 l10 h10
        try have w10 : t10 = 0 := by omega
        refine And.intro (rfl) (And.intro (⟨by omega, by omega⟩) ?_)
        intro v11 e11 l11 h11
        have e11 : v11 = σ 2 0 := e11
        have rv11 : 0 ≤ (σ 2 0) ∧ (σ 2 0) ≤ 13 := hI.1.kinds
        intro z12 t12 e12 l12 h12
        try have w12 : t12 = 0 := by omega
        refine And.intro (fun c13 => ?_) (fun c13 => ?_)
        · refine s_keep (σ := (xput σ 0 0 0)) hI.1 (fun σ14 f14 p14 => ?_)
          have hI := hI.keep f14 p14
          have k2_14 : σ14 2 = σ 2 := f14.1 2 (by decide) (by decide)
          have k20_14 := congrFun k2_14 0; have k21_14 := congrFun k2_14 1
          refine s_deals (σ := σ14) (n := n) (fr := fr) hI.1 (by omega) (by omega) (by rw [k21_14, k20_14]; omega) (fun σ15 f15 p15 => ?_)
          have hI := hI.g f15 p15.1 p15.2 (by decide) (by decide) (by decide) (by decide) (by decide) (by decide)
          have l0_15 := p15.2 0 (by omega) (by omega); have l1_15 := p15.2 1 (by omega) (by omega)
          refine And.intro rfl ?_
          refine And.intro (by omega) ?_
          exact hQ _ _ hI 
        · exact lp_52 () (show True from by first | trivial | omega | (refine ⟨by assumption, ?_⟩; omega) | (refine ⟨?_, ?_⟩ <;> omega))
set_option maxHeartbeats 4000000 in
set_option maxRecDepth 100000 in
theorem s_areGames {σ : xS} {i j n : Int} {Q : Option xV → xS → Prop} (hI : RI σ) (hQ : ∀ r : Int, ((r = 1 ∧ (1 ≤ n ∧ n ≤ 30) ∧ 2 ≤ σ 2 1 ∧ 5 * σ 2 1 ≤ 4 * σ 2 0) ∨ r = 0) → Q (some (xvi r)) σ) : xT kX11_areGames [xvr 0, xvi i, xvi j, xvi n] σ Q := by
  refine ⟨Nat.le_of_ble_eq_true rfl, fun X hX => ?_⟩
  show X 0 [xvr 0, xvi i, xvi j, xvi n] σ
  have hI : RK σ σ := RK.rf hI
  have hb0 := hI.1.kinds; have hb1 := hI.1.persons
  refine hX 400 0 _ _ ?_
  have lp_61 : ∀ (_ : Unit), (True) → X 61 [xvr 0, xvi i, xvi j, xvi n] σ := by
    intro _ hv_61
    refine hX 400 61 _ _ ?_
    refine And.intro rfl ?_
    refine And.intro (by omega) ?_
    exact hQ _ (show (0 = 1 ∧ (1 ≤ n ∧ n ≤ 30) ∧ 2 ≤ σ 2 1 ∧ 5 * σ 2 1 ≤ 4 * σ 2 0) ∨ 0 = 0 from by first | trivial | omega)
  refine s_isIn (σ := σ) (v := i) (low := 0) (high := 3)  (fun r2 p2 => ?_)
  have p2 : (r2 = 1 ∧ 0 ≤ i ∧ i ≤ 3) ∨ (r2 = 0 ∧ (i < 0 ∨ 3 < i)) := p2
  refine And.intro (fun c3 => ?_) (fun c3 => ?_)
  · replace p2 : (i < 0 ∨ 3 < i) := by
      rcases p2 with q | q
      · exact absurd q.1 (by omega)
      · exact q.2
    exact lp_61 () (show True from by first | trivial | omega | (refine ⟨by assumption, ?_⟩; omega) | (refine ⟨?_, ?_⟩ <;> omega))
  · replace p2 : 0 ≤ i ∧ i ≤ 3 := by
      rcases p2 with q | q
      · exact q.2
      · exact absurd q.1 (by omega)
    refine s_isIn (σ := σ) (v := j) (low := 0) (high := 3)  (fun r4 p4 => ?_)
    have p4 : (r4 = 1 ∧ 0 ≤ j ∧ j ≤ 3) ∨ (r4 = 0 ∧ (j < 0 ∨ 3 < j)) := p4
    refine And.intro (fun c5 => ?_) (fun c5 => ?_)
    · replace p4 : (j < 0 ∨ 3 < j) := by
        rcases p4 with q | q
        · exact absurd q.1 (by omega)
        · exact q.2
      exact lp_61 () (show True from by first | trivial | omega | (refine ⟨by assumption, ?_⟩; omega) | (refine ⟨?_, ?_⟩ <;> omega))
    · replace p4 : 0 ≤ j ∧ j ≤ 3 := by
        rcases p4 with q | q
        · exact q.2
        · exact absurd q.1 (by omega)
      refine s_isIn (σ := σ) (v := n) (low := 1) (high := 30)  (fun r6 p6 => ?_)
      have p6 : (r6 = 1 ∧ 1 ≤ n ∧ n ≤ 30) ∨ (r6 = 0 ∧ (n < 1 ∨ 30 < n)) := p6
      refine And.intro (fun c7 => ?_) (fun c7 => ?_)
      · replace p6 : (n < 1 ∨ 30 < n) := by
          rcases p6 with q | q
          · exact absurd q.1 (by omega)
          · exact q.2
        exact lp_61 () (show True from by first | trivial | omega | (refine ⟨by assumption, ?_⟩; omega) | (refine ⟨?_, ?_⟩ <;> omega))
      · replace p6 : 1 ≤ n ∧ n ≤ 30 := by
          rcases p6 with q | q
          · exact q.2
          · exact absurd q.1 (by omega)
        refine And.intro (rfl) (And.intro (⟨by omega, by omega⟩) ?_)
        intro v8 e8 l8 h8
        have e8 : v8 = σ 2 1 := e8
        have rv8 : 0 ≤ (σ 2 1) ∧ (σ 2 1) ≤ 6 := hI.1.persons
        refine And.intro (fun c9 => ?_) (fun c9 => ?_)
        · exact lp_61 () (show True from by first | trivial | omega | (refine ⟨by assumption, ?_⟩; omega) | (refine ⟨?_, ?_⟩ <;> omega))
        · refine And.intro (rfl) (And.intro (⟨by omega, by omega⟩) ?_)
          intro v10 e10 l10 h10
          have e10 : v10 = σ 2 1 := e10
          have rv10 : 0 ≤ (σ 2 1) ∧ (σ 2 1) ≤ 6 := hI.1.persons
          intro z11 t11 e11 l11 h11
          try have w11 : t11 = 0 := by omega
          refine And.intro (rfl) (And.intro (⟨by omega, by omega⟩) ?_)
          intro v12 e12 l12 h12
          have e12 : v12 = σ 2 0 := e12
          have rv12 : 0 ≤ (σ 2 0) ∧ (σ 2 0) ≤ 13 := hI.1.kinds
          intro z13 t13 e13 l13 h13
          try have w13 : t13 = 0 := by omega
          refine And.intro (fun c14 => ?_) (fun c14 => ?_)
          · exact lp_61 () (show True from by first | trivial | omega | (refine ⟨by assumption, ?_⟩; omega) | (refine ⟨?_, ?_⟩ <;> omega))
          · refine And.intro rfl ?_
            refine And.intro (by omega) ?_
            exact hQ _ (show (1 = 1 ∧ (1 ≤ n ∧ n ≤ 30) ∧ 2 ≤ σ 2 1 ∧ 5 * σ 2 1 ≤ 4 * σ 2 0) ∨ 1 = 0 from by first | trivial | omega)
