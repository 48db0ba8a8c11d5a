set_option maxHeartbeats 4000000 in
set_option maxRecDepth 100000 in
theorem s_waysOf {σ : xS} {o q without : Int} {Q : Option xV → xS → Prop} (hp0 : RI σ) (hp1 : 0 ≤ o ∧ o < σ 2 1) (hp2 : LKx σ o) (hQ : ∀ r : Int, ∀ σ' : xS, Fr [12, 13, 14] [] σ σ' → ((0 ≤ r ∧ r ≤ 36520347436056576) ∧ ∀ j : Nat, (j : Int) < σ 0 33 → σ' 12 j = f5 j) → Q (some (xvl r)) σ') : xT kX11_waysOf [xvr 0, xvi o, xvi q, xvi without] σ Q := by
  refine ⟨Nat.le_of_ble_eq_true rfl, fun X hX => ?_⟩
  show X 0 [xvr 0, xvi o, xvi q, xvi without, xvu, xvu, xvu, xvu, xvu, xvu, xvu] σ
  have hF : Fr [12, 13, 14] [] σ σ := Fr.rf
  refine hX 400 0 _ _ ?_
  have hoth : ∀ p, p < 6 → 0 ≤ σ 2 (229 + p) ∧ σ 2 (229 + p) ≤ 52 := fun p hp => hp0.1.others hp
  have hb0 := hp0.kinds; have hb1 := hp0.persons
  have hL := hp2
  have hL0 := hp2.1
  have h35 := hp2.2.2.2
  refine And.intro (Nat.le_of_ble_eq_true rfl) ?_
  show xw _ _ _ _ _ _ _ _ _ _ [xvr 0, xvi o, xvi q, xvi without, xvi 1, xvu, xvu, xvu, xvu, xvu, xvu] _ _
  refine And.intro (Nat.le_of_ble_eq_true rfl) ?_
  show xw _ _ _ _ _ _ _ _ _ _ [xvr 0, xvi o, xvi q, xvi without, xvi 1, xvi 0, xvu, xvu, xvu, xvu, xvu] _ _
  have lp_6 : ∀ (m6 : Nat) (all : Int) (i : Int) (s1 : xS), ((6 - i).toNat) = m6 → (Fr [12, 13, 14] [] σ s1 ∧ (0 ≤ i ∧ i ≤ σ 0 33) ∧ all = f5 i.toNat ∧ (∀ j : Nat, (j : Int) < i → s1 12 j = f5 j)) → X 6 [xvr 0, xvi o, xvi q, xvi without, xvi all, xvi i, xvu, xvu, xvu, xvu, xvu] s1 := by
    intro m6
    induction m6 using Nat.strongRecOn with
    | _ m6 ih_6 =>
    intro all i s1 hm_6 hv_6
    obtain ⟨hF, hv_6, hall, hst⟩ := hv_6
    have hs2 : s1 2 = σ 2 := hF.1 2 (by decide) (by decide)
    have hs10 : s1 10 = σ 10 := hF.1 10 (by decide) (by decide)
    have hs11 : s1 11 = σ 11 := hF.1 11 (by decide) (by decide)
    have hs33 : s1 0 33 = σ 0 33 := hF.2 33 (by decide)
    have hp1s : s1 2 1 = σ 2 1 := by rw [hs2]
    have ha1 := f5_p (n := i.toNat); have ha2 := f5_6 (n := i.toNat) (by omega)
    refine hX 400 6 _ _ ?_
    intro v2 e2 l2 h2
    have e2 : v2 = s1 0 33 := e2
    refine And.intro (fun c3 => ?_) (fun c3 => ?_)
    · refine And.intro (Nat.le_of_ble_eq_true rfl) ?_
      show xw _ _ _ _ _ _ _ _ _ _ [xvr 0, xvi o, xvi q, xvi without, xvi all, xvi 0, xvu, xvu, xvu, xvu, xvu] _ _
      have lp_39 : ∀ (m39 : Nat) (c : Int) (s2 : xS), ((15625 - c).toNat) = m39 → (Fr [12, 13, 14] [] σ s2 ∧ s2 12 = s1 12 ∧ (∀ j : Nat, (j : Int) < c → s2 13 j = if j = 0 then 1 else 0) ∧ (0 ≤ c ∧ c ≤ all)) → X 39 [xvr 0, xvi o, xvi q, xvi without, xvi all, xvi c, xvu, xvu, xvu, xvu, xvu] s2 := by
        intro m39
        induction m39 using Nat.strongRecOn with
        | _ m39 ih_39 =>
        intro c s2 hm_39 hv_39
        obtain ⟨hF, h12, hB, hv_39⟩ := hv_39
        have hs2 : s2 2 = σ 2 := hF.1 2 (by decide) (by decide)
        have hs10 : s2 10 = σ 10 := hF.1 10 (by decide) (by decide)
        have hs11 : s2 11 = σ 11 := hF.1 11 (by decide) (by decide)
        have hs33 : s2 0 33 = σ 0 33 := hF.2 33 (by decide)
        have hp1s : s2 2 1 = σ 2 1 := by rw [hs2]
        refine hX 400 39 _ _ ?_
        refine And.intro (fun c5 => ?_) (fun c5 => ?_)
        · refine And.intro (Nat.le_of_ble_eq_true rfl) ?_
          show xw _ _ _ _ _ _ _ _ _ _ [xvr 0, xvi o, xvi q, xvi without, xvi all, xvi 0, xvu, xvu, xvu, xvu, xvu] _ _
          have lp_72 : ∀ (m72 : Nat) (k : Int) (u6_6 : xV) (u6_7 : xV) (u6_8 : xV) (u6_9 : xV) (u6_10 : xV) (s3 : xS), ((6 - k).toNat) = m72 → (Fr [12, 13, 14] [] σ s3 ∧ s3 12 = s1 12 ∧ (∀ j : Nat, (j : Int) < all → 0 ≤ s3 13 j) ∧ sm all.toNat (s3 13) ≤ e24 ((onx o (σ 2) k.toNat).toNat) ∧ (0 ≤ k ∧ k ≤ σ 2 1)) → X 72 [xvr 0, xvi o, xvi q, xvi without, xvi all, xvi k, u6_6, u6_7, u6_8, u6_9, u6_10] s3 := by
            intro m72
            induction m72 using Nat.strongRecOn with
            | _ m72 ih_72 =>
            intro k u6_6 u6_7 u6_8 u6_9 u6_10 s3 hm_72 hv_72
            obtain ⟨hF, h12, hP, hT, hv_72⟩ := hv_72
            have hs2 : s3 2 = σ 2 := hF.1 2 (by decide) (by decide)
            have hs10 : s3 10 = σ 10 := hF.1 10 (by decide) (by decide)
            have hs11 : s3 11 = σ 11 := hF.1 11 (by decide) (by decide)
            have hs33 : s3 0 33 = σ 0 33 := hF.2 33 (by decide)
            have hp1s : s3 2 1 = σ 2 1 := by rw [hs2]
            refine hX 400 72 _ _ ?_
            refine And.intro (rfl) (And.intro (⟨by omega, by omega⟩) ?_)
            intro v7 e7 l7 h7
            have e7 : v7 = s3 2 1 := e7
            refine And.intro (fun c8 => ?_) (fun c8 => ?_)
            · refine And.intro (Nat.le_of_ble_eq_true rfl) ?_
              show xw _ _ _ _ _ _ _ _ _ _ [xvr 0, xvi o, xvi q, xvi without, xvi all, xvl 0, xvu, u6_7, u6_8, u6_9, u6_10] _ _
              refine And.intro (Nat.le_of_ble_eq_true rfl) ?_
              show xw _ _ _ _ _ _ _ _ _ _ [xvr 0, xvi o, xvi q, xvi without, xvi all, xvl 0, xvu, xvi 0, u6_8, u6_9, u6_10] _ _
              have lp_341 : ∀ (m341 : Nat) (sum : Int) (c5 : Int), ((15625 - c5).toNat) = m341 → (sum = sm c5.toNat (s3 13) ∧ (0 ≤ c5 ∧ c5 ≤ all)) → X 341 [xvr 0, xvi o, xvi q, xvi without, xvi all, xvl sum, xvu, xvi c5, u6_8, u6_9, u6_10] s3 := by
                intro m341
                induction m341 using Nat.strongRecOn with
                | _ m341 ih_341 =>
                intro sum c5 hm_341 hv_341
                obtain ⟨hsum, hv_341⟩ := hv_341
                have hon := onx_le (o := o) hoth (n := k.toNat) (m := (σ 2 1).toNat) (by omega) (by omega)
                have he := e24_12 (n := (onx o (σ 2) k.toNat).toNat) (by omega)
                have hn9 := sm_mono (n := c5.toNat) (m := all.toNat) (g := s3 13) (fun q hq => hP q (by omega)) (by omega); have hn8 := sm_nn (n := c5.toNat) (g := s3 13) (fun q hq => hP q (by omega))
                refine hX 400 341 _ _ ?_
                refine And.intro (fun c10 => ?_) (fun c10 => ?_)
                · refine And.intro rfl (And.intro rfl ?_)
                  exact hQ _ _ hF ⟨by omega, (fun j hj => by rw [h12]; exact hst j (by omega))⟩
                · refine And.intro (rfl) (And.intro (⟨by omega, by omega⟩) ?_)
                  intro v11 e11 l11 h11
                  have e11 : v11 = s3 13 c5.toNat := e11
                  have hvv11 := hP c5.toNat (by omega)
                  rw [← e11] at hvv11
                  have hmo := sm_mono (n := c5.toNat + 1) (m := all.toNat) (g := s3 13) (fun q hq => hP q (by omega)) (by omega)
                  have hsm : sm (c5.toNat + 1) (s3 13) = sm c5.toNat (s3 13) + s3 13 c5.toNat := rfl
                  have hm0 := sm_nn (n := c5.toNat) (g := s3 13) (fun q hq => hP q (by omega))
                  rw [show s3 13 c5.toNat = v11 from e11.symm] at hsm
                  intro z12 t12 e12 l12 h12
                  try have w12 : t12 = 0 := by omega
                  refine And.intro (Nat.le_of_ble_eq_true rfl) ?_
                  show xw _ _ _ _ _ _ _ _ _ _ [xvr 0, xvi o, xvi q, xvi without, xvi all, xvl z12, xvu, xvi c5, u6_8, u6_9, u6_10] _ _
                  intro z13 t13 e13 l13 h13
                  try have w13 : t13 = 0 := by omega
                  show xw _ _ _ _ _ _ _ _ _ _ [xvr 0, xvi o, xvi q, xvi without, xvi all, xvl z12, xvu, xvi z13, u6_8, u6_9, u6_10] _ _
                  exact ih_341 _ (show (15625 - z13).toNat < m341 from by omega) z12 z13 rfl ⟨(by rw [show z13.toNat = c5.toNat + 1 from by omega, hsm]; omega), by omega⟩
              exact lp_341 _ 0 0 rfl ⟨rfl, by omega⟩
            · refine And.intro (fun c14 => ?_) (fun c14 => ?_)
              · refine And.intro (Nat.le_of_ble_eq_true rfl) ?_
                show xw _ _ _ _ _ _ _ _ _ _ [xvr 0, xvi o, xvi q, xvi without, xvi all, xvi k, xvi 0, u6_7, u6_8, u6_9, u6_10] _ _
                have lp_95 : ∀ (m95 : Nat) (i2 : Int) (u15_7 : xV) (u15_8 : xV) (u15_9 : xV) (u15_10 : xV) (s4 : xS), ((52 - i2).toNat) = m95 → (Fr [12, 13, 14] [] σ s4 ∧ s4 12 = s1 12 ∧ (∀ j : Nat, (j : Int) < all → 0 ≤ s4 13 j) ∧ sm all.toNat (s4 13) ≤ e24 ((onx o (σ 2) k.toNat).toNat + i2.toNat) ∧ (0 ≤ i2 ∧ i2 ≤ σ 2 (229 + k.toNat))) → X 95 [xvr 0, xvi o, xvi q, xvi without, xvi all, xvi k, xvi i2, u15_7, u15_8, u15_9, u15_10] s4 := by
                  intro m95
                  induction m95 using Nat.strongRecOn with
                  | _ m95 ih_95 =>
                  intro i2 u15_7 u15_8 u15_9 u15_10 s4 hm_95 hv_95
                  obtain ⟨hF, h12, hP, hT, hv_95⟩ := hv_95
                  have hTs := hT
                  have hs2 : s4 2 = σ 2 := hF.1 2 (by decide) (by decide)
                  have hs10 : s4 10 = σ 10 := hF.1 10 (by decide) (by decide)
                  have hs11 : s4 11 = σ 11 := hF.1 11 (by decide) (by decide)
                  have hs33 : s4 0 33 = σ 0 33 := hF.2 33 (by decide)
                  have hp1s : s4 2 1 = σ 2 1 := by rw [hs2]
                  refine hX 400 95 _ _ ?_
                  intro z16 t16 e16 l16 h16
                  try have w16 : t16 = 0 := by omega
                  refine And.intro (rfl) (And.intro (⟨by omega, by omega⟩) ?_)
                  intro v17 e17 l17 h17
                  have e17 : v17 = s4 2 z16.toNat := e17
                  have hov17 : v17 = σ 2 (229 + k.toNat) := by rw [e17, hs2, show z16.toNat = 229 + k.toNat from by omega]
                  have hqv17 := hoth k.toNat (by omega)
                  have hn1 : onx o (σ 2) (k.toNat + 1) = onx o (σ 2) k.toNat + σ 2 (229 + k.toNat) := by rw [onx_s, if_neg (by omega)]
                  have hn2 := onx_le (o := o) hoth (n := k.toNat + 1) (m := (σ 2 1).toNat) (by omega) (by omega)
                  have hn3 := onx_nn (o := o) hoth (n := k.toNat) (by omega)
                  refine And.intro (fun c18 => ?_) (fun c18 => ?_)
                  · refine hX 400 329 _ _ ?_
                    intro z19 t19 e19 l19 h19
                    try have w19 : t19 = 0 := by omega
                    show xw _ _ _ _ _ _ _ _ _ _ [xvr 0, xvi o, xvi q, xvi without, xvi all, xvi z19, xvi i2, u15_7, u15_8, u15_9, u15_10] _ _
                    exact ih_72 _ (show (6 - z19).toNat < m72 from by omega) z19 (xvi i2) (u15_7) (u15_8) (u15_9) (u15_10) s4 rfl ⟨hF, h12, hP, (by rw [show z19.toNat = k.toNat + 1 from by omega, hn1, show (onx o (σ 2) k.toNat + σ 2 (229 + k.toNat)).toNat = (onx o (σ 2) k.toNat).toNat + i2.toNat from by omega]; exact hT), by omega⟩
                  · intro z20 t20 e20 l20 h20
                    try have w20 : t20 = 0 := by omega
                    intro z21 t21 e21 l21 h21
                    try have w21 : t21 = 0 := by omega
                    intro z22 t22 e22 l22 h22
                    try have w22 : t22 = 0 := by omega
                    refine And.intro (rfl) (And.intro (⟨by omega, by omega⟩) ?_)
                    intro v23 e23 l23 h23
                    have e23 : v23 = s4 2 z22.toNat := e23
                    refine And.intro (fun c24 => ?_) (fun c24 => ?_)
                    · intro z25 e25 l25 h25
                      refine And.intro (Nat.le_of_ble_eq_true rfl) ?_
                      show xw _ _ _ _ _ _ _ _ _ _ [xvr 0, xvi o, xvi q, xvi without, xvi all, xvi k, xvi i2, xvi z25, u15_8, u15_9, u15_10] _ _
                      refine And.intro (Nat.le_of_ble_eq_true rfl) ?_
                      show xw _ _ _ _ _ _ _ _ _ _ [xvr 0, xvi o, xvi q, xvi without, xvi all, xvi k, xvi i2, xvi z25, xvi 0, u15_9, u15_10] _ _
                      have lp_147 : ∀ (m147 : Nat) (c2 : Int) (s5 : xS), ((15625 - c2).toNat) = m147 → (Fr [12, 13, 14] [] σ s5 ∧ s5 12 = s1 12 ∧ s5 13 = s4 13 ∧ (∀ j : Nat, (j : Int) < c2 → s5 14 j = 0) ∧ (0 ≤ c2 ∧ c2 ≤ all)) → X 147 [xvr 0, xvi o, xvi q, xvi without, xvi all, xvi k, xvi i2, xvi z25, xvi c2, u15_9, u15_10] s5 := by
                        intro m147
                        induction m147 using Nat.strongRecOn with
                        | _ m147 ih_147 =>
                        intro c2 s5 hm_147 hv_147
                        obtain ⟨hF, h12, h13, hB, hv_147⟩ := hv_147
                        have hs2 : s5 2 = σ 2 := hF.1 2 (by decide) (by decide)
                        have hs10 : s5 10 = σ 10 := hF.1 10 (by decide) (by decide)
                        have hs11 : s5 11 = σ 11 := hF.1 11 (by decide) (by decide)
                        have hs33 : s5 0 33 = σ 0 33 := hF.2 33 (by decide)
                        have hp1s : s5 2 1 = σ 2 1 := by rw [hs2]
                        refine hX 400 147 _ _ ?_
                        refine And.intro (fun c27 => ?_) (fun c27 => ?_)
                        · refine And.intro (Nat.le_of_ble_eq_true rfl) ?_
                          show xw _ _ _ _ _ _ _ _ _ _ [xvr 0, xvi o, xvi q, xvi without, xvi all, xvi k, xvi i2, xvi z25, xvi 0, u15_9, u15_10] _ _
                          have lp_171 : ∀ (m171 : Nat) (c3 : Int) (u28_9 : xV) (u28_10 : xV) (s6 : xS), ((15625 - c3).toNat) = m171 → (Fr [12, 13, 14] [] σ s6 ∧ s6 12 = s1 12 ∧ s6 13 = s4 13 ∧ (∀ j : Nat, (j : Int) < all → 0 ≤ s6 14 j) ∧ sm all.toNat (s6 14) ≤ 24 * sm c3.toNat (s4 13) ∧ (0 ≤ c3 ∧ c3 ≤ all)) → X 171 [xvr 0, xvi o, xvi q, xvi without, xvi all, xvi k, xvi i2, xvi z25, xvi c3, u28_9, u28_10] s6 := by
                            intro m171
                            induction m171 using Nat.strongRecOn with
                            | _ m171 ih_171 =>
                            intro c3 u28_9 u28_10 s6 hm_171 hv_171
                            obtain ⟨hF, h12, h13, hN0, hT, hv_171⟩ := hv_171
                            have he := e24_11 (n := (onx o (σ 2) k.toNat).toNat + i2.toNat) (by omega)
                            have hs2 : s6 2 = σ 2 := hF.1 2 (by decide) (by decide)
                            have hs10 : s6 10 = σ 10 := hF.1 10 (by decide) (by decide)
                            have hs11 : s6 11 = σ 11 := hF.1 11 (by decide) (by decide)
                            have hs33 : s6 0 33 = σ 0 33 := hF.2 33 (by decide)
                            have hp1s : s6 2 1 = σ 2 1 := by rw [hs2]
                            refine hX 400 171 _ _ ?_
                            refine And.intro (fun c29 => ?_) (fun c29 => ?_)
                            · refine And.intro (Nat.le_of_ble_eq_true rfl) ?_
                              show xw _ _ _ _ _ _ _ _ _ _ [xvr 0, xvi o, xvi q, xvi without, xvi all, xvi k, xvi i2, xvi z25, xvi 0, u28_9, u28_10] _ _
                              have lp_296 : ∀ (m296 : Nat) (c4 : Int) (s8 : xS), ((15625 - c4).toNat) = m296 → (Fr [12, 13, 14] [] σ s8 ∧ s8 12 = s1 12 ∧ s8 14 = s6 14 ∧ (∀ j : Nat, (j : Int) < c4 → s8 13 j = s6 14 j) ∧ (0 ≤ c4 ∧ c4 ≤ all)) → X 296 [xvr 0, xvi o, xvi q, xvi without, xvi all, xvi k, xvi i2, xvi z25, xvi c4, u28_9, u28_10] s8 := by
                                intro m296
                                induction m296 using Nat.strongRecOn with
                                | _ m296 ih_296 =>
                                intro c4 s8 hm_296 hv_296
                                obtain ⟨hF, h12, h14, hB, hv_296⟩ := hv_296
                                have hs2 : s8 2 = σ 2 := hF.1 2 (by decide) (by decide)
                                have hs10 : s8 10 = σ 10 := hF.1 10 (by decide) (by decide)
                                have hs11 : s8 11 = σ 11 := hF.1 11 (by decide) (by decide)
                                have hs33 : s8 0 33 = σ 0 33 := hF.2 33 (by decide)
                                have hp1s : s8 2 1 = σ 2 1 := by rw [hs2]
                                refine hX 400 296 _ _ ?_
                                refine And.intro (fun c31 => ?_) (fun c31 => ?_)
                                · intro z32 t32 e32 l32 h32
                                  try have w32 : t32 = 0 := by omega
                                  show xw _ _ _ _ _ _ _ _ _ _ [xvr 0, xvi o, xvi q, xvi without, xvi all, xvi k, xvi z32, xvi z25, xvi c4, u28_9, u28_10] _ _
                                  exact ih_95 _ (show (52 - z32).toNat < m95 from by omega) z32 (xvi z25) (xvi c4) (u28_9) (u28_10) s8 rfl ⟨hF, h12, (fun q hq => by rw [hB q (by omega)]; exact hN0 q hq), (by
                                              rw [sm_congr (g := s8 13) (g' := s6 14) (fun q hq => hB q (by omega)), show (onx o (σ 2) k.toNat).toNat + z32.toNat = (onx o (σ 2) k.toNat).toNat + i2.toNat + 1 from by omega]
                                              have z : e24 ((onx o (σ 2) k.toNat).toNat + i2.toNat + 1) = 24 * e24 ((onx o (σ 2) k.toNat).toNat + i2.toNat) := rfl
                                              rw [show all.toNat = c3.toNat from by omega] at hT hTs ⊢
                                              omega), by omega⟩
                                · refine And.intro (rfl) (And.intro (⟨by omega, by omega⟩) ?_)
                                  intro v33 e33 l33 h33
                                  have e33 : v33 = s8 14 c4.toNat := e33
                                  refine And.intro rfl (And.intro (⟨by omega, by omega⟩) ?_)
                                  have hF := hF.pt (t := 13) (j := c4.toNat) (v := v33) (by decide) (by decide)
                                  intro z35 t35 e35 l35 h35
                                  try have w35 : t35 = 0 := by omega
                                  show xw _ _ _ _ _ _ _ _ _ _ [xvr 0, xvi o, xvi q, xvi without, xvi all, xvi k, xvi i2, xvi z25, xvi z35, u28_9, u28_10] _ _
                                  exact ih_296 _ (show (15625 - z35).toNat < m296 from by omega) z35 (xput s8 13 c4.toNat v33) rfl ⟨hF, h12, h14, (fun q hq => by
                                                by_cases e : q = c4.toNat
                                                · rw [show q = c4.toNat from by omega, xput_s, e33, h14]
                                                · rw [xput_o (by omega)]; exact hB q (by omega)), by omega⟩
                              exact lp_296 _ 0 s6 rfl ⟨hF, h12, rfl, (fun j hj => by omega), by omega⟩
                            · refine And.intro (rfl) (And.intro (⟨by omega, by omega⟩) ?_)
                              intro v36 e36 l36 h36
                              have e36 : v36 = s6 13 c3.toNat := e36
                              have hwv36 : v36 = s4 13 c3.toNat := by rw [e36, h13]
                              have hw0v36 : 0 ≤ s4 13 c3.toNat := hP c3.toNat (by omega)
                              have hsm : sm (c3.toNat + 1) (s4 13) = sm c3.toNat (s4 13) + s4 13 c3.toNat := rfl
                              have hmo := sm_mono (n := c3.toNat + 1) (m := all.toNat) (g := s4 13) (fun q hq => hP q (by omega)) (by omega)
                              have hm0 := sm_nn (n := c3.toNat) (g := s4 13) (fun q hq => hP q (by omega))
                              intro z37 a37 b37 c37 l37 h37
                              refine And.intro (fun c38 => ?_) (fun c38 => ?_)
                              · refine And.intro (Nat.le_of_ble_eq_true rfl) ?_
                                show xw _ _ _ _ _ _ _ _ _ _ [xvr 0, xvi o, xvi q, xvi without, xvi all, xvi k, xvi i2, xvi z25, xvi c3, xvi 0, u28_10] _ _
                                have lp_196 : ∀ (m196 : Nat) (j : Int) (u39_10 : xV) (s7 : xS), ((6 - j).toNat) = m196 → (Fr [12, 13, 14] [] σ s7 ∧ s7 12 = s1 12 ∧ s7 13 = s4 13 ∧ (∀ j : Nat, (j : Int) < all → 0 ≤ s7 14 j) ∧ sm all.toNat (s7 14) ≤ 24 * sm c3.toNat (s4 13) + 4 * (j * s4 13 c3.toNat) ∧ (0 ≤ j ∧ j ≤ σ 0 33)) → X 196 [xvr 0, xvi o, xvi q, xvi without, xvi all, xvi k, xvi i2, xvi z25, xvi c3, xvi j, u39_10] s7 := by
                                  intro m196
                                  induction m196 using Nat.strongRecOn with
                                  | _ m196 ih_196 =>
                                  intro j u39_10 s7 hm_196 hv_196
                                  obtain ⟨hF, h12, h13, hN0, hT, hv_196⟩ := hv_196
                                  have hs2 : s7 2 = σ 2 := hF.1 2 (by decide) (by decide)
                                  have hs10 : s7 10 = σ 10 := hF.1 10 (by decide) (by decide)
                                  have hs11 : s7 11 = σ 11 := hF.1 11 (by decide) (by decide)
                                  have hs33 : s7 0 33 = σ 0 33 := hF.2 33 (by decide)
                                  have hp1s : s7 2 1 = σ 2 1 := by rw [hs2]
                                  refine hX 400 196 _ _ ?_
                                  intro v40 e40 l40 h40
                                  have e40 : v40 = s7 0 33 := e40
                                  refine And.intro (fun c41 => ?_) (fun c41 => ?_)
                                  · refine hX 400 287 _ _ ?_
                                    intro z42 t42 e42 l42 h42
                                    try have w42 : t42 = 0 := by omega
                                    show xw _ _ _ _ _ _ _ _ _ _ [xvr 0, xvi o, xvi q, xvi without, xvi all, xvi k, xvi i2, xvi z25, xvi z42, xvi j, u39_10] _ _
                                    exact ih_171 _ (show (15625 - z42).toNat < m171 from by omega) z42 (xvi j) (u39_10) s7 rfl ⟨hF, h12, h13, hN0, (by rw [show z42.toNat = c3.toNat + 1 from by omega, hsm]; have z := mul6 (w := s4 13 c3.toNat) (m := j) (by omega) (by omega) (by omega); omega), by omega⟩
                                  · refine And.intro (rfl) (And.intro (⟨by omega, by omega⟩) ?_)
                                    intro v43 e43 l43 h43
                                    have e43 : v43 = s7 11 j.toNat := e43
                                    have hkv43 := hL.2.1 j.toNat (by omega)
                                    rw [← hs11, show j.toNat = j.toNat from rfl, ← e43] at hkv43
                                    refine And.intro (rfl) (And.intro (⟨by omega, by omega⟩) ?_)
                                    intro v44 e44 l44 h44
                                    have e44 : v44 = s7 10 v43.toNat := e44
                                    have hlv44 : v44 = σ 10 v43.toNat := by rw [e44, hs10]
                                    refine And.intro (rfl) (And.intro (⟨by omega, by omega⟩) ?_)
                                    intro v45 e45 l45 h45
                                    have e45 : v45 = s7 12 j.toNat := e45
                                    have hsv45 : v45 = f5 j.toNat := by rw [e45, h12]; exact hst _ (by omega)
                                    have hspv45 := f5_p (n := j.toNat)
                                    refine s_digitE (σ := s7) (code := c3) (by_ := v45) (by omega) (fun r46 p46 => ?_)
                                    rw [hsv45] at p46
                                    have pb46 := Int.emod_nonneg (c3 / f5 j.toNat) (b := 5) (by omega)
                                    intro z47 t47 e47 l47 h47
                                    try have w47 : t47 = 0 := by omega
                                    refine And.intro (Nat.le_of_ble_eq_true rfl) ?_
                                    show xw _ _ _ _ _ _ _ _ _ _ [xvr 0, xvi o, xvi q, xvi without, xvi all, xvi k, xvi i2, xvi z25, xvi c3, xvi j, xvi z47] _ _
                                    refine And.intro (fun c48 => ?_) (fun c48 => ?_)
                                    · refine hX 400 281 _ _ ?_
                                      intro z49 t49 e49 l49 h49
                                      try have w49 : t49 = 0 := by omega
                                      show xw _ _ _ _ _ _ _ _ _ _ [xvr 0, xvi o, xvi q, xvi without, xvi all, xvi k, xvi i2, xvi z25, xvi c3, xvi z49, xvi z47] _ _
                                      exact ih_196 _ (show (6 - z49).toNat < m196 from by omega) z49 (xvi z47) s7 rfl ⟨hF, h12, h13, hN0, (by have z := Int.add_mul j 1 (s4 13 c3.toNat); rw [Int.one_mul] at z; rw [show z49 = j + 1 from by omega]; omega), by omega⟩
                                    · refine And.intro (rfl) (And.intro (⟨by omega, by omega⟩) ?_)
                                      intro v50 e50 l50 h50
                                      have e50 : v50 = s7 11 j.toNat := e50
                                      have hkv50 := hL.2.1 j.toNat (by omega)
                                      rw [← hs11, show j.toNat = j.toNat from rfl, ← e50] at hkv50
                                      refine s_bitOf (σ := s7) (set := z25) (k := v50)  (fun r51 p51 => ?_)
                                      have p51 : r51 = 0 ∨ r51 = 1 := p51
                                      refine And.intro (fun c52 => ?_) (fun c52 => ?_)
                                      · refine hX 400 281 _ _ ?_
                                        intro z53 t53 e53 l53 h53
                                        try have w53 : t53 = 0 := by omega
                                        show xw _ _ _ _ _ _ _ _ _ _ [xvr 0, xvi o, xvi q, xvi without, xvi all, xvi k, xvi i2, xvi z25, xvi c3, xvi z53, xvi z47] _ _
                                        exact ih_196 _ (show (6 - z53).toNat < m196 from by omega) z53 (xvi z47) s7 rfl ⟨hF, h12, h13, hN0, (by have z := Int.add_mul j 1 (s4 13 c3.toNat); rw [Int.one_mul] at z; rw [show z53 = j + 1 from by omega]; omega), by omega⟩
                                      · have hok : c3 + f5 j.toNat < all := by rw [hall]; exact f5_ok (j := j.toNat) (L := i.toNat) (by omega) (by omega) (by omega) (by omega) (by rw [← p46]; omega)
                                        refine And.intro (rfl) (And.intro (⟨by omega, by omega⟩) ?_)
                                        intro v54 e54 l54 h54
                                        have e54 : v54 = s7 12 j.toNat := e54
                                        have hsv54 : v54 = f5 j.toNat := by rw [e54, h12]; exact hst _ (by omega)
                                        have hspv54 := f5_p (n := j.toNat)
                                        intro z55 t55 e55 l55 h55
                                        try have w55 : t55 = 0 := by omega
                                        refine And.intro (rfl) (And.intro (⟨by omega, by omega⟩) ?_)
                                        intro v56 e56 l56 h56
                                        have e56 : v56 = s7 14 z55.toNat := e56
                                        have hnv56 := hN0 z55.toNat (by omega)
                                        have hgv56 := sm_ge (n := all.toNat) (g := s7 14) (fun q hq => hN0 q (by omega)) (j := z55.toNat) (by omega)
                                        rw [← e56] at hnv56 hgv56
                                        have z6 := mul6 (w := s4 13 c3.toNat) (m := j) (by omega) (by omega) (by omega)
                                        refine And.intro (rfl) (And.intro (⟨by omega, by omega⟩) ?_)
                                        intro v57 e57 l57 h57
                                        have e57 : v57 = s7 13 c3.toNat := e57
                                        have hw2 : v57 = s4 13 c3.toNat := by rw [e57, h13]
                                        have hmm := mul4 (w := v57) (m := z47) (by omega) (by omega) (by omega)
                                        intro z58 t58 e58 l58 h58
                                        try have w58 : t58 = 0 := by omega
                                        intro z59 t59 e59 l59 h59
                                        try have w59 : t59 = 0 := by omega
                                        refine And.intro rfl (And.intro (⟨by omega, by omega⟩) ?_)
                                        have hF := hF.pt (t := 14) (j := z55.toNat) (v := z59) (by decide) (by decide)
                                        refine hX 400 281 _ _ ?_
                                        intro z61 t61 e61 l61 h61
                                        try have w61 : t61 = 0 := by omega
                                        show xw _ _ _ _ _ _ _ _ _ _ [xvr 0, xvi o, xvi q, xvi without, xvi all, xvi k, xvi i2, xvi z25, xvi c3, xvi z61, xvi z47] _ _
                                        exact ih_196 _ (show (6 - z61).toNat < m196 from by omega) z61 (xvi z47) (xput s7 14 z55.toNat z59) rfl ⟨hF, h12, h13, (fun q hq => by
                                                            by_cases e : q = z55.toNat
                                                            · rw [e, xput_s]; omega
                                                            · rw [xput_o e]; exact hN0 q hq), (by
                                                            have z := Int.add_mul j 1 (s4 13 c3.toNat); rw [Int.one_mul] at z; rw [show z61 = j + 1 from by omega]
                                                            have zz := sm_put (n := all.toNat) (j := z55.toNat) (f := s7 14) (f' := xput s7 14 z55.toNat z59 14) (v := v57 * z47) (by omega) (by rw [xput_s]; omega) (fun q hq => xput_o hq)
                                                            rw [zz]; omega), by omega⟩
                                exact lp_196 _ 0 (u28_10) s6 rfl ⟨hF, h12, h13, hN0, (by rw [Int.zero_mul]; omega), by omega⟩
                              · refine hX 400 287 _ _ ?_
                                intro z62 t62 e62 l62 h62
                                try have w62 : t62 = 0 := by omega
                                show xw _ _ _ _ _ _ _ _ _ _ [xvr 0, xvi o, xvi q, xvi without, xvi all, xvi k, xvi i2, xvi z25, xvi z62, u28_9, u28_10] _ _
                                exact ih_171 _ (show (15625 - z62).toNat < m171 from by omega) z62 (u28_9) (u28_10) s6 rfl ⟨hF, h12, h13, hN0, (by rw [show z62.toNat = c3.toNat + 1 from by omega, hsm]; omega), by omega⟩
                          exact lp_171 _ 0 (u15_9) (u15_10) s5 rfl ⟨hF, h12, h13, (fun q hq => by rw [hB q (by omega)]; omega), (by rw [sm_z (n := all.toNat) (g := s5 14) (fun q hq => hB q (by omega))]; exact Int.le_refl _), by omega⟩
                        · refine And.intro rfl (And.intro (⟨by omega, by omega⟩) ?_)
                          have hF := hF.pt (t := 14) (j := c2.toNat) (v := 0) (by decide) (by decide)
                          intro z64 t64 e64 l64 h64
                          try have w64 : t64 = 0 := by omega
                          show xw _ _ _ _ _ _ _ _ _ _ [xvr 0, xvi o, xvi q, xvi without, xvi all, xvi k, xvi i2, xvi z25, xvi z64, u15_9, u15_10] _ _
                          exact ih_147 _ (show (15625 - z64).toNat < m147 from by omega) z64 (xput s5 14 c2.toNat 0) rfl ⟨hF, h12, h13, (fun q hq => by
                                        by_cases e : q = c2.toNat
                                        · rw [show q = c2.toNat from by omega, xput_s]
                                        · rw [xput_o (by omega)]; exact hB q (by omega)), by omega⟩
                      exact lp_147 _ 0 s4 rfl ⟨hF, h12, rfl, (fun j hj => by omega), by omega⟩
                    · intro z65 e65 l65 h65
                      intro z66 e66 l66 h66
                      refine And.intro (Nat.le_of_ble_eq_true rfl) ?_
                      show xw _ _ _ _ _ _ _ _ _ _ [xvr 0, xvi o, xvi q, xvi without, xvi all, xvi k, xvi i2, xvi z66, u15_8, u15_9, u15_10] _ _
                      refine And.intro (Nat.le_of_ble_eq_true rfl) ?_
                      show xw _ _ _ _ _ _ _ _ _ _ [xvr 0, xvi o, xvi q, xvi without, xvi all, xvi k, xvi i2, xvi z66, xvi 0, u15_9, u15_10] _ _
                      have lp_147 : ∀ (m147 : Nat) (c2 : Int) (s5 : xS), ((15625 - c2).toNat) = m147 → (Fr [12, 13, 14] [] σ s5 ∧ s5 12 = s1 12 ∧ s5 13 = s4 13 ∧ (∀ j : Nat, (j : Int) < c2 → s5 14 j = 0) ∧ (0 ≤ c2 ∧ c2 ≤ all)) → X 147 [xvr 0, xvi o, xvi q, xvi without, xvi all, xvi k, xvi i2, xvi z66, xvi c2, u15_9, u15_10] s5 := by
                        intro m147
                        induction m147 using Nat.strongRecOn with
                        | _ m147 ih_147 =>
                        intro c2 s5 hm_147 hv_147
                        obtain ⟨hF, h12, h13, hB, hv_147⟩ := hv_147
                        have hs2 : s5 2 = σ 2 := hF.1 2 (by decide) (by decide)
                        have hs10 : s5 10 = σ 10 := hF.1 10 (by decide) (by decide)
                        have hs11 : s5 11 = σ 11 := hF.1 11 (by decide) (by decide)
                        have hs33 : s5 0 33 = σ 0 33 := hF.2 33 (by decide)
                        have hp1s : s5 2 1 = σ 2 1 := by rw [hs2]
                        refine hX 400 147 _ _ ?_
                        refine And.intro (fun c68 => ?_) (fun c68 => ?_)
                        · refine And.intro (Nat.le_of_ble_eq_true rfl) ?_
                          show xw _ _ _ _ _ _ _ _ _ _ [xvr 0, xvi o, xvi q, xvi without, xvi all, xvi k, xvi i2, xvi z66, xvi 0, u15_9, u15_10] _ _
                          have lp_171 : ∀ (m171 : Nat) (c3 : Int) (u69_9 : xV) (u69_10 : xV) (s6 : xS), ((15625 - c3).toNat) = m171 → (Fr [12, 13, 14] [] σ s6 ∧ s6 12 = s1 12 ∧ s6 13 = s4 13 ∧ (∀ j : Nat, (j : Int) < all → 0 ≤ s6 14 j) ∧ sm all.toNat (s6 14) ≤ 24 * sm c3.toNat (s4 13) ∧ (0 ≤ c3 ∧ c3 ≤ all)) → X 171 [xvr 0, xvi o, xvi q, xvi without, xvi all, xvi k, xvi i2, xvi z66, xvi c3, u69_9, u69_10] s6 := by
                            intro m171
                            induction m171 using Nat.strongRecOn with
                            | _ m171 ih_171 =>
                            intro c3 u69_9 u69_10 s6 hm_171 hv_171
                            obtain ⟨hF, h12, h13, hN0, hT, hv_171⟩ := hv_171
                            have he := e24_11 (n := (onx o (σ 2) k.toNat).toNat + i2.toNat) (by omega)
                            have hs2 : s6 2 = σ 2 := hF.1 2 (by decide) (by decide)
                            have hs10 : s6 10 = σ 10 := hF.1 10 (by decide) (by decide)
                            have hs11 : s6 11 = σ 11 := hF.1 11 (by decide) (by decide)
                            have hs33 : s6 0 33 = σ 0 33 := hF.2 33 (by decide)
                            have hp1s : s6 2 1 = σ 2 1 := by rw [hs2]
                            refine hX 400 171 _ _ ?_
                            refine And.intro (fun c70 => ?_) (fun c70 => ?_)
                            · refine And.intro (Nat.le_of_ble_eq_true rfl) ?_
                              show xw _ _ _ _ _ _ _ _ _ _ [xvr 0, xvi o, xvi q, xvi without, xvi all, xvi k, xvi i2, xvi z66, xvi 0, u69_9, u69_10] _ _
                              have lp_296 : ∀ (m296 : Nat) (c4 : Int) (s8 : xS), ((15625 - c4).toNat) = m296 → (Fr [12, 13, 14] [] σ s8 ∧ s8 12 = s1 12 ∧ s8 14 = s6 14 ∧ (∀ j : Nat, (j : Int) < c4 → s8 13 j = s6 14 j) ∧ (0 ≤ c4 ∧ c4 ≤ all)) → X 296 [xvr 0, xvi o, xvi q, xvi without, xvi all, xvi k, xvi i2, xvi z66, xvi c4, u69_9, u69_10] s8 := by
                                intro m296
                                induction m296 using Nat.strongRecOn with
                                | _ m296 ih_296 =>
                                intro c4 s8 hm_296 hv_296
                                obtain ⟨hF, h12, h14, hB, hv_296⟩ := hv_296
                                have hs2 : s8 2 = σ 2 := hF.1 2 (by decide) (by decide)
                                have hs10 : s8 10 = σ 10 := hF.1 10 (by decide) (by decide)
                                have hs11 : s8 11 = σ 11 := hF.1 11 (by decide) (by decide)
                                have hs33 : s8 0 33 = σ 0 33 := hF.2 33 (by decide)
                                have hp1s : s8 2 1 = σ 2 1 := by rw [hs2]
                                refine hX 400 296 _ _ ?_
                                refine And.intro (fun c72 => ?_) (fun c72 => ?_)
                                · intro z73 t73 e73 l73 h73
                                  try have w73 : t73 = 0 := by omega
                                  show xw _ _ _ _ _ _ _ _ _ _ [xvr 0, xvi o, xvi q, xvi without, xvi all, xvi k, xvi z73, xvi z66, xvi c4, u69_9, u69_10] _ _
                                  exact ih_95 _ (show (52 - z73).toNat < m95 from by omega) z73 (xvi z66) (xvi c4) (u69_9) (u69_10) s8 rfl ⟨hF, h12, (fun q hq => by rw [hB q (by omega)]; exact hN0 q hq), (by
                                              rw [sm_congr (g := s8 13) (g' := s6 14) (fun q hq => hB q (by omega)), show (onx o (σ 2) k.toNat).toNat + z73.toNat = (onx o (σ 2) k.toNat).toNat + i2.toNat + 1 from by omega]
                                              have z : e24 ((onx o (σ 2) k.toNat).toNat + i2.toNat + 1) = 24 * e24 ((onx o (σ 2) k.toNat).toNat + i2.toNat) := rfl
                                              rw [show all.toNat = c3.toNat from by omega] at hT hTs ⊢
                                              omega), by omega⟩
                                · refine And.intro (rfl) (And.intro (⟨by omega, by omega⟩) ?_)
                                  intro v74 e74 l74 h74
                                  have e74 : v74 = s8 14 c4.toNat := e74
                                  refine And.intro rfl (And.intro (⟨by omega, by omega⟩) ?_)
                                  have hF := hF.pt (t := 13) (j := c4.toNat) (v := v74) (by decide) (by decide)
                                  intro z76 t76 e76 l76 h76
                                  try have w76 : t76 = 0 := by omega
                                  show xw _ _ _ _ _ _ _ _ _ _ [xvr 0, xvi o, xvi q, xvi without, xvi all, xvi k, xvi i2, xvi z66, xvi z76, u69_9, u69_10] _ _
                                  exact ih_296 _ (show (15625 - z76).toNat < m296 from by omega) z76 (xput s8 13 c4.toNat v74) rfl ⟨hF, h12, h14, (fun q hq => by
                                                by_cases e : q = c4.toNat
                                                · rw [show q = c4.toNat from by omega, xput_s, e74, h14]
                                                · rw [xput_o (by omega)]; exact hB q (by omega)), by omega⟩
                              exact lp_296 _ 0 s6 rfl ⟨hF, h12, rfl, (fun j hj => by omega), by omega⟩
                            · refine And.intro (rfl) (And.intro (⟨by omega, by omega⟩) ?_)
                              intro v77 e77 l77 h77
                              have e77 : v77 = s6 13 c3.toNat := e77
                              have hwv77 : v77 = s4 13 c3.toNat := by rw [e77, h13]
                              have hw0v77 : 0 ≤ s4 13 c3.toNat := hP c3.toNat (by omega)
                              have hsm : sm (c3.toNat + 1) (s4 13) = sm c3.toNat (s4 13) + s4 13 c3.toNat := rfl
                              have hmo := sm_mono (n := c3.toNat + 1) (m := all.toNat) (g := s4 13) (fun q hq => hP q (by omega)) (by omega)
                              have hm0 := sm_nn (n := c3.toNat) (g := s4 13) (fun q hq => hP q (by omega))
                              intro z78 a78 b78 c78 l78 h78
                              refine And.intro (fun c79 => ?_) (fun c79 => ?_)
                              · refine And.intro (Nat.le_of_ble_eq_true rfl) ?_
                                show xw _ _ _ _ _ _ _ _ _ _ [xvr 0, xvi o, xvi q, xvi without, xvi all, xvi k, xvi i2, xvi z66, xvi c3, xvi 0, u69_10] _ _
                                have lp_196 : ∀ (m196 : Nat) (j : Int) (u80_10 : xV) (s7 : xS), ((6 - j).toNat) = m196 → (Fr [12, 13, 14] [] σ s7 ∧ s7 12 = s1 12 ∧ s7 13 = s4 13 ∧ (∀ j : Nat, (j : Int) < all → 0 ≤ s7 14 j) ∧ sm all.toNat (s7 14) ≤ 24 * sm c3.toNat (s4 13) + 4 * (j * s4 13 c3.toNat) ∧ (0 ≤ j ∧ j ≤ σ 0 33)) → X 196 [xvr 0, xvi o, xvi q, xvi without, xvi all, xvi k, xvi i2, xvi z66, xvi c3, xvi j, u80_10] s7 := by
                                  intro m196
                                  induction m196 using Nat.strongRecOn with
                                  | _ m196 ih_196 =>
                                  intro j u80_10 s7 hm_196 hv_196
                                  obtain ⟨hF, h12, h13, hN0, hT, hv_196⟩ := hv_196
                                  have hs2 : s7 2 = σ 2 := hF.1 2 (by decide) (by decide)
                                  have hs10 : s7 10 = σ 10 := hF.1 10 (by decide) (by decide)
                                  have hs11 : s7 11 = σ 11 := hF.1 11 (by decide) (by decide)
                                  have hs33 : s7 0 33 = σ 0 33 := hF.2 33 (by decide)
                                  have hp1s : s7 2 1 = σ 2 1 := by rw [hs2]
                                  refine hX 400 196 _ _ ?_
                                  intro v81 e81 l81 h81
                                  have e81 : v81 = s7 0 33 := e81
                                  refine And.intro (fun c82 => ?_) (fun c82 => ?_)
                                  · refine hX 400 287 _ _ ?_
                                    intro z83 t83 e83 l83 h83
                                    try have w83 : t83 = 0 := by omega
                                    show xw _ _ _ _ _ _ _ _ _ _ [xvr 0, xvi o, xvi q, xvi without, xvi all, xvi k, xvi i2, xvi z66, xvi z83, xvi j, u80_10] _ _
                                    exact ih_171 _ (show (15625 - z83).toNat < m171 from by omega) z83 (xvi j) (u80_10) s7 rfl ⟨hF, h12, h13, hN0, (by rw [show z83.toNat = c3.toNat + 1 from by omega, hsm]; have z := mul6 (w := s4 13 c3.toNat) (m := j) (by omega) (by omega) (by omega); omega), by omega⟩
                                  · refine And.intro (rfl) (And.intro (⟨by omega, by omega⟩) ?_)
                                    intro v84 e84 l84 h84
                                    have e84 : v84 = s7 11 j.toNat := e84
                                    have hkv84 := hL.2.1 j.toNat (by omega)
                                    rw [← hs11, show j.toNat = j.toNat from rfl, ← e84] at hkv84
                                    refine And.intro (rfl) (And.intro (⟨by omega, by omega⟩) ?_)
                                    intro v85 e85 l85 h85
                                    have e85 : v85 = s7 10 v84.toNat := e85
                                    have hlv85 : v85 = σ 10 v84.toNat := by rw [e85, hs10]
                                    refine And.intro (rfl) (And.intro (⟨by omega, by omega⟩) ?_)
                                    intro v86 e86 l86 h86
                                    have e86 : v86 = s7 12 j.toNat := e86
                                    have hsv86 : v86 = f5 j.toNat := by rw [e86, h12]; exact hst _ (by omega)
                                    have hspv86 := f5_p (n := j.toNat)
                                    refine s_digitE (σ := s7) (code := c3) (by_ := v86) (by omega) (fun r87 p87 => ?_)
                                    rw [hsv86] at p87
                                    have pb87 := Int.emod_nonneg (c3 / f5 j.toNat) (b := 5) (by omega)
                                    intro z88 t88 e88 l88 h88
                                    try have w88 : t88 = 0 := by omega
                                    refine And.intro (Nat.le_of_ble_eq_true rfl) ?_
                                    show xw _ _ _ _ _ _ _ _ _ _ [xvr 0, xvi o, xvi q, xvi without, xvi all, xvi k, xvi i2, xvi z66, xvi c3, xvi j, xvi z88] _ _
                                    refine And.intro (fun c89 => ?_) (fun c89 => ?_)
                                    · refine hX 400 281 _ _ ?_
                                      intro z90 t90 e90 l90 h90
                                      try have w90 : t90 = 0 := by omega
                                      show xw _ _ _ _ _ _ _ _ _ _ [xvr 0, xvi o, xvi q, xvi without, xvi all, xvi k, xvi i2, xvi z66, xvi c3, xvi z90, xvi z88] _ _
                                      exact ih_196 _ (show (6 - z90).toNat < m196 from by omega) z90 (xvi z88) s7 rfl ⟨hF, h12, h13, hN0, (by have z := Int.add_mul j 1 (s4 13 c3.toNat); rw [Int.one_mul] at z; rw [show z90 = j + 1 from by omega]; omega), by omega⟩
                                    · refine And.intro (rfl) (And.intro (⟨by omega, by omega⟩) ?_)
                                      intro v91 e91 l91 h91
                                      have e91 : v91 = s7 11 j.toNat := e91
                                      have hkv91 := hL.2.1 j.toNat (by omega)
                                      rw [← hs11, show j.toNat = j.toNat from rfl, ← e91] at hkv91
                                      refine s_bitOf (σ := s7) (set := z66) (k := v91)  (fun r92 p92 => ?_)
                                      have p92 : r92 = 0 ∨ r92 = 1 := p92
                                      refine And.intro (fun c93 => ?_) (fun c93 => ?_)
                                      · refine hX 400 281 _ _ ?_
                                        intro z94 t94 e94 l94 h94
                                        try have w94 : t94 = 0 := by omega
                                        show xw _ _ _ _ _ _ _ _ _ _ [xvr 0, xvi o, xvi q, xvi without, xvi all, xvi k, xvi i2, xvi z66, xvi c3, xvi z94, xvi z88] _ _
                                        exact ih_196 _ (show (6 - z94).toNat < m196 from by omega) z94 (xvi z88) s7 rfl ⟨hF, h12, h13, hN0, (by have z := Int.add_mul j 1 (s4 13 c3.toNat); rw [Int.one_mul] at z; rw [show z94 = j + 1 from by omega]; omega), by omega⟩
                                      · have hok : c3 + f5 j.toNat < all := by rw [hall]; exact f5_ok (j := j.toNat) (L := i.toNat) (by omega) (by omega) (by omega) (by omega) (by rw [← p87]; omega)
                                        refine And.intro (rfl) (And.intro (⟨by omega, by omega⟩) ?_)
                                        intro v95 e95 l95 h95
                                        have e95 : v95 = s7 12 j.toNat := e95
                                        have hsv95 : v95 = f5 j.toNat := by rw [e95, h12]; exact hst _ (by omega)
                                        have hspv95 := f5_p (n := j.toNat)
                                        intro z96 t96 e96 l96 h96
                                        try have w96 : t96 = 0 := by omega
                                        refine And.intro (rfl) (And.intro (⟨by omega, by omega⟩) ?_)
                                        intro v97 e97 l97 h97
                                        have e97 : v97 = s7 14 z96.toNat := e97
                                        have hnv97 := hN0 z96.toNat (by omega)
                                        have hgv97 := sm_ge (n := all.toNat) (g := s7 14) (fun q hq => hN0 q (by omega)) (j := z96.toNat) (by omega)
                                        rw [← e97] at hnv97 hgv97
                                        have z6 := mul6 (w := s4 13 c3.toNat) (m := j) (by omega) (by omega) (by omega)
                                        refine And.intro (rfl) (And.intro (⟨by omega, by omega⟩) ?_)
                                        intro v98 e98 l98 h98
                                        have e98 : v98 = s7 13 c3.toNat := e98
                                        have hw2 : v98 = s4 13 c3.toNat := by rw [e98, h13]
                                        have hmm := mul4 (w := v98) (m := z88) (by omega) (by omega) (by omega)
                                        intro z99 t99 e99 l99 h99
                                        try have w99 : t99 = 0 := by omega
                                        intro z100 t100 e100 l100 h100
                                        try have w100 : t100 = 0 := by omega
                                        refine And.intro rfl (And.intro (⟨by omega, by omega⟩) ?_)
                                        have hF := hF.pt (t := 14) (j := z96.toNat) (v := z100) (by decide) (by decide)
                                        refine hX 400 281 _ _ ?_
                                        intro z102 t102 e102 l102 h102
                                        try have w102 : t102 = 0 := by omega
                                        show xw _ _ _ _ _ _ _ _ _ _ [xvr 0, xvi o, xvi q, xvi without, xvi all, xvi k, xvi i2, xvi z66, xvi c3, xvi z102, xvi z88] _ _
                                        exact ih_196 _ (show (6 - z102).toNat < m196 from by omega) z102 (xvi z88) (xput s7 14 z96.toNat z100) rfl ⟨hF, h12, h13, (fun q hq => by
                                                            by_cases e : q = z96.toNat
                                                            · rw [e, xput_s]; omega
                                                            · rw [xput_o e]; exact hN0 q hq), (by
                                                            have z := Int.add_mul j 1 (s4 13 c3.toNat); rw [Int.one_mul] at z; rw [show z102 = j + 1 from by omega]
                                                            have zz := sm_put (n := all.toNat) (j := z96.toNat) (f := s7 14) (f' := xput s7 14 z96.toNat z100 14) (v := v98 * z88) (by omega) (by rw [xput_s]; omega) (fun q hq => xput_o hq)
                                                            rw [zz]; omega), by omega⟩
                                exact lp_196 _ 0 (u69_10) s6 rfl ⟨hF, h12, h13, hN0, (by rw [Int.zero_mul]; omega), by omega⟩
                              · refine hX 400 287 _ _ ?_
                                intro z103 t103 e103 l103 h103
                                try have w103 : t103 = 0 := by omega
                                show xw _ _ _ _ _ _ _ _ _ _ [xvr 0, xvi o, xvi q, xvi without, xvi all, xvi k, xvi i2, xvi z66, xvi z103, u69_9, u69_10] _ _
                                exact ih_171 _ (show (15625 - z103).toNat < m171 from by omega) z103 (u69_9) (u69_10) s6 rfl ⟨hF, h12, h13, hN0, (by rw [show z103.toNat = c3.toNat + 1 from by omega, hsm]; omega), by omega⟩
                          exact lp_171 _ 0 (u15_9) (u15_10) s5 rfl ⟨hF, h12, h13, (fun q hq => by rw [hB q (by omega)]; omega), (by rw [sm_z (n := all.toNat) (g := s5 14) (fun q hq => hB q (by omega))]; exact Int.le_refl _), by omega⟩
                        · refine And.intro rfl (And.intro (⟨by omega, by omega⟩) ?_)
                          have hF := hF.pt (t := 14) (j := c2.toNat) (v := 0) (by decide) (by decide)
                          intro z105 t105 e105 l105 h105
                          try have w105 : t105 = 0 := by omega
                          show xw _ _ _ _ _ _ _ _ _ _ [xvr 0, xvi o, xvi q, xvi without, xvi all, xvi k, xvi i2, xvi z66, xvi z105, u15_9, u15_10] _ _
                          exact ih_147 _ (show (15625 - z105).toNat < m147 from by omega) z105 (xput s5 14 c2.toNat 0) rfl ⟨hF, h12, h13, (fun q hq => by
                                        by_cases e : q = c2.toNat
                                        · rw [show q = c2.toNat from by omega, xput_s]
                                        · rw [xput_o (by omega)]; exact hB q (by omega)), by omega⟩
                      exact lp_147 _ 0 s4 rfl ⟨hF, h12, rfl, (fun j hj => by omega), by omega⟩
                exact lp_95 _ 0 (u6_7) (u6_8) (u6_9) (u6_10) s3 rfl ⟨hF, h12, hP, hT, (by have := hoth k.toNat (by omega); omega)⟩
              · refine hX 400 329 _ _ ?_
                intro z106 t106 e106 l106 h106
                try have w106 : t106 = 0 := by omega
                show xw _ _ _ _ _ _ _ _ _ _ [xvr 0, xvi o, xvi q, xvi without, xvi all, xvi z106, u6_6, u6_7, u6_8, u6_9, u6_10] _ _
                exact ih_72 _ (show (6 - z106).toNat < m72 from by omega) z106 (u6_6) (u6_7) (u6_8) (u6_9) (u6_10) s3 rfl ⟨hF, h12, hP, (by rw [show z106.toNat = k.toNat + 1 from by omega, onx_s, if_pos (by omega), Int.add_zero]; exact hT), by omega⟩
          exact lp_72 _ 0 (xvu) (xvu) (xvu) (xvu) (xvu) s2 rfl ⟨hF, h12, (fun q hq => by rw [hB q (by omega)]; split <;> omega), (by
                have e0 := sm_upd (n := all.toNat) (g := fun _ => 0) (g' := s2 13) (j := 0) (by omega) (fun q hq hne => by rw [hB q (by omega), if_neg hne])
                rw [sm_z (n := all.toNat) (g := fun _ => 0) (fun _ _ => rfl), hB 0 (by omega), if_pos rfl] at e0
                rw [e0]; exact Int.le_refl _), by omega⟩
        · refine And.intro (fun c107 => ?_) (fun c107 => ?_)
          · refine And.intro rfl (And.intro (⟨by omega, by omega⟩) ?_)
            have hF := hF.pt (t := 13) (j := c.toNat) (v := 0) (by decide) (by decide)
            intro z109 t109 e109 l109 h109
            try have w109 : t109 = 0 := by omega
            show xw _ _ _ _ _ _ _ _ _ _ [xvr 0, xvi o, xvi q, xvi without, xvi all, xvi z109, xvu, xvu, xvu, xvu, xvu] _ _
            exact ih_39 _ (show (15625 - z109).toNat < m39 from by omega) z109 (xput s2 13 c.toNat 0) rfl ⟨hF, h12, (fun q hq => by
                      by_cases e : q = c.toNat
                      · rw [show q = c.toNat from by omega, xput_s]; first | rw [if_pos (by omega)] | rw [if_neg (by omega)]
                      · rw [xput_o (by omega)]; exact hB q (by omega)), by omega⟩
          · refine And.intro rfl (And.intro (⟨by omega, by omega⟩) ?_)
            have hF := hF.pt (t := 13) (j := c.toNat) (v := 1) (by decide) (by decide)
            intro z111 t111 e111 l111 h111
            try have w111 : t111 = 0 := by omega
            show xw _ _ _ _ _ _ _ _ _ _ [xvr 0, xvi o, xvi q, xvi without, xvi all, xvi z111, xvu, xvu, xvu, xvu, xvu] _ _
            exact ih_39 _ (show (15625 - z111).toNat < m39 from by omega) z111 (xput s2 13 c.toNat 1) rfl ⟨hF, h12, (fun q hq => by
                      by_cases e : q = c.toNat
                      · rw [show q = c.toNat from by omega, xput_s]; first | rw [if_pos (by omega)] | rw [if_neg (by omega)]
                      · rw [xput_o (by omega)]; exact hB q (by omega)), by omega⟩
      exact lp_39 _ 0 s1 rfl ⟨hF, rfl, (fun j hj => by omega), by omega⟩
    · refine And.intro (rfl) (And.intro (⟨by omega, by omega⟩) ?_)
      have hF := hF.pt (t := 12) (j := i.toNat) (v := all) (by decide) (by decide)
      intro z113 t113 e113 l113 h113
      try have w113 : t113 = 0 := by omega
      refine And.intro (Nat.le_of_ble_eq_true rfl) ?_
      show xw _ _ _ _ _ _ _ _ _ _ [xvr 0, xvi o, xvi q, xvi without, xvi z113, xvi i, xvu, xvu, xvu, xvu, xvu] _ _
      intro z114 t114 e114 l114 h114
      try have w114 : t114 = 0 := by omega
      show xw _ _ _ _ _ _ _ _ _ _ [xvr 0, xvi o, xvi q, xvi without, xvi z113, xvi z114, xvu, xvu, xvu, xvu, xvu] _ _
      exact ih_6 _ (show (6 - z114).toNat < m6 from by omega) z113 z114 (xput s1 12 i.toNat all) rfl ⟨hF, by omega, (by rw [show z114.toNat = i.toNat + 1 from by omega]; show z113 = 5 * f5 i.toNat; omega), (fun q hq => by
              by_cases e : q = i.toNat
              · rw [show q = i.toNat from by omega, xput_s, hall]
              · rw [xput_o (by omega)]; exact hst q (by omega))⟩
  exact lp_6 _ 1 0 σ rfl ⟨hF, by omega, rfl, (fun j hj => by omega)⟩
