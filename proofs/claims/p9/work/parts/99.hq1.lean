set_option maxHeartbeats 4000000 in
set_option maxRecDepth 100000 in
theorem sX2_dealOutG {f : Nat → Int} {σ : xS} {n seed : Int} {Q : Option xV → xS → Prop} (hp0 : ∀ i, i < 4 → σ 0 i = f i) (hp1 : 1 ≤ f 0 ∧ f 0 ≤ 13) (hp2 : 1 ≤ f 1 ∧ f 1 ≤ 6) (hp3 : 0 ≤ f 3 ∧ f 3 ≤ 9) (hp4 : 1 ≤ n ∧ n ≤ 9) (hp5 : n * f 1 ≤ 4 * f 0) (hQ : ∀ σ' : xS, Fr [2, 3, 4] [8, 9] σ σ' → (G0 σ' (dlF f n seed)) → Q none σ') : xT kX2_dealOut [xvr 0, xvi n, xvi seed] σ Q := by
  refine ⟨Nat.le_of_ble_eq_true rfl, fun X hX => ?_⟩
  show X 0 [xvr 0, xvi n, xvi seed, xvu, xvu, xvu, xvu] σ
  have hF : Fr [2, 3, 4] [8, 9] σ σ := Fr.rf
  refine hX 400 0 _ _ ?_
  have hSv := SHf_v (K := f 0) (seed := seed) hp1.1
  have hmp : 0 < n * f 1 := Int.mul_pos (by omega) (by omega)
  have hcm : f 1 * n = n * f 1 := Int.mul_comm _ _
  refine sX2_takeCardsAwayF (σ := σ) (fun σ1 f1 p1 => ?_)
  have hF := hF.tr f1 (by decide) (by decide)
  refine And.intro (Nat.le_of_ble_eq_true rfl) ?_
  show xw _ _ _ _ _ _ _ _ _ _ [xvr 0, xvi n, xvi seed, xvi 0, xvu, xvu, xvu] _ _
  have lp_6 : ∀ (m6 : Nat) (kd : Int) (u2_4 : xV) (s1 : xS), ((13 - kd).toNat) = m6 → (Fr [2, 3, 4] [8, 9] σ s1 ∧ ((∀ i : Nat, i < 78 → s1 2 i = 0) ∧ (∀ i : Nat, i < 6 → s1 3 i = 0) ∧ s1 0 8 = 0) ∧ (∀ q : Nat, (q : Int) < 4 * kd → s1 4 q = pk0 q) ∧ (s1 0 9 = 4 * kd ∧ 0 ≤ kd ∧ kd ≤ f 0)) → X 6 [xvr 0, xvi n, xvi seed, xvi kd, u2_4, xvu, xvu] s1 := by
    intro m6
    induction m6 using Nat.strongRecOn with
    | _ m6 ih_6 =>
    intro kd u2_4 s1 hm_6 hv_6
    obtain ⟨hF, hZ, hP, hv_6⟩ := hv_6
    have r0 : s1 0 0 = f 0 := (hF.2 0 (by decide)).trans (hp0 0 (by decide))
    refine hX 400 6 _ _ ?_
    intro v3 e3 l3 h3
    have e3 : v3 = s1 0 0 := e3
    refine And.intro (fun c4 => ?_) (fun c4 => ?_)
    · refine And.intro (Nat.le_of_ble_eq_true rfl) ?_
      show xw _ _ _ _ _ _ _ _ _ _ [xvr 0, xvi n, xvi seed, xvi seed, u2_4, xvu, xvu] _ _
      intro v5 e5 l5 h5
      have e5 : v5 = s1 0 9 := e5
      intro z6 t6 e6 l6 h6
      try have w6 : t6 = 0 := by omega
      refine And.intro (Nat.le_of_ble_eq_true rfl) ?_
      show xw _ _ _ _ _ _ _ _ _ _ [xvr 0, xvi n, xvi seed, xvi seed, xvi z6, xvu, xvu] _ _
      have lp_50 : ∀ (m50 : Nat) (x : Int) (i2 : Int) (u7_5 : xV) (u7_6 : xV) (s3 : xS), ((i2 + 1).toNat) = m50 → (Fr [2, 3, 4] [8, 9] σ s3 ∧ ((∀ i : Nat, i < 78 → s3 2 i = 0) ∧ (∀ i : Nat, i < 6 → s3 3 i = 0) ∧ s3 0 8 = 0) ∧ (∃ h : Nat → Int, shu h x i2.toNat = (SHf (f 0) seed) ∧ AGn (s3 4) h (4 * f 0)) ∧ (s3 0 9 = 4 * f 0 ∧ 0 ≤ i2 ∧ i2 < 4 * f 0)) → X 50 [xvr 0, xvi n, xvi seed, xvi x, xvi i2, u7_5, u7_6] s3 := by
        intro m50
        induction m50 using Nat.strongRecOn with
        | _ m50 ih_50 =>
        intro x i2 u7_5 u7_6 s3 hm_50 hv_50
        obtain ⟨hF, hZ, ⟨h, hSH, hA⟩, hv_50⟩ := hv_50
        refine hX 400 50 _ _ ?_
        refine And.intro (fun c8 => ?_) (fun c8 => ?_)
        · refine And.intro (Nat.le_of_ble_eq_true rfl) ?_
          show xw _ _ _ _ _ _ _ _ _ _ [xvr 0, xvi n, xvi seed, xvi x, xvi 0, u7_5, u7_6] _ _
          have lp_117 : ∀ (m117 : Nat) (p : Int) (u9_5 : xV) (u9_6 : xV) (s4 : xS), ((6 - p).toNat) = m117 → (Fr [2, 3, 4] [8, 9] σ s4 ∧ DRx s4 f (SHf (f 0) seed) n (p * n) ∧ s4 0 1 = f 1 ∧ (0 ≤ p ∧ p ≤ f 1)) → X 117 [xvr 0, xvi n, xvi seed, xvi x, xvi p, u9_5, u9_6] s4 := by
            intro m117
            induction m117 using Nat.strongRecOn with
            | _ m117 ih_117 =>
            intro p u9_5 u9_6 s4 hm_117 hv_117
            obtain ⟨hF, hR, hk1, hv_117⟩ := hv_117
            refine hX 400 117 _ _ ?_
            intro v10 e10 l10 h10
            have e10 : v10 = s4 0 1 := e10
            refine And.intro (fun c11 => ?_) (fun c11 => ?_)
            · refine And.intro rfl (And.intro rfl ?_)
              have hpP : p * n = n * f 1 := by rw [show p = f 1 from by omega]; exact hcm
              exact hQ _ hF (DRx.g0 hp1 hp2 hp3 hp4 hp5 (fun i hi => (hF.2 i (by simp; omega)).trans (hp0 i hi)) (by rw [← hpP]; exact hR))
            · refine And.intro (Nat.le_of_ble_eq_true rfl) ?_
              show xw _ _ _ _ _ _ _ _ _ _ [xvr 0, xvi n, xvi seed, xvi x, xvi p, xvi 0, u9_6] _ _
              have lp_129 : ∀ (m129 : Nat) (i : Int) (u12_6 : xV) (s5 : xS), ((9 - i).toNat) = m129 → (Fr [2, 3, 4] [8, 9] σ s5 ∧ DRx s5 f (SHf (f 0) seed) n (p * n + i) ∧ s5 0 1 = f 1 ∧ (0 ≤ i ∧ i ≤ n)) → X 129 [xvr 0, xvi n, xvi seed, xvi x, xvi p, xvi i, u12_6] s5 := by
                intro m129
                induction m129 using Nat.strongRecOn with
                | _ m129 ih_129 =>
                intro i u12_6 s5 hm_129 hv_129
                obtain ⟨hF, hR, hk1, hv_129⟩ := hv_129
                have hm8 := hR.2.2.1
                have hm9 := hR.2.2.2.1
                have hmul : (p + 1) * n ≤ f 1 * n := Int.mul_le_mul_of_nonneg_right (by omega) (by omega)
                rw [Int.add_mul, Int.one_mul] at hmul
                have hp0n : 0 ≤ p * n := Int.mul_nonneg (by omega) (by omega)
                refine hX 400 129 _ _ ?_
                refine And.intro (fun c13 => ?_) (fun c13 => ?_)
                · refine hX 400 178 _ _ ?_
                  intro z14 t14 e14 l14 h14
                  try have w14 : t14 = 0 := by omega
                  show xw _ _ _ _ _ _ _ _ _ _ [xvr 0, xvi n, xvi seed, xvi x, xvi z14, xvi i, u12_6] _ _
                  exact ih_117 _ (show (6 - z14).toNat < m117 from by omega) z14 (xvi i) (u12_6) s5 rfl ⟨hF, (by rw [show z14 * n = p * n + i from by (rw [show z14 = p + 1 from by omega, Int.add_mul, Int.one_mul]; omega)]; exact hR), hk1, by omega⟩
                · intro v15 e15 l15 h15
                  have e15 : v15 = s5 0 8 := e15
                  intro v16 e16 l16 h16
                  have e16 : v16 = s5 0 9 := e16
                  refine And.intro (fun c17 => ?_) (fun c17 => ?_)
                  · refine hX 400 178 _ _ ?_
                    intro z18 t18 e18 l18 h18
                    try have w18 : t18 = 0 := by omega
                    show xw _ _ _ _ _ _ _ _ _ _ [xvr 0, xvi n, xvi seed, xvi x, xvi z18, xvi i, u12_6] _ _
                    exact ih_117 _ (show (6 - z18).toNat < m117 from by omega) z18 (xvi i) (u12_6) s5 rfl ⟨hF, (by rw [show z18 * n = p * n + i from by (rw [show z18 = p + 1 from by omega, Int.add_mul, Int.one_mul]; omega)]; exact hR), hk1, by omega⟩
                  · intro v19 e19 l19 h19
                    have e19 : v19 = s5 0 8 := e19
                    refine And.intro (rfl) (And.intro (⟨by omega, by omega⟩) ?_)
                    intro v20 e20 l20 h20
                    have e20 : v20 = s5 4 v19.toNat := e20
                    have hcS : v20 = (SHf (f 0) seed) (p * n + i).toNat := by
                      have y := hR.2.2.2.2 (p * n + i).toNat (by omega)
                      rw [← y]
                      first
                        | omega
                        | (rw [e20]; congr 1; omega)
                    have hcr := hSv.1 (p * n + i).toNat (by omega)
                    obtain ⟨dv1, dv2, _⟩ := dlN_v (f := f) (S := (SHf (f 0) seed)) (n := n) hp1 hp2 hp3 hp4 hSv.1 (p * n + i).toNat (by omega)
                    have hbb := dv1.b (n := (4 * f 0).toNat) (by omega) (fun k hk => by rw [hSv.2 k hk]; split <;> omega) (p := p.toNat) (k := v20.toNat) (by omega) (by omega)
                    have hbb : 0 ≤ dlN f (SHf (f 0) seed) n (p * n + i).toNat (60 + 13 * p.toNat + v20.toNat) ∧ dlN f (SHf (f 0) seed) n (p * n + i).toNat (60 + 13 * p.toNat + v20.toNat) ≤ 4 := hbb
                    have hh2 : s5 2 (13 * p + v20).toNat = dlN f (SHf (f 0) seed) n (p * n + i).toNat (60 + 13 * p.toNat + v20.toNat) := by
                      rw [hR.1 _ (by omega), show 60 + (13 * p + v20).toNat = 60 + 13 * p.toNat + v20.toNat from by omega]
                    have hc3 : s5 3 p.toNat = cd (dlN f (SHf (f 0) seed) n (p * n + i).toNat) p.toNat := hR.2.1 p.toNat (by omega)
                    have hcl : 0 ≤ cd (dlN f (SHf (f 0) seed) n (p * n + i).toNat) p.toNat ∧ cd (dlN f (SHf (f 0) seed) n (p * n + i).toNat) p.toNat ≤ 52 := DLc dv1 (n := (4 * f 0).toNat) (by omega) (fun k hk => by rw [hSv.2 k hk]; split <;> omega) (by omega)
                    refine sX2_addToHandF (σ := s5) (p := p) (kind := v20) (n := 1) (by omega) (by omega) (by rw [hh2]; omega) (by rw [hc3]; omega) (fun σ21 f21 p21 => ?_)
                    have hF := hF.tr f21 (by decide) (by decide)
                    have hE : dlN f (SHf (f 0) seed) n ((p * n + i).toNat + 1) = up (dlN f (SHf (f 0) seed) n (p * n + i).toNat) (60 + 13 * p.toNat + v20.toNat) (dlN f (SHf (f 0) seed) n (p * n + i).toNat (60 + 13 * p.toNat + v20.toNat) + 1) := by
                      rw [dlN_s, if_pos (by omega), show (((p * n + i).toNat : Nat) : Int) = p * n + i from by omega, dvn (by omega), ← hcS]
                    have k0 : ∀ j, j ≠ 8 → σ21 0 j = s5 0 j := fun j hj => f21.2 j (by simp)
                    have k08 : σ21 0 8 = s5 0 8 := f21.2 8 (by decide)
                    have k4 : σ21 4 = s5 4 := f21.1 4 (by decide) (by decide)
                    have hR2 : (∀ j, j < 78 → σ21 2 j = dlN f (SHf (f 0) seed) n (p * n + i + 1).toNat (60 + j)) ∧ GC σ21 (dlN f (SHf (f 0) seed) n (p * n + i + 1).toNat) := by
                      rw [show (p * n + i + 1).toNat = (p * n + i).toNat + 1 from by omega, hE]
                      refine ⟨fun j hj => ?_, hR.2.1.up (p := p.toNat) (k := v20.toNat) (n := 1) (by omega) (by omega) (by rw [p21.2, up_s]) (fun q _ hq => by rw [p21.2, up_n hq]) up_s (fun i _ _ hi => up_n hi)⟩
                      rw [p21.1, hh2]
                      by_cases e : j = (13 * p + v20).toNat
                      · rw [e, up_s, show 60 + (13 * p + v20).toNat = 60 + 13 * p.toNat + v20.toNat from by omega, up_s]
                      · rw [up_n e, up_n (by omega)]; exact hR.1 j hj
                    intro v22 e22 l22 h22
                    have e22 : v22 = σ21 0 8 := e22
                    intro z23 t23 e23 l23 h23
                    try have w23 : t23 = 0 := by omega
                    have hF := hF.p (j := 8) (v := z23) (by decide)
                    intro z25 t25 e25 l25 h25
                    try have w25 : t25 = 0 := by omega
                    show xw _ _ _ _ _ _ _ _ _ _ [xvr 0, xvi n, xvi seed, xvi x, xvi p, xvi z25, u12_6] _ _
                    exact ih_129 _ (show (9 - z25).toNat < m129 from by omega) z25 (u12_6) (xput σ21 0 8 z23) rfl ⟨hF, ⟨(by rw [show p * n + z25 = p * n + i + 1 from by omega]; exact hR2.1), (by rw [show p * n + z25 = p * n + i + 1 from by omega]; exact hR2.2.of (fun _ _ => rfl) (fun _ _ _ => rfl)), (show z23 = p * n + z25 from by omega), (show σ21 0 9 = 4 * f 0 from (k0 9 (by decide)).trans hR.2.2.2.1), (by show AGn (σ21 4) _ _; rw [k4]; exact hR.2.2.2.2)⟩, (show σ21 0 1 = f 1 from (k0 1 (by decide)).trans hk1), by omega⟩
              exact lp_129 _ 0 (u9_6) s4 rfl ⟨hF, (by rw [Int.add_zero]; exact hR), hk1, by omega⟩
          exact lp_117 _ 0 (u7_5) (u7_6) s3 rfl ⟨hF, (by
                rw [show (0 : Int) * n = 0 from Int.zero_mul n]
                refine ⟨fun j hj => ?_, fun q hq => ?_, hZ.2.2, hv_50.1, ?_⟩
                · rw [hZ.1 j hj]; show 0 = dl0 f (60 + j); unfold dl0; rw [if_neg (by omega), if_pos (by omega)]
                · rw [hZ.2.1 q hq]; show 0 = sm 13 (hd (dl0 f) q); rw [sm_congr (g' := fun _ => (0 : Int)) (fun i hi => by unfold hd dl0; rw [if_neg (by omega), if_pos (by omega)])]; decide
                · rw [show i2.toNat = 0 from by omega] at hSH; rw [← hSH]; exact hA), (show s3 0 1 = f 1 from (hF.2 1 (by decide)).trans (hp0 1 (by decide))), by omega⟩
        · intro z26 t26 e26 l26 h26
          try have w26 : t26 = 0 := by omega
          -- step
          intro z27 t27 e27 l27 h27
          try have w27 : t27 = 0 := by omega
          have hnx : z27 = nxs x := by unfold nxs wr; omega
          clear e27 l27 h27 e26 l26 h26
          refine And.intro (Nat.le_of_ble_eq_true rfl) ?_
          show xw _ _ _ _ _ _ _ _ _ _ [xvr 0, xvi n, xvi seed, xvi z27, xvi i2, u7_5, u7_6] _ _
          intro z28 e28 l28 h28
          intro z29 t29 e29 l29 h29
          try have w29 : t29 = 0 := by omega
          have hu0 : 0 ≤ z28 := by rw [e28]; exact xush8 _
          have hue : z28 = us8 (nxs x) := by rw [← hnx, e28]; rfl
          refine And.intro (by omega) ?_
          intro z30 e30 f30 l30 h30
          replace f30 := f30 (by omega) (by omega)
          have g30 := Int.emod_nonneg z28 (b := z29) (by omega); have k30 := Int.emod_lt_of_pos z28 (b := z29) (by omega); rw [← f30] at g30 k30
          refine And.intro (Nat.le_of_ble_eq_true rfl) ?_
          show xw _ _ _ _ _ _ _ _ _ _ [xvr 0, xvi n, xvi seed, xvi z27, xvi i2, xvi z30, u7_6] _ _
          have hj : z30 = us8 (nxs x) % ((i2.toNat - 1 : Nat) + 2 : Int) := by
            rw [← hue, show ((i2.toNat - 1 : Nat) + 2 : Int) = i2 + 1 from by omega]
            have y := f30
            first
              | exact y
              | (rw [y]; congr 1; omega)
          have hj0 := Int.emod_nonneg (us8 (nxs x)) (show ((i2.toNat - 1 : Nat) + 2 : Int) ≠ 0 by omega)
          have hj1 := Int.emod_lt_of_pos (us8 (nxs x)) (show 0 < ((i2.toNat - 1 : Nat) + 2 : Int) by omega)
          rw [← hj] at hj0 hj1
          refine And.intro (rfl) (And.intro (⟨by omega, by omega⟩) ?_)
          intro v31 e31 l31 h31
          have e31 : v31 = s3 4 i2.toNat := e31
          refine And.intro (Nat.le_of_ble_eq_true rfl) ?_
          show xw _ _ _ _ _ _ _ _ _ _ [xvr 0, xvi n, xvi seed, xvi z27, xvi i2, xvi z30, xvi v31] _ _
          refine And.intro (rfl) (And.intro (⟨by omega, by omega⟩) ?_)
          intro v32 e32 l32 h32
          have e32 : v32 = s3 4 z30.toNat := e32
          refine And.intro (rfl) (And.intro (⟨by omega, by omega⟩) ?_)
          have hF := hF.pt (t := 4) (j := i2.toNat) (v := v32) (by decide) (by decide)
          refine And.intro (rfl) (And.intro (⟨by omega, by omega⟩) ?_)
          have hF := hF.pt (t := 4) (j := z30.toNat) (v := v31) (by decide) (by decide)
          intro z35 t35 e35 l35 h35
          try have w35 : t35 = 0 := by omega
          show xw _ _ _ _ _ _ _ _ _ _ [xvr 0, xvi n, xvi seed, xvi z27, xvi z35, xvi z30, xvi v31] _ _
          exact ih_50 _ (show (z35 + 1).toNat < m50 from by omega) z27 z35 (xvi z30) (xvi v31) (xput (xput s3 4 i2.toNat v32) 4 z30.toNat v31) rfl ⟨hF, ⟨fun i hi => hZ.1 i hi, fun i hi => hZ.2.1 i hi, hZ.2.2⟩, ⟨swp h i2.toNat z30.toNat, (by
                      rw [← hSH, show i2.toNat = (i2.toNat - 1) + 1 from by omega, shu_s, ← hj, show z35.toNat = i2.toNat - 1 from by omega, show i2.toNat - 1 + 1 = i2.toNat from by omega, hnx]), (fun q hq => by
                        have y := AGn.swq (i := i2.toNat) (j := z30.toNat) hA (by omega) (by omega) q hq
                        rw [← y]
                        show xput (xput s3 4 i2.toNat v32) 4 z30.toNat v31 4 q = up (up (s3 4) i2.toNat (s3 4 z30.toNat)) z30.toNat (s3 4 i2.toNat) q
                        rw [xput_up, xput_up, show v32 = s3 4 z30.toNat from e32, show v31 = s3 4 i2.toNat from e31])⟩, (show s3 0 9 = 4 * f 0 ∧ 0 ≤ z35 ∧ z35 < 4 * f 0 from by omega)⟩
      exact lp_50 _ seed z6 (xvu) (xvu) s1 rfl ⟨hF, hZ, ⟨pk0, (by rw [show z6.toNat = (4 * f 0 - 1).toNat from by omega]; rfl), (fun q hq => hP q (by omega))⟩, by omega⟩
    · refine And.intro (Nat.le_of_ble_eq_true rfl) ?_
      show xw _ _ _ _ _ _ _ _ _ _ [xvr 0, xvi n, xvi seed, xvi kd, xvi 0, xvu, xvu] _ _
      have lp_17 : ∀ (m17 : Nat) (i : Int) (s2 : xS), ((4 - i).toNat) = m17 → (Fr [2, 3, 4] [8, 9] σ s2 ∧ ((∀ i : Nat, i < 78 → s2 2 i = 0) ∧ (∀ i : Nat, i < 6 → s2 3 i = 0) ∧ s2 0 8 = 0) ∧ (∀ q : Nat, (q : Int) < 4 * kd + i → s2 4 q = pk0 q) ∧ (s2 0 9 = 4 * kd + i ∧ 0 ≤ i ∧ i ≤ 4)) → X 17 [xvr 0, xvi n, xvi seed, xvi kd, xvi i, xvu, xvu] s2 := by
        intro m17
        induction m17 using Nat.strongRecOn with
        | _ m17 ih_17 =>
        intro i s2 hm_17 hv_17
        obtain ⟨hF, hZ, hP, hv_17⟩ := hv_17
        refine hX 400 17 _ _ ?_
        refine And.intro (fun c37 => ?_) (fun c37 => ?_)
        · intro z38 t38 e38 l38 h38
          try have w38 : t38 = 0 := by omega
          show xw _ _ _ _ _ _ _ _ _ _ [xvr 0, xvi n, xvi seed, xvi z38, xvi i, xvu, xvu] _ _
          exact ih_6 _ (show (13 - z38).toNat < m6 from by omega) z38 (xvi i) s2 rfl ⟨hF, hZ, (fun q hq => hP q (by omega)), by omega⟩
        · refine sX2_addToHeap (σ := s2) (kind := kd) (by omega) (fun σ39 f39 p39 => ?_)
          have hF := hF.tr f39 (by decide) (by decide)
          have pa : σ39 0 9 = s2 0 9 + 1 ∧ σ39 4 = up (s2 4) (s2 0 9).toNat kd := by
            rcases p39 with q | q
            · exact q.2
            · exfalso; omega
          have k2 : σ39 2 = s2 2 := f39.1 2 (by decide) (by decide)
          have k3 : σ39 3 = s2 3 := f39.1 3 (by decide) (by decide)
          have k8 : σ39 0 8 = s2 0 8 := f39.2 8 (by decide)
          have q0 : σ39 0 0 = s2 0 0 := f39.2 0 (by decide)
          intro z40 t40 e40 l40 h40
          try have w40 : t40 = 0 := by omega
          show xw _ _ _ _ _ _ _ _ _ _ [xvr 0, xvi n, xvi seed, xvi kd, xvi z40, xvu, xvu] _ _
          exact ih_17 _ (show (4 - z40).toNat < m17 from by omega) z40 σ39 rfl ⟨hF, ⟨by rw [k2]; exact hZ.1, by rw [k3]; exact hZ.2.1, by rw [k8]; exact hZ.2.2⟩, (fun q hq => by
                        rw [pa.2]
                        by_cases e : q = (s2 0 9).toNat
                        · rw [e, up_s]; show kd = (((s2 0 9).toNat / 4 : Nat) : Int); omega
                        · rw [up_n e]; exact hP q (by omega)), by omega⟩
      exact lp_17 _ 0 s1 rfl ⟨hF, hZ, (fun q hq => hP q (by omega)), by omega⟩
  exact lp_6 _ 0 (xvu) σ1 rfl ⟨hF, ⟨p1.1, p1.2.1, p1.2.2.1⟩, (fun q hq => by omega), by have := p1.2.2.2; omega⟩

