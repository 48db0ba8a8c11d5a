set_option maxHeartbeats 4000000 in
set_option maxRecDepth 100000 in
theorem s_sum18 {σ : xS} {Q : Option xV → xS → Prop} (hp0 : ∀ k, k < 3 → 0 ≤ σ 18 k ∧ σ 18 k ≤ 4) (hQ : ∀ r : Int, (r = σ 18 0 + σ 18 1 + σ 18 2) → Q (some (xvi r)) σ) : xT kX11_sumOf [xvr 18] σ Q := by
  refine ⟨Nat.le_of_ble_eq_true rfl, fun X hX => ?_⟩
  show X 0 [xvr 18] σ
  have a0 := hp0 0 (by omega); have a1 := hp0 1 (by omega); have a2 := hp0 2 (by omega)
  refine hX 400 0 _ _ ?_
  refine And.intro (rfl) (And.intro (⟨by omega, by omega⟩) ?_)
  intro v1 e1 l1 h1
  have e1 : v1 = σ 18 0 := e1
  refine And.intro (rfl) (And.intro (⟨by omega, by omega⟩) ?_)
  intro v2 e2 l2 h2
  have e2 : v2 = σ 18 1 := e2
  intro z3 t3 e3 l3 h3
  try have w3 : t3 = 0 := by omega
  refine And.intro (rfl) (And.intro (⟨by omega, by omega⟩) ?_)
  intro v4 e4 l4 h4
  have e4 : v4 = σ 18 2 := e4
  intro z5 t5 e5 l5 h5
  try have w5 : t5 = 0 := by omega
  refine And.intro rfl ?_
  exact hQ _ (by omega)
set_option maxHeartbeats 4000000 in
set_option maxRecDepth 100000 in
theorem s_laid18 {σ : xS} {k : Int} {Q : Option xV → xS → Prop} (hp0 : 0 ≤ k ∧ k ≤ 2) (hQ : ∀ r : Int, ∀ σ' : xS, Fr [18] [] σ σ' → ((σ 18 k.toNat < 4 ∧ r = 0 ∧ σ' 18 = σ 18) ∨ (4 ≤ σ 18 k.toNat ∧ r = 1 ∧ σ' 18 = up (σ 18) k.toNat 0)) → Q (some (xvi r)) σ') : xT kX11_laid [xvr 18, xvi k] σ Q := by
  refine ⟨Nat.le_of_ble_eq_true rfl, fun X hX => ?_⟩
  show X 0 [xvr 18, xvi k] σ
  have hF : Fr [18] [] σ σ := Fr.rf
  refine hX 400 0 _ _ ?_
  refine And.intro (rfl) (And.intro (⟨by omega, by omega⟩) ?_)
  intro v1 e1 l1 h1
  have e1 : v1 = σ 18 k.toNat := e1
  refine And.intro (fun c2 => ?_) (fun c2 => ?_)
  · refine And.intro (rfl) (And.intro (⟨by omega, by omega⟩) ?_)
    have hF := hF.pt (t := 18) (j := k.toNat) (v := 0) (by decide) (by decide)
    refine And.intro rfl ?_
    exact hQ _ _ hF (Or.inr ⟨by omega, rfl, xput_up⟩)
  · refine And.intro rfl ?_
    exact hQ _ _ hF (Or.inl ⟨by omega, rfl, rfl⟩)
set_option maxHeartbeats 4000000 in
set_option maxRecDepth 100000 in
theorem s_sum19 {σ : xS} {Q : Option xV → xS → Prop} (hp0 : ∀ k, k < 3 → 0 ≤ σ 19 k ∧ σ 19 k ≤ 4) (hQ : ∀ r : Int, (r = σ 19 0 + σ 19 1 + σ 19 2) → Q (some (xvi r)) σ) : xT kX11_sumOf [xvr 19] σ Q := by
  refine ⟨Nat.le_of_ble_eq_true rfl, fun X hX => ?_⟩
  show X 0 [xvr 19] σ
  have a0 := hp0 0 (by omega); have a1 := hp0 1 (by omega); have a2 := hp0 2 (by omega)
  refine hX 400 0 _ _ ?_
  refine And.intro (rfl) (And.intro (⟨by omega, by omega⟩) ?_)
  intro v1 e1 l1 h1
  have e1 : v1 = σ 19 0 := e1
  refine And.intro (rfl) (And.intro (⟨by omega, by omega⟩) ?_)
  intro v2 e2 l2 h2
  have e2 : v2 = σ 19 1 := e2
  intro z3 t3 e3 l3 h3
  try have w3 : t3 = 0 := by omega
  refine And.intro (rfl) (And.intro (⟨by omega, by omega⟩) ?_)
  intro v4 e4 l4 h4
  have e4 : v4 = σ 19 2 := e4
  intro z5 t5 e5 l5 h5
  try have w5 : t5 = 0 := by omega
  refine And.intro rfl ?_
  exact hQ _ (by omega)
set_option maxHeartbeats 4000000 in
set_option maxRecDepth 100000 in
theorem s_laid19 {σ : xS} {k : Int} {Q : Option xV → xS → Prop} (hp0 : 0 ≤ k ∧ k ≤ 2) (hQ : ∀ r : Int, ∀ σ' : xS, Fr [19] [] σ σ' → ((σ 19 k.toNat < 4 ∧ r = 0 ∧ σ' 19 = σ 19) ∨ (4 ≤ σ 19 k.toNat ∧ r = 1 ∧ σ' 19 = up (σ 19) k.toNat 0)) → Q (some (xvi r)) σ') : xT kX11_laid [xvr 19, xvi k] σ Q := by
  refine ⟨Nat.le_of_ble_eq_true rfl, fun X hX => ?_⟩
  show X 0 [xvr 19, xvi k] σ
  have hF : Fr [19] [] σ σ := Fr.rf
  refine hX 400 0 _ _ ?_
  refine And.intro (rfl) (And.intro (⟨by omega, by omega⟩) ?_)
  intro v1 e1 l1 h1
  have e1 : v1 = σ 19 k.toNat := e1
  refine And.intro (fun c2 => ?_) (fun c2 => ?_)
  · refine And.intro (rfl) (And.intro (⟨by omega, by omega⟩) ?_)
    have hF := hF.pt (t := 19) (j := k.toNat) (v := 0) (by decide) (by decide)
    refine And.intro rfl ?_
    exact hQ _ _ hF (Or.inr ⟨by omega, rfl, xput_up⟩)
  · refine And.intro rfl ?_
    exact hQ _ _ hF (Or.inl ⟨by omega, rfl, rfl⟩)
set_option maxHeartbeats 4000000 in
set_option maxRecDepth 100000 in
theorem s_filled18 {σ : xS} {Q : Option xV → xS → Prop} (hp0 : OPx (σ 2)) (hp1 : GB (σ 2) (σ 18) (σ 19) (σ 0 42)) (hQ : ∀ r : Int, ∀ σ' : xS, Fr [18] [42] σ σ' → (GB (σ 2) (σ' 18) (σ 19) (σ' 0 42) ∧ ph (σ 2) (σ' 18) (σ 19) (σ' 0 42) ≤ ph (σ 2) (σ 18) (σ 19) (σ 0 42) ∧ (σ 0 42 ≤ σ' 0 42 ∧ 0 ≤ r ∧ r ≤ 4)) → Q (some (xvi r)) σ') : xT kX11_filled [xvr 0, xvr 18] σ Q := by
  refine ⟨Nat.le_of_ble_eq_true rfl, fun X hX => ?_⟩
  show X 0 [xvr 0, xvr 18, xvu, xvu, xvu, xvu] σ
  have hF : Fr [18] [42] σ σ := Fr.rf
  refine hX 400 0 _ _ ?_
  have m7 := hp0.1; have m0 := hp0.2.1; have m3 := hp0.2.2.1; have g0 := hp1.1
  refine And.intro (Nat.le_of_ble_eq_true rfl) ?_
  show xw _ _ _ _ _ _ _ _ _ _ [xvr 0, xvr 18, xvi 0, xvu, xvu, xvu] _ _
  have lp_2 : ∀ (m2 : Nat) (n : Int) (u1_3 : xV) (u1_4 : xV) (u1_5 : xV) (s1 : xS), ((4 - s1 0 42).toNat) = m2 → (Fr [18] [42] σ s1 ∧ GB (σ 2) (s1 18) (σ 19) (s1 0 42) ∧ ph (σ 2) (s1 18) (σ 19) (s1 0 42) ≤ ph (σ 2) (σ 18) (σ 19) (σ 0 42) ∧ (σ 0 42 ≤ s1 0 42 ∧ 0 ≤ n ∧ n ≤ s1 0 42 - σ 0 42)) → X 2 [xvr 0, xvr 18, xvi n, u1_3, u1_4, u1_5] s1 := by
    intro m2
    induction m2 using Nat.strongRecOn with
    | _ m2 ih_2 =>
    intro n u1_3 u1_4 u1_5 s1 hm_2 hv_2
    obtain ⟨hF, hG, hP, hv_2⟩ := hv_2
    have hs2 : s1 2 = σ 2 := hF.1 2 (by decide) (by decide)
    have q7 := congrFun hs2 7; have q3 := congrFun hs2 3
    have hg1 := hG.1
    refine hX 400 2 _ _ ?_
    refine s_sum18 (σ := s1) (fun q hq => (hG.b hq).1) (fun r2 p2 => ?_)
    refine And.intro (fun c3 => ?_) (fun c3 => ?_)
    · refine hX 400 134 _ _ ?_
      refine And.intro rfl ?_
      exact hQ _ _ hF ⟨hG, hP, by omega⟩
    · intro v4 e4 l4 h4
      have e4 : v4 = s1 0 42 := e4
      refine And.intro (rfl) (And.intro (⟨by omega, by omega⟩) ?_)
      intro v5 e5 l5 h5
      have e5 : v5 = s1 2 7 := e5
      refine And.intro (fun c6 => ?_) (fun c6 => ?_)
      · refine hX 400 134 _ _ ?_
        refine And.intro rfl ?_
        exact hQ _ _ hF ⟨hG, hP, by omega⟩
      · refine And.intro (rfl) (And.intro (⟨by omega, by omega⟩) ?_)
        intro v7 e7 l7 h7
        have e7 : v7 = s1 2 3 := e7
        refine And.intro (fun c8 => ?_) (fun c8 => ?_)
        · refine hX 400 134 _ _ ?_
          refine And.intro rfl ?_
          exact hQ _ _ hF ⟨hG, hP, by omega⟩
        · refine And.intro (rfl) (And.intro (⟨by omega, by omega⟩) ?_)
          intro v9 e9 l9 h9
          have e9 : v9 = s1 2 3 := e9
          refine And.intro (rfl) (And.intro (⟨by omega, by omega⟩) ?_)
          intro v10 e10 l10 h10
          have e10 : v10 = s1 2 7 := e10
          intro v11 e11 l11 h11
          have e11 : v11 = s1 0 42 := e11
          intro z12 t12 e12 l12 h12
          try have w12 : t12 = 0 := by omega
          refine And.intro (fun c13 => ?_) (fun c13 => ?_)
          · refine And.intro (rfl) (And.intro (⟨by omega, by omega⟩) ?_)
            intro v14 e14 l14 h14
            have e14 : v14 = s1 2 7 := e14
            intro v15 e15 l15 h15
            have e15 : v15 = s1 0 42 := e15
            intro z16 t16 e16 l16 h16
            try have w16 : t16 = 0 := by omega
            refine And.intro (Nat.le_of_ble_eq_true rfl) ?_
            show xw _ _ _ _ _ _ _ _ _ _ [xvr 0, xvr 18, xvi n, xvi z16, u1_4, u1_5] _ _
            refine And.intro (Nat.le_of_ble_eq_true rfl) ?_
            show xw _ _ _ _ _ _ _ _ _ _ [xvr 0, xvr 18, xvi n, xvi z16, xvi 0, u1_5] _ _
            have lp_78 : ∀ (m78 : Nat) (n2 : Int) (i : Int) (u17_5 : xV) (s2 : xS), ((9 - i).toNat) = m78 → (Fr [18] [42] σ s2 ∧ GB (σ 2) (s2 18) (σ 19) (s2 0 42) ∧ ph (σ 2) (s2 18) (σ 19) (s2 0 42) ≤ ph (σ 2) (σ 18) (σ 19) (σ 0 42) ∧ (s2 0 42 = s1 0 42 + i ∧ 0 ≤ i ∧ i ≤ z16 ∧ 0 ≤ n2 ∧ n2 ≤ s2 0 42 - σ 0 42)) → X 78 [xvr 0, xvr 18, xvi n2, xvi z16, xvi i, u17_5] s2 := by
              intro m78
              induction m78 using Nat.strongRecOn with
              | _ m78 ih_78 =>
              intro n2 i u17_5 s2 hm_78 hv_78
              obtain ⟨hF, hG, hP, hv_78⟩ := hv_78
              have hs2 : s2 2 = σ 2 := hF.1 2 (by decide) (by decide)
              have q7 := congrFun hs2 7; have q3 := congrFun hs2 3
              have hg1 := hG.1
              refine hX 400 78 _ _ ?_
              refine And.intro (fun c18 => ?_) (fun c18 => ?_)
              · exact ih_2 _ (show (4 - (s2 0 42)).toNat < m2 from by omega) n2 (xvi z16) (xvi i) (u17_5) s2 rfl ⟨hF, hG, hP, by omega⟩
              · intro v19 e19 l19 h19
                have e19 : v19 = s2 0 42 := e19
                intro z20 t20 e20 l20 h20
                try have w20 : t20 = 0 := by omega
                refine And.intro (rfl) (And.intro (⟨by omega, by omega⟩) ?_)
                intro v21 e21 l21 h21
                have e21 : v21 = s2 2 z20.toNat := e21
                have hcv21 := hp0.c (z := z20) (by omega) (by omega)
                have hev21 : v21 = σ 2 z20.toNat := by rw [e21, hs2]
                rw [← hev21] at hcv21
                refine And.intro (Nat.le_of_ble_eq_true rfl) ?_
                show xw _ _ _ _ _ _ _ _ _ _ [xvr 0, xvr 18, xvi n2, xvi z16, xvi i, xvi v21] _ _
                intro v22 e22 l22 h22
                have e22 : v22 = s2 0 42 := e22
                intro z23 t23 e23 l23 h23
                try have w23 : t23 = 0 := by omega
                have hF := hF.p (j := 42) (v := z23) (by decide)
                refine And.intro (rfl) (And.intro (⟨by omega, by omega⟩) ?_)
                intro v25 e25 l25 h25
                have e25 : v25 = s2 18 v21.toNat := e25
                have hrowv25 := (hG.b (k := v21.toNat) (by omega)).1
                rw [← e25] at hrowv25
                intro z26 t26 e26 l26 h26
                try have w26 : t26 = 0 := by omega
                refine And.intro (rfl) (And.intro (⟨by omega, by omega⟩) ?_)
                have hF := hF.pt (t := 18) (j := v21.toNat) (v := z26) (by decide) (by decide)
                have hD := hG.draw (m' := (xput (xput s2 0 42 z23) 18 v21.toNat z26) 18) (c := v21) (by omega) (by omega) (by rw [show (8 + s2 0 42).toNat = z20.toNat from by omega, ← hs2]; exact e21.symm) (by omega) (by show xput _ 18 v21.toNat z26 18 v21.toNat = _; rw [xput_s]; omega) (fun q hq => xput_o hq)
                refine s_laid18 (σ := (xput (xput s2 0 42 z23) 18 v21.toNat z26)) (k := v21) (by omega) (fun r28 σ28 f28 p28 => ?_)
                have hF := hF.tr f28 (by decide) (by decide)
                have k42_28 : σ28 0 42 = z23 := f28.2 42 (by decide)
                have hX2 : (GB (σ 2) (σ28 18) (σ 19) (s2 0 42 + 1) ∧ ph (σ 2) (σ28 18) (σ 19) (s2 0 42 + 1) ≤ ph (σ 2) (s2 18) (σ 19) (s2 0 42) - 1) ∧ (0 ≤ r28 ∧ r28 ≤ 1) := by
                  rcases p28 with q | q
                  · rw [q.2.2]; exact ⟨⟨hD.1, hD.2.1⟩, by omega⟩
                  · have hY := hD.1.lay (m' := σ28 18) (c := v21) (by omega) (by rw [q.2.2, up_s]) (fun j hj => by rw [q.2.2, up_n hj])
                    exact ⟨⟨hY.1, by have := hD.2.1; omega⟩, by omega⟩
                intro z29 t29 e29 l29 h29
                try have w29 : t29 = 0 := by omega
                refine And.intro (Nat.le_of_ble_eq_true rfl) ?_
                show xw _ _ _ _ _ _ _ _ _ _ [xvr 0, xvr 18, xvi z29, xvi z16, xvi i, xvi v21] _ _
                intro z30 t30 e30 l30 h30
                try have w30 : t30 = 0 := by omega
                show xw _ _ _ _ _ _ _ _ _ _ [xvr 0, xvr 18, xvi z29, xvi z16, xvi z30, xvi v21] _ _
                exact ih_78 _ (show (9 - z30).toNat < m78 from by omega) z29 z30 (xvi v21) σ28 rfl ⟨hF, (by rw [show σ28 0 42 = s2 0 42 + 1 from by omega]; exact hX2.1.1), (by rw [show σ28 0 42 = s2 0 42 + 1 from by omega]; have := hX2.1.2; omega), by omega⟩
            exact lp_78 _ n 0 (u1_5) s1 rfl ⟨hF, hG, hP, by omega⟩
          · refine And.intro (rfl) (And.intro (⟨by omega, by omega⟩) ?_)
            intro v31 e31 l31 h31
            have e31 : v31 = s1 2 3 := e31
            refine And.intro (Nat.le_of_ble_eq_true rfl) ?_
            show xw _ _ _ _ _ _ _ _ _ _ [xvr 0, xvr 18, xvi n, xvi v31, u1_4, u1_5] _ _
            refine And.intro (Nat.le_of_ble_eq_true rfl) ?_
            show xw _ _ _ _ _ _ _ _ _ _ [xvr 0, xvr 18, xvi n, xvi v31, xvi 0, u1_5] _ _
            have lp_78 : ∀ (m78 : Nat) (n2 : Int) (i : Int) (u32_5 : xV) (s2 : xS), ((9 - i).toNat) = m78 → (Fr [18] [42] σ s2 ∧ GB (σ 2) (s2 18) (σ 19) (s2 0 42) ∧ ph (σ 2) (s2 18) (σ 19) (s2 0 42) ≤ ph (σ 2) (σ 18) (σ 19) (σ 0 42) ∧ (s2 0 42 = s1 0 42 + i ∧ 0 ≤ i ∧ i ≤ v31 ∧ 0 ≤ n2 ∧ n2 ≤ s2 0 42 - σ 0 42)) → X 78 [xvr 0, xvr 18, xvi n2, xvi v31, xvi i, u32_5] s2 := by
              intro m78
              induction m78 using Nat.strongRecOn with
              | _ m78 ih_78 =>
              intro n2 i u32_5 s2 hm_78 hv_78
              obtain ⟨hF, hG, hP, hv_78⟩ := hv_78
              have hs2 : s2 2 = σ 2 := hF.1 2 (by decide) (by decide)
              have q7 := congrFun hs2 7; have q3 := congrFun hs2 3
              have hg1 := hG.1
              refine hX 400 78 _ _ ?_
              refine And.intro (fun c33 => ?_) (fun c33 => ?_)
              · exact ih_2 _ (show (4 - (s2 0 42)).toNat < m2 from by omega) n2 (xvi v31) (xvi i) (u32_5) s2 rfl ⟨hF, hG, hP, by omega⟩
              · intro v34 e34 l34 h34
                have e34 : v34 = s2 0 42 := e34
                intro z35 t35 e35 l35 h35
                try have w35 : t35 = 0 := by omega
                refine And.intro (rfl) (And.intro (⟨by omega, by omega⟩) ?_)
                intro v36 e36 l36 h36
                have e36 : v36 = s2 2 z35.toNat := e36
                have hcv36 := hp0.c (z := z35) (by omega) (by omega)
                have hev36 : v36 = σ 2 z35.toNat := by rw [e36, hs2]
                rw [← hev36] at hcv36
                refine And.intro (Nat.le_of_ble_eq_true rfl) ?_
                show xw _ _ _ _ _ _ _ _ _ _ [xvr 0, xvr 18, xvi n2, xvi v31, xvi i, xvi v36] _ _
                intro v37 e37 l37 h37
                have e37 : v37 = s2 0 42 := e37
                intro z38 t38 e38 l38 h38
                try have w38 : t38 = 0 := by omega
                have hF := hF.p (j := 42) (v := z38) (by decide)
                refine And.intro (rfl) (And.intro (⟨by omega, by omega⟩) ?_)
                intro v40 e40 l40 h40
                have e40 : v40 = s2 18 v36.toNat := e40
                have hrowv40 := (hG.b (k := v36.toNat) (by omega)).1
                rw [← e40] at hrowv40
                intro z41 t41 e41 l41 h41
                try have w41 : t41 = 0 := by omega
                refine And.intro (rfl) (And.intro (⟨by omega, by omega⟩) ?_)
                have hF := hF.pt (t := 18) (j := v36.toNat) (v := z41) (by decide) (by decide)
                have hD := hG.draw (m' := (xput (xput s2 0 42 z38) 18 v36.toNat z41) 18) (c := v36) (by omega) (by omega) (by rw [show (8 + s2 0 42).toNat = z35.toNat from by omega, ← hs2]; exact e36.symm) (by omega) (by show xput _ 18 v36.toNat z41 18 v36.toNat = _; rw [xput_s]; omega) (fun q hq => xput_o hq)
                refine s_laid18 (σ := (xput (xput s2 0 42 z38) 18 v36.toNat z41)) (k := v36) (by omega) (fun r43 σ43 f43 p43 => ?_)
                have hF := hF.tr f43 (by decide) (by decide)
                have k42_43 : σ43 0 42 = z38 := f43.2 42 (by decide)
                have hX2 : (GB (σ 2) (σ43 18) (σ 19) (s2 0 42 + 1) ∧ ph (σ 2) (σ43 18) (σ 19) (s2 0 42 + 1) ≤ ph (σ 2) (s2 18) (σ 19) (s2 0 42) - 1) ∧ (0 ≤ r43 ∧ r43 ≤ 1) := by
                  rcases p43 with q | q
                  · rw [q.2.2]; exact ⟨⟨hD.1, hD.2.1⟩, by omega⟩
                  · have hY := hD.1.lay (m' := σ43 18) (c := v36) (by omega) (by rw [q.2.2, up_s]) (fun j hj => by rw [q.2.2, up_n hj])
                    exact ⟨⟨hY.1, by have := hD.2.1; omega⟩, by omega⟩
                intro z44 t44 e44 l44 h44
                try have w44 : t44 = 0 := by omega
                refine And.intro (Nat.le_of_ble_eq_true rfl) ?_
                show xw _ _ _ _ _ _ _ _ _ _ [xvr 0, xvr 18, xvi z44, xvi v31, xvi i, xvi v36] _ _
                intro z45 t45 e45 l45 h45
                try have w45 : t45 = 0 := by omega
                show xw _ _ _ _ _ _ _ _ _ _ [xvr 0, xvr 18, xvi z44, xvi v31, xvi z45, xvi v36] _ _
                exact ih_78 _ (show (9 - z45).toNat < m78 from by omega) z44 z45 (xvi v36) σ43 rfl ⟨hF, (by rw [show σ43 0 42 = s2 0 42 + 1 from by omega]; exact hX2.1.1), (by rw [show σ43 0 42 = s2 0 42 + 1 from by omega]; have := hX2.1.2; omega), by omega⟩
            exact lp_78 _ n 0 (u1_5) s1 rfl ⟨hF, hG, hP, by omega⟩
  exact lp_2 _ 0 (xvu) (xvu) (xvu) σ rfl ⟨hF, hp1, Int.le_refl _, by omega⟩
set_option maxHeartbeats 4000000 in
set_option maxRecDepth 100000 in
theorem s_filled19 {σ : xS} {Q : Option xV → xS → Prop} (hp0 : OPx (σ 2)) (hp1 : GB (σ 2) (σ 19) (σ 18) (σ 0 42)) (hQ : ∀ r : Int, ∀ σ' : xS, Fr [19] [42] σ σ' → (GB (σ 2) (σ' 19) (σ 18) (σ' 0 42) ∧ ph (σ 2) (σ' 19) (σ 18) (σ' 0 42) ≤ ph (σ 2) (σ 19) (σ 18) (σ 0 42) ∧ (σ 0 42 ≤ σ' 0 42 ∧ 0 ≤ r ∧ r ≤ 4)) → Q (some (xvi r)) σ') : xT kX11_filled [xvr 0, xvr 19] σ Q := by
  refine ⟨Nat.le_of_ble_eq_true rfl, fun X hX => ?_⟩
  show X 0 [xvr 0, xvr 19, xvu, xvu, xvu, xvu] σ
  have hF : Fr [19] [42] σ σ := Fr.rf
  refine hX 400 0 _ _ ?_
  have m7 := hp0.1; have m0 := hp0.2.1; have m3 := hp0.2.2.1; have g0 := hp1.1
  refine And.intro (Nat.le_of_ble_eq_true rfl) ?_
  show xw _ _ _ _ _ _ _ _ _ _ [xvr 0, xvr 19, xvi 0, xvu, xvu, xvu] _ _
  have lp_2 : ∀ (m2 : Nat) (n : Int) (u1_3 : xV) (u1_4 : xV) (u1_5 : xV) (s1 : xS), ((4 - s1 0 42).toNat) = m2 → (Fr [19] [42] σ s1 ∧ GB (σ 2) (s1 19) (σ 18) (s1 0 42) ∧ ph (σ 2) (s1 19) (σ 18) (s1 0 42) ≤ ph (σ 2) (σ 19) (σ 18) (σ 0 42) ∧ (σ 0 42 ≤ s1 0 42 ∧ 0 ≤ n ∧ n ≤ s1 0 42 - σ 0 42)) → X 2 [xvr 0, xvr 19, xvi n, u1_3, u1_4, u1_5] s1 := by
    intro m2
    induction m2 using Nat.strongRecOn with
    | _ m2 ih_2 =>
    intro n u1_3 u1_4 u1_5 s1 hm_2 hv_2
    obtain ⟨hF, hG, hP, hv_2⟩ := hv_2
    have hs2 : s1 2 = σ 2 := hF.1 2 (by decide) (by decide)
    have q7 := congrFun hs2 7; have q3 := congrFun hs2 3
    have hg1 := hG.1
    refine hX 400 2 _ _ ?_
    refine s_sum19 (σ := s1) (fun q hq => (hG.b hq).1) (fun r2 p2 => ?_)
    refine And.intro (fun c3 => ?_) (fun c3 => ?_)
    · refine hX 400 134 _ _ ?_
      refine And.intro rfl ?_
      exact hQ _ _ hF ⟨hG, hP, by omega⟩
    · intro v4 e4 l4 h4
      have e4 : v4 = s1 0 42 := e4
      refine And.intro (rfl) (And.intro (⟨by omega, by omega⟩) ?_)
      intro v5 e5 l5 h5
      have e5 : v5 = s1 2 7 := e5
      refine And.intro (fun c6 => ?_) (fun c6 => ?_)
      · refine hX 400 134 _ _ ?_
        refine And.intro rfl ?_
        exact hQ _ _ hF ⟨hG, hP, by omega⟩
      · refine And.intro (rfl) (And.intro (⟨by omega, by omega⟩) ?_)
        intro v7 e7 l7 h7
        have e7 : v7 = s1 2 3 := e7
        refine And.intro (fun c8 => ?_) (fun c8 => ?_)
        · refine hX 400 134 _ _ ?_
          refine And.intro rfl ?_
          exact hQ _ _ hF ⟨hG, hP, by omega⟩
        · refine And.intro (rfl) (And.intro (⟨by omega, by omega⟩) ?_)
          intro v9 e9 l9 h9
          have e9 : v9 = s1 2 3 := e9
          refine And.intro (rfl) (And.intro (⟨by omega, by omega⟩) ?_)
          intro v10 e10 l10 h10
          have e10 : v10 = s1 2 7 := e10
          intro v11 e11 l11 h11
          have e11 : v11 = s1 0 42 := e11
          intro z12 t12 e12 l12 h12
          try have w12 : t12 = 0 := by omega
          refine And.intro (fun c13 => ?_) (fun c13 => ?_)
          · refine And.intro (rfl) (And.intro (⟨by omega, by omega⟩) ?_)
            intro v14 e14 l14 h14
            have e14 : v14 = s1 2 7 := e14
            intro v15 e15 l15 h15
            have e15 : v15 = s1 0 42 := e15
            intro z16 t16 e16 l16 h16
            try have w16 : t16 = 0 := by omega
            refine And.intro (Nat.le_of_ble_eq_true rfl) ?_
            show xw _ _ _ _ _ _ _ _ _ _ [xvr 0, xvr 19, xvi n, xvi z16, u1_4, u1_5] _ _
            refine And.intro (Nat.le_of_ble_eq_true rfl) ?_
            show xw _ _ _ _ _ _ _ _ _ _ [xvr 0, xvr 19, xvi n, xvi z16, xvi 0, u1_5] _ _
            have lp_78 : ∀ (m78 : Nat) (n2 : Int) (i : Int) (u17_5 : xV) (s2 : xS), ((9 - i).toNat) = m78 → (Fr [19] [42] σ s2 ∧ GB (σ 2) (s2 19) (σ 18) (s2 0 42) ∧ ph (σ 2) (s2 19) (σ 18) (s2 0 42) ≤ ph (σ 2) (σ 19) (σ 18) (σ 0 42) ∧ (s2 0 42 = s1 0 42 + i ∧ 0 ≤ i ∧ i ≤ z16 ∧ 0 ≤ n2 ∧ n2 ≤ s2 0 42 - σ 0 42)) → X 78 [xvr 0, xvr 19, xvi n2, xvi z16, xvi i, u17_5] s2 := by
              intro m78
              induction m78 using Nat.strongRecOn with
              | _ m78 ih_78 =>
              intro n2 i u17_5 s2 hm_78 hv_78
              obtain ⟨hF, hG, hP, hv_78⟩ := hv_78
              have hs2 : s2 2 = σ 2 := hF.1 2 (by decide) (by decide)
              have q7 := congrFun hs2 7; have q3 := congrFun hs2 3
              have hg1 := hG.1
              refine hX 400 78 _ _ ?_
              refine And.intro (fun c18 => ?_) (fun c18 => ?_)
              · exact ih_2 _ (show (4 - (s2 0 42)).toNat < m2 from by omega) n2 (xvi z16) (xvi i) (u17_5) s2 rfl ⟨hF, hG, hP, by omega⟩
              · intro v19 e19 l19 h19
                have e19 : v19 = s2 0 42 := e19
                intro z20 t20 e20 l20 h20
                try have w20 : t20 = 0 := by omega
                refine And.intro (rfl) (And.intro (⟨by omega, by omega⟩) ?_)
                intro v21 e21 l21 h21
                have e21 : v21 = s2 2 z20.toNat := e21
                have hcv21 := hp0.c (z := z20) (by omega) (by omega)
                have hev21 : v21 = σ 2 z20.toNat := by rw [e21, hs2]
                rw [← hev21] at hcv21
                refine And.intro (Nat.le_of_ble_eq_true rfl) ?_
                show xw _ _ _ _ _ _ _ _ _ _ [xvr 0, xvr 19, xvi n2, xvi z16, xvi i, xvi v21] _ _
                intro v22 e22 l22 h22
                have e22 : v22 = s2 0 42 := e22
                intro z23 t23 e23 l23 h23
                try have w23 : t23 = 0 := by omega
                have hF := hF.p (j := 42) (v := z23) (by decide)
                refine And.intro (rfl) (And.intro (⟨by omega, by omega⟩) ?_)
                intro v25 e25 l25 h25
                have e25 : v25 = s2 19 v21.toNat := e25
                have hrowv25 := (hG.b (k := v21.toNat) (by omega)).1
                rw [← e25] at hrowv25
                intro z26 t26 e26 l26 h26
                try have w26 : t26 = 0 := by omega
                refine And.intro (rfl) (And.intro (⟨by omega, by omega⟩) ?_)
                have hF := hF.pt (t := 19) (j := v21.toNat) (v := z26) (by decide) (by decide)
                have hD := hG.draw (m' := (xput (xput s2 0 42 z23) 19 v21.toNat z26) 19) (c := v21) (by omega) (by omega) (by rw [show (8 + s2 0 42).toNat = z20.toNat from by omega, ← hs2]; exact e21.symm) (by omega) (by show xput _ 19 v21.toNat z26 19 v21.toNat = _; rw [xput_s]; omega) (fun q hq => xput_o hq)
                refine s_laid19 (σ := (xput (xput s2 0 42 z23) 19 v21.toNat z26)) (k := v21) (by omega) (fun r28 σ28 f28 p28 => ?_)
                have hF := hF.tr f28 (by decide) (by decide)
                have k42_28 : σ28 0 42 = z23 := f28.2 42 (by decide)
                have hX2 : (GB (σ 2) (σ28 19) (σ 18) (s2 0 42 + 1) ∧ ph (σ 2) (σ28 19) (σ 18) (s2 0 42 + 1) ≤ ph (σ 2) (s2 19) (σ 18) (s2 0 42) - 1) ∧ (0 ≤ r28 ∧ r28 ≤ 1) := by
                  rcases p28 with q | q
                  · rw [q.2.2]; exact ⟨⟨hD.1, hD.2.1⟩, by omega⟩
                  · have hY := hD.1.lay (m' := σ28 19) (c := v21) (by omega) (by rw [q.2.2, up_s]) (fun j hj => by rw [q.2.2, up_n hj])
                    exact ⟨⟨hY.1, by have := hD.2.1; omega⟩, by omega⟩
                intro z29 t29 e29 l29 h29
                try have w29 : t29 = 0 := by omega
                refine And.intro (Nat.le_of_ble_eq_true rfl) ?_
                show xw _ _ _ _ _ _ _ _ _ _ [xvr 0, xvr 19, xvi z29, xvi z16, xvi i, xvi v21] _ _
                intro z30 t30 e30 l30 h30
                try have w30 : t30 = 0 := by omega
                show xw _ _ _ _ _ _ _ _ _ _ [xvr 0, xvr 19, xvi z29, xvi z16, xvi z30, xvi v21] _ _
                exact ih_78 _ (show (9 - z30).toNat < m78 from by omega) z29 z30 (xvi v21) σ28 rfl ⟨hF, (by rw [show σ28 0 42 = s2 0 42 + 1 from by omega]; exact hX2.1.1), (by rw [show σ28 0 42 = s2 0 42 + 1 from by omega]; have := hX2.1.2; omega), by omega⟩
            exact lp_78 _ n 0 (u1_5) s1 rfl ⟨hF, hG, hP, by omega⟩
          · refine And.intro (rfl) (And.intro (⟨by omega, by omega⟩) ?_)
            intro v31 e31 l31 h31
            have e31 : v31 = s1 2 3 := e31
            refine And.intro (Nat.le_of_ble_eq_true rfl) ?_
            show xw _ _ _ _ _ _ _ _ _ _ [xvr 0, xvr 19, xvi n, xvi v31, u1_4, u1_5] _ _
            refine And.intro (Nat.le_of_ble_eq_true rfl) ?_
            show xw _ _ _ _ _ _ _ _ _ _ [xvr 0, xvr 19, xvi n, xvi v31, xvi 0, u1_5] _ _
            have lp_78 : ∀ (m78 : Nat) (n2 : Int) (i : Int) (u32_5 : xV) (s2 : xS), ((9 - i).toNat) = m78 → (Fr [19] [42] σ s2 ∧ GB (σ 2) (s2 19) (σ 18) (s2 0 42) ∧ ph (σ 2) (s2 19) (σ 18) (s2 0 42) ≤ ph (σ 2) (σ 19) (σ 18) (σ 0 42) ∧ (s2 0 42 = s1 0 42 + i ∧ 0 ≤ i ∧ i ≤ v31 ∧ 0 ≤ n2 ∧ n2 ≤ s2 0 42 - σ 0 42)) → X 78 [xvr 0, xvr 19, xvi n2, xvi v31, xvi i, u32_5] s2 := by
              intro m78
              induction m78 using Nat.strongRecOn with
              | _ m78 ih_78 =>
              intro n2 i u32_5 s2 hm_78 hv_78
              obtain ⟨hF, hG, hP, hv_78⟩ := hv_78
              have hs2 : s2 2 = σ 2 := hF.1 2 (by decide) (by decide)
              have q7 := congrFun hs2 7; have q3 := congrFun hs2 3
              have hg1 := hG.1
              refine hX 400 78 _ _ ?_
              refine And.intro (fun c33 => ?_) (fun c33 => ?_)
              · exact ih_2 _ (show (4 - (s2 0 42)).toNat < m2 from by omega) n2 (xvi v31) (xvi i) (u32_5) s2 rfl ⟨hF, hG, hP, by omega⟩
              · intro v34 e34 l34 h34
                have e34 : v34 = s2 0 42 := e34
                intro z35 t35 e35 l35 h35
                try have w35 : t35 = 0 := by omega
                refine And.intro (rfl) (And.intro (⟨by omega, by omega⟩) ?_)
                intro v36 e36 l36 h36
                have e36 : v36 = s2 2 z35.toNat := e36
                have hcv36 := hp0.c (z := z35) (by omega) (by omega)
                have hev36 : v36 = σ 2 z35.toNat := by rw [e36, hs2]
                rw [← hev36] at hcv36
                refine And.intro (Nat.le_of_ble_eq_true rfl) ?_
                show xw _ _ _ _ _ _ _ _ _ _ [xvr 0, xvr 19, xvi n2, xvi v31, xvi i, xvi v36] _ _
                intro v37 e37 l37 h37
                have e37 : v37 = s2 0 42 := e37
                intro z38 t38 e38 l38 h38
                try have w38 : t38 = 0 := by omega
                have hF := hF.p (j := 42) (v := z38) (by decide)
                refine And.intro (rfl) (And.intro (⟨by omega, by omega⟩) ?_)
                intro v40 e40 l40 h40
                have e40 : v40 = s2 19 v36.toNat := e40
                have hrowv40 := (hG.b (k := v36.toNat) (by omega)).1
                rw [← e40] at hrowv40
                intro z41 t41 e41 l41 h41
                try have w41 : t41 = 0 := by omega
                refine And.intro (rfl) (And.intro (⟨by omega, by omega⟩) ?_)
                have hF := hF.pt (t := 19) (j := v36.toNat) (v := z41) (by decide) (by decide)
                have hD := hG.draw (m' := (xput (xput s2 0 42 z38) 19 v36.toNat z41) 19) (c := v36) (by omega) (by omega) (by rw [show (8 + s2 0 42).toNat = z35.toNat from by omega, ← hs2]; exact e36.symm) (by omega) (by show xput _ 19 v36.toNat z41 19 v36.toNat = _; rw [xput_s]; omega) (fun q hq => xput_o hq)
                refine s_laid19 (σ := (xput (xput s2 0 42 z38) 19 v36.toNat z41)) (k := v36) (by omega) (fun r43 σ43 f43 p43 => ?_)
                have hF := hF.tr f43 (by decide) (by decide)
                have k42_43 : σ43 0 42 = z38 := f43.2 42 (by decide)
                have hX2 : (GB (σ 2) (σ43 19) (σ 18) (s2 0 42 + 1) ∧ ph (σ 2) (σ43 19) (σ 18) (s2 0 42 + 1) ≤ ph (σ 2) (s2 19) (σ 18) (s2 0 42) - 1) ∧ (0 ≤ r43 ∧ r43 ≤ 1) := by
                  rcases p43 with q | q
                  · rw [q.2.2]; exact ⟨⟨hD.1, hD.2.1⟩, by omega⟩
                  · have hY := hD.1.lay (m' := σ43 19) (c := v36) (by omega) (by rw [q.2.2, up_s]) (fun j hj => by rw [q.2.2, up_n hj])
                    exact ⟨⟨hY.1, by have := hD.2.1; omega⟩, by omega⟩
                intro z44 t44 e44 l44 h44
                try have w44 : t44 = 0 := by omega
                refine And.intro (Nat.le_of_ble_eq_true rfl) ?_
                show xw _ _ _ _ _ _ _ _ _ _ [xvr 0, xvr 19, xvi z44, xvi v31, xvi i, xvi v36] _ _
                intro z45 t45 e45 l45 h45
                try have w45 : t45 = 0 := by omega
                show xw _ _ _ _ _ _ _ _ _ _ [xvr 0, xvr 19, xvi z44, xvi v31, xvi z45, xvi v36] _ _
                exact ih_78 _ (show (9 - z45).toNat < m78 from by omega) z44 z45 (xvi v36) σ43 rfl ⟨hF, (by rw [show σ43 0 42 = s2 0 42 + 1 from by omega]; exact hX2.1.1), (by rw [show σ43 0 42 = s2 0 42 + 1 from by omega]; have := hX2.1.2; omega), by omega⟩
            exact lp_78 _ n 0 (u1_5) s1 rfl ⟨hF, hG, hP, by omega⟩
  exact lp_2 _ 0 (xvu) (xvu) (xvu) σ rfl ⟨hF, hp1, Int.le_refl _, by omega⟩
set_option maxHeartbeats 4000000 in
set_option maxRecDepth 100000 in
theorem s_decode {σ : xS} {code : Int} {Q : Option xV → xS → Prop} (hp0 : 0 ≤ code) (hQ : ∀ σ' : xS, Fr [18, 19] [42, 43] σ σ' → ((∀ k, k < 3 → σ' 18 k = dm code k ∧ σ' 19 k = dh code k) ∧ σ' 0 42 = code / 2 % 5 ∧ σ' 0 43 = code % 2) → Q none σ') : xT kX11_decode [xvr 0, xvi code] σ Q := by
  refine ⟨Nat.le_of_ble_eq_true rfl, fun X hX => ?_⟩
  show X 0 [xvr 0, xvi code, xvu, xvu] σ
  have hF : Fr [18, 19] [42, 43] σ σ := Fr.rf
  refine hX 400 0 _ _ ?_
  refine And.intro (by omega) ?_
  intro z1 e1 f1 l1 h1
  replace f1 := f1 (by omega) (by omega)
  have hF := hF.p (j := 43) (v := z1) (by decide)
  refine And.intro (by omega) ?_
  intro z3 e3 f3 l3 h3
  replace f3 := f3 (by omega) (by omega)
  refine And.intro (by omega) ?_
  intro z4 e4 f4 l4 h4
  replace f4 := f4 (by omega) (by omega)
  have hF := hF.p (j := 42) (v := z4) (by decide)
  refine And.intro (by omega) ?_
  intro z6 e6 f6 l6 h6
  replace f6 := f6 (by omega) (by omega)
  refine And.intro (Nat.le_of_ble_eq_true rfl) ?_
  show xw _ _ _ _ _ _ _ _ _ _ [xvr 0, xvi code, xvi z6, xvu] _ _
  refine And.intro (Nat.le_of_ble_eq_true rfl) ?_
  show xw _ _ _ _ _ _ _ _ _ _ [xvr 0, xvi code, xvi z6, xvi 0] _ _
  have lp_23 : ∀ (m23 : Nat) (v : Int) (k : Int) (s1 : xS), ((3 - k).toNat) = m23 → (Fr [18, 19] [42, 43] σ s1 ∧ s1 0 43 = code % 2 ∧ s1 0 42 = code / 2 % 5 ∧ ((k = 0 ∧ v = code / 10) ∨ (k = 1 ∧ v = code / 250 ∧ s1 18 0 = dm code 0 ∧ s1 19 0 = dh code 0) ∨ (k = 2 ∧ v = code / 6250 ∧ s1 18 0 = dm code 0 ∧ s1 19 0 = dh code 0 ∧ s1 18 1 = dm code 1 ∧ s1 19 1 = dh code 1) ∨ (k = 3 ∧ s1 18 0 = dm code 0 ∧ s1 19 0 = dh code 0 ∧ s1 18 1 = dm code 1 ∧ s1 19 1 = dh code 1 ∧ s1 18 2 = dm code 2 ∧ s1 19 2 = dh code 2))) → X 23 [xvr 0, xvi code, xvi v, xvi k] s1 := by
    intro m23
    induction m23 using Nat.strongRecOn with
    | _ m23 ih_23 =>
    intro v k s1 hm_23 hv_23
    obtain ⟨hF, h43, h42, hv_23⟩ := hv_23
    have hkb : 0 ≤ k ∧ k ≤ 3 := by rcases hv_23 with c | c | c | c <;> omega
    have hvb : k < 3 → 0 ≤ v := by rcases hv_23 with c | c | c | c <;> omega
    refine hX 400 23 _ _ ?_
    refine And.intro (fun c8 => ?_) (fun c8 => ?_)
    · refine And.intro rfl (And.intro rfl ?_)
      refine hQ _ hF ?_
      rcases hv_23 with c | c | c | c
      · omega
      · omega
      · omega
      · exact ⟨k3 ⟨c.2.1, c.2.2.1⟩ ⟨c.2.2.2.1, c.2.2.2.2.1⟩ ⟨c.2.2.2.2.2.1, c.2.2.2.2.2.2⟩, h42, h43⟩
    · refine And.intro (by omega) ?_
      intro z9 e9 f9 l9 h9
      replace f9 := f9 (by omega) (by omega)
      refine And.intro (rfl) (And.intro (⟨by omega, by omega⟩) ?_)
      have hF := hF.pt (t := 18) (j := k.toNat) (v := z9) (by decide) (by decide)
      refine And.intro (by omega) ?_
      intro z11 e11 f11 l11 h11
      replace f11 := f11 (by omega) (by omega)
      refine And.intro (by omega) ?_
      intro z12 e12 f12 l12 h12
      replace f12 := f12 (by omega) (by omega)
      refine And.intro (rfl) (And.intro (⟨by omega, by omega⟩) ?_)
      have hF := hF.pt (t := 19) (j := k.toNat) (v := z12) (by decide) (by decide)
      refine And.intro (by omega) ?_
      intro z14 e14 f14 l14 h14
      replace f14 := f14 (by omega) (by omega)
      refine And.intro (Nat.le_of_ble_eq_true rfl) ?_
      show xw _ _ _ _ _ _ _ _ _ _ [xvr 0, xvi code, xvi z14, xvi k] _ _
      intro z15 t15 e15 l15 h15
      try have w15 : t15 = 0 := by omega
      show xw _ _ _ _ _ _ _ _ _ _ [xvr 0, xvi code, xvi z14, xvi z15] _ _
      exact ih_23 _ (show (3 - z15).toNat < m23 from by omega) z14 z15 (xput (xput s1 18 k.toNat z9) 19 k.toNat z12) rfl ⟨hF, h43, h42, (by
              have hs : (xput (xput s1 18 k.toNat z9) 19 k.toNat z12) = xput (xput s1 18 k.toNat z9) 19 k.toNat z12 := rfl
              rcases hv_23 with c | c | c | c
              · obtain ⟨rfl, hv⟩ := c
                exact Or.inr (Or.inl ⟨by omega, by omega, (show z9 = _ from by simp only [dm]; omega), (show z12 = _ from by simp only [dh]; omega)⟩)
              · obtain ⟨rfl, hv, c1, c2⟩ := c
                exact Or.inr (Or.inr (Or.inl ⟨by omega, by omega, c1, c2, (show z9 = _ from by simp only [dm]; omega), (show z12 = _ from by simp only [dh]; omega)⟩))
              · obtain ⟨rfl, hv, c1, c2, c3, c4⟩ := c
                exact Or.inr (Or.inr (Or.inr ⟨by omega, c1, c2, c3, c4, (show z9 = _ from by simp only [dm]; omega), (show z12 = _ from by simp only [dh]; omega)⟩))
              · omega)⟩
  exact lp_23 _ z6 0 (xput (xput σ 0 43 z1) 0 42 z4) rfl ⟨hF, (show z1 = code % 2 from by omega), (show z4 = code / 2 % 5 from by omega), Or.inl ⟨rfl, by omega⟩⟩
set_option maxHeartbeats 4000000 in
set_option maxRecDepth 100000 in
theorem s_codeOf {σ : xS} {turned : Int} {Q : Option xV → xS → Prop} (hp0 : ∀ k, k < 3 → (0 ≤ σ 18 k ∧ σ 18 k ≤ 4) ∧ (0 ≤ σ 19 k ∧ σ 19 k ≤ 4)) (hp1 : (0 ≤ σ 0 42 ∧ σ 0 42 ≤ 4) ∧ (0 ≤ σ 0 43 ∧ σ 0 43 ≤ 1)) (hp2 : turned = 0 ∨ turned = 1) (hQ : ∀ r : Int, ((turned = 0 ∧ ((0 ≤ r ∧ r < 156250) ∧ r / 2 % 5 = σ 0 42 ∧ r % 2 = σ 0 43 ∧ (dm r 0 = σ 18 0 ∧ dm r 1 = σ 18 1 ∧ dm r 2 = σ 18 2) ∧ (dh r 0 = σ 19 0 ∧ dh r 1 = σ 19 1 ∧ dh r 2 = σ 19 2))) ∨ (turned = 1 ∧ ((0 ≤ r ∧ r < 156250) ∧ r / 2 % 5 = σ 0 42 ∧ r % 2 = σ 0 43 ∧ (dm r 0 = σ 19 0 ∧ dm r 1 = σ 19 1 ∧ dm r 2 = σ 19 2) ∧ (dh r 0 = σ 18 0 ∧ dh r 1 = σ 18 1 ∧ dh r 2 = σ 18 2)))) → Q (some (xvi r)) σ) : xT kX11_codeOf [xvr 0, xvi turned] σ Q := by
  refine ⟨Nat.le_of_ble_eq_true rfl, fun X hX => ?_⟩
  show X 0 [xvr 0, xvi turned, xvu, xvu] σ
  have a0 := hp0 0 (by omega); have a1 := hp0 1 (by omega); have a2 := hp0 2 (by omega)
  refine hX 400 0 _ _ ?_
  refine And.intro (Nat.le_of_ble_eq_true rfl) ?_
  show xw _ _ _ _ _ _ _ _ _ _ [xvr 0, xvi turned, xvi 0, xvu] _ _
  refine And.intro (Nat.le_of_ble_eq_true rfl) ?_
  show xw _ _ _ _ _ _ _ _ _ _ [xvr 0, xvi turned, xvi 0, xvi 2] _ _
  have lp_4 : ∀ (m4 : Nat) (code : Int) (k : Int), ((k + 1).toNat) = m4 → (((turned = 0 ∧ ((k = 2 ∧ code = 0) ∨ (k = 1 ∧ code = 5 * σ 19 2 + σ 18 2) ∨ (k = 0 ∧ code = 25 * (5 * σ 19 2 + σ 18 2) + 5 * σ 19 1 + σ 18 1) ∨ (k = -1 ∧ code = 25 * (25 * (5 * σ 19 2 + σ 18 2) + 5 * σ 19 1 + σ 18 1) + 5 * σ 19 0 + σ 18 0))) ∨ (turned = 1 ∧ ((k = 2 ∧ code = 0) ∨ (k = 1 ∧ code = 5 * σ 18 2 + σ 19 2) ∨ (k = 0 ∧ code = 25 * (5 * σ 18 2 + σ 19 2) + 5 * σ 18 1 + σ 19 1) ∨ (k = -1 ∧ code = 25 * (25 * (5 * σ 18 2 + σ 19 2) + 5 * σ 18 1 + σ 19 1) + 5 * σ 18 0 + σ 19 0))))) → X 4 [xvr 0, xvi turned, xvi code, xvi k] σ := by
    intro m4
    induction m4 using Nat.strongRecOn with
    | _ m4 ih_4 =>
    intro code k hm_4 hv_4
    have hkb : -1 ≤ k ∧ k ≤ 2 ∧ 0 ≤ code ∧ code ≤ 15624 := by
      rcases hv_4 with ⟨ht, hc⟩ | ⟨ht, hc⟩ <;> rcases hc with c | c | c | c <;> omega
    have hkc : (k = 2 → code = 0) ∧ (k = 1 → code ≤ 24) ∧ (k = 0 → code ≤ 624) := by
      rcases hv_4 with ⟨ht, hc⟩ | ⟨ht, hc⟩ <;> rcases hc with c | c | c | c <;> omega
    refine hX 400 4 _ _ ?_
    refine And.intro (fun c2 => ?_) (fun c2 => ?_)
    · intro z3 t3 e3 l3 h3
      try have w3 : t3 = 0 := by omega
      intro v4 e4 l4 h4
      have e4 : v4 = σ 0 42 := e4
      intro z5 t5 e5 l5 h5
      try have w5 : t5 = 0 := by omega
      intro z6 t6 e6 l6 h6
      try have w6 : t6 = 0 := by omega
      intro v7 e7 l7 h7
      have e7 : v7 = σ 0 43 := e7
      intro z8 t8 e8 l8 h8
      try have w8 : t8 = 0 := by omega
      refine And.intro rfl ?_
      refine hQ _ ?_
      rcases hv_4 with ⟨ht, hc⟩ | ⟨ht, hc⟩
      · refine Or.inl ⟨ht, ?_⟩
        exact codes (by omega) (by omega) (by omega) (by omega) (by omega) (by omega) (by omega) (by omega) (by rcases hc with c | c | c | c <;> omega)
      · refine Or.inr ⟨ht, ?_⟩
        exact codes (by omega) (by omega) (by omega) (by omega) (by omega) (by omega) (by omega) (by omega) (by rcases hc with c | c | c | c <;> omega)
    · intro z9 t9 e9 l9 h9
      try have w9 : t9 = 0 := by omega
      refine And.intro (fun c10 => ?_) (fun c10 => ?_)
      · refine And.intro (rfl) (And.intro (⟨by omega, by omega⟩) ?_)
        intro v11 e11 l11 h11
        have e11 : v11 = σ 19 k.toNat := e11
        have bv11 := hp0 k.toNat (by omega)
        rw [← e11] at bv11
        intro z12 t12 e12 l12 h12
        try have w12 : t12 = 0 := by omega
        intro z13 t13 e13 l13 h13
        try have w13 : t13 = 0 := by omega
        refine And.intro (fun c14 => ?_) (fun c14 => ?_)
        · refine And.intro (rfl) (And.intro (⟨by omega, by omega⟩) ?_)
          intro v15 e15 l15 h15
          have e15 : v15 = σ 18 k.toNat := e15
          have bv15 := hp0 k.toNat (by omega)
          rw [← e15] at bv15
          intro z16 t16 e16 l16 h16
          try have w16 : t16 = 0 := by omega
          refine And.intro (Nat.le_of_ble_eq_true rfl) ?_
          show xw _ _ _ _ _ _ _ _ _ _ [xvr 0, xvi turned, xvi z16, xvi k] _ _
          intro z17 t17 e17 l17 h17
          try have w17 : t17 = 0 := by omega
          show xw _ _ _ _ _ _ _ _ _ _ [xvr 0, xvi turned, xvi z16, xvi z17] _ _
          exact ih_4 _ (show (z17 + 1).toNat < m4 from by omega) z16 z17 rfl (by
                rcases hv_4 with ⟨ht, hc⟩ | ⟨ht, hc⟩
                · rcases hc with c | c | c | c
                  · obtain ⟨rfl, hc⟩ := c; simp only [show (2 : Int).toNat = 2 from rfl] at *; exact Or.inl ⟨ht, Or.inr (Or.inl ⟨by omega, by omega⟩)⟩
                  · obtain ⟨rfl, hc⟩ := c; simp only [show (1 : Int).toNat = 1 from rfl] at *; exact Or.inl ⟨ht, Or.inr (Or.inr (Or.inl ⟨by omega, by omega⟩))⟩
                  · obtain ⟨rfl, hc⟩ := c; simp only [show (0 : Int).toNat = 0 from rfl] at *; exact Or.inl ⟨ht, Or.inr (Or.inr (Or.inr ⟨by omega, by omega⟩))⟩
                  · omega
                · rcases hc with c | c | c | c
                  · obtain ⟨rfl, hc⟩ := c; simp only [show (2 : Int).toNat = 2 from rfl] at *; exact Or.inr ⟨ht, Or.inr (Or.inl ⟨by omega, by omega⟩)⟩
                  · obtain ⟨rfl, hc⟩ := c; simp only [show (1 : Int).toNat = 1 from rfl] at *; exact Or.inr ⟨ht, Or.inr (Or.inr (Or.inl ⟨by omega, by omega⟩))⟩
                  · obtain ⟨rfl, hc⟩ := c; simp only [show (0 : Int).toNat = 0 from rfl] at *; exact Or.inr ⟨ht, Or.inr (Or.inr (Or.inr ⟨by omega, by omega⟩))⟩
                  · omega)
        · refine And.intro (rfl) (And.intro (⟨by omega, by omega⟩) ?_)
          intro v18 e18 l18 h18
          have e18 : v18 = σ 19 k.toNat := e18
          have bv18 := hp0 k.toNat (by omega)
          rw [← e18] at bv18
          intro z19 t19 e19 l19 h19
          try have w19 : t19 = 0 := by omega
          refine And.intro (Nat.le_of_ble_eq_true rfl) ?_
          show xw _ _ _ _ _ _ _ _ _ _ [xvr 0, xvi turned, xvi z19, xvi k] _ _
          intro z20 t20 e20 l20 h20
          try have w20 : t20 = 0 := by omega
          show xw _ _ _ _ _ _ _ _ _ _ [xvr 0, xvi turned, xvi z19, xvi z20] _ _
          exact ih_4 _ (show (z20 + 1).toNat < m4 from by omega) z19 z20 rfl (by
                rcases hv_4 with ⟨ht, hc⟩ | ⟨ht, hc⟩
                · rcases hc with c | c | c | c
                  · obtain ⟨rfl, hc⟩ := c; simp only [show (2 : Int).toNat = 2 from rfl] at *; exact Or.inl ⟨ht, Or.inr (Or.inl ⟨by omega, by omega⟩)⟩
                  · obtain ⟨rfl, hc⟩ := c; simp only [show (1 : Int).toNat = 1 from rfl] at *; exact Or.inl ⟨ht, Or.inr (Or.inr (Or.inl ⟨by omega, by omega⟩))⟩
                  · obtain ⟨rfl, hc⟩ := c; simp only [show (0 : Int).toNat = 0 from rfl] at *; exact Or.inl ⟨ht, Or.inr (Or.inr (Or.inr ⟨by omega, by omega⟩))⟩
                  · omega
                · rcases hc with c | c | c | c
                  · obtain ⟨rfl, hc⟩ := c; simp only [show (2 : Int).toNat = 2 from rfl] at *; exact Or.inr ⟨ht, Or.inr (Or.inl ⟨by omega, by omega⟩)⟩
                  · obtain ⟨rfl, hc⟩ := c; simp only [show (1 : Int).toNat = 1 from rfl] at *; exact Or.inr ⟨ht, Or.inr (Or.inr (Or.inl ⟨by omega, by omega⟩))⟩
                  · obtain ⟨rfl, hc⟩ := c; simp only [show (0 : Int).toNat = 0 from rfl] at *; exact Or.inr ⟨ht, Or.inr (Or.inr (Or.inr ⟨by omega, by omega⟩))⟩
                  · omega)
      · refine And.intro (rfl) (And.intro (⟨by omega, by omega⟩) ?_)
        intro v21 e21 l21 h21
        have e21 : v21 = σ 18 k.toNat := e21
        have bv21 := hp0 k.toNat (by omega)
        rw [← e21] at bv21
        intro z22 t22 e22 l22 h22
        try have w22 : t22 = 0 := by omega
        intro z23 t23 e23 l23 h23
        try have w23 : t23 = 0 := by omega
        refine And.intro (fun c24 => ?_) (fun c24 => ?_)
        · refine And.intro (rfl) (And.intro (⟨by omega, by omega⟩) ?_)
          intro v25 e25 l25 h25
          have e25 : v25 = σ 18 k.toNat := e25
          have bv25 := hp0 k.toNat (by omega)
          rw [← e25] at bv25
          intro z26 t26 e26 l26 h26
          try have w26 : t26 = 0 := by omega
          refine And.intro (Nat.le_of_ble_eq_true rfl) ?_
          show xw _ _ _ _ _ _ _ _ _ _ [xvr 0, xvi turned, xvi z26, xvi k] _ _
          intro z27 t27 e27 l27 h27
          try have w27 : t27 = 0 := by omega
          show xw _ _ _ _ _ _ _ _ _ _ [xvr 0, xvi turned, xvi z26, xvi z27] _ _
          exact ih_4 _ (show (z27 + 1).toNat < m4 from by omega) z26 z27 rfl (by
                rcases hv_4 with ⟨ht, hc⟩ | ⟨ht, hc⟩
                · rcases hc with c | c | c | c
                  · obtain ⟨rfl, hc⟩ := c; simp only [show (2 : Int).toNat = 2 from rfl] at *; exact Or.inl ⟨ht, Or.inr (Or.inl ⟨by omega, by omega⟩)⟩
                  · obtain ⟨rfl, hc⟩ := c; simp only [show (1 : Int).toNat = 1 from rfl] at *; exact Or.inl ⟨ht, Or.inr (Or.inr (Or.inl ⟨by omega, by omega⟩))⟩
                  · obtain ⟨rfl, hc⟩ := c; simp only [show (0 : Int).toNat = 0 from rfl] at *; exact Or.inl ⟨ht, Or.inr (Or.inr (Or.inr ⟨by omega, by omega⟩))⟩
                  · omega
                · rcases hc with c | c | c | c
                  · obtain ⟨rfl, hc⟩ := c; simp only [show (2 : Int).toNat = 2 from rfl] at *; exact Or.inr ⟨ht, Or.inr (Or.inl ⟨by omega, by omega⟩)⟩
                  · obtain ⟨rfl, hc⟩ := c; simp only [show (1 : Int).toNat = 1 from rfl] at *; exact Or.inr ⟨ht, Or.inr (Or.inr (Or.inl ⟨by omega, by omega⟩))⟩
                  · obtain ⟨rfl, hc⟩ := c; simp only [show (0 : Int).toNat = 0 from rfl] at *; exact Or.inr ⟨ht, Or.inr (Or.inr (Or.inr ⟨by omega, by omega⟩))⟩
                  · omega)
        · refine And.intro (rfl) (And.intro (⟨by omega, by omega⟩) ?_)
          intro v28 e28 l28 h28
          have e28 : v28 = σ 19 k.toNat := e28
          have bv28 := hp0 k.toNat (by omega)
          rw [← e28] at bv28
          intro z29 t29 e29 l29 h29
          try have w29 : t29 = 0 := by omega
          refine And.intro (Nat.le_of_ble_eq_true rfl) ?_
          show xw _ _ _ _ _ _ _ _ _ _ [xvr 0, xvi turned, xvi z29, xvi k] _ _
          intro z30 t30 e30 l30 h30
          try have w30 : t30 = 0 := by omega
          show xw _ _ _ _ _ _ _ _ _ _ [xvr 0, xvi turned, xvi z29, xvi z30] _ _
          exact ih_4 _ (show (z30 + 1).toNat < m4 from by omega) z29 z30 rfl (by
                rcases hv_4 with ⟨ht, hc⟩ | ⟨ht, hc⟩
                · rcases hc with c | c | c | c
                  · obtain ⟨rfl, hc⟩ := c; simp only [show (2 : Int).toNat = 2 from rfl] at *; exact Or.inl ⟨ht, Or.inr (Or.inl ⟨by omega, by omega⟩)⟩
                  · obtain ⟨rfl, hc⟩ := c; simp only [show (1 : Int).toNat = 1 from rfl] at *; exact Or.inl ⟨ht, Or.inr (Or.inr (Or.inl ⟨by omega, by omega⟩))⟩
                  · obtain ⟨rfl, hc⟩ := c; simp only [show (0 : Int).toNat = 0 from rfl] at *; exact Or.inl ⟨ht, Or.inr (Or.inr (Or.inr ⟨by omega, by omega⟩))⟩
                  · omega
                · rcases hc with c | c | c | c
                  · obtain ⟨rfl, hc⟩ := c; simp only [show (2 : Int).toNat = 2 from rfl] at *; exact Or.inr ⟨ht, Or.inr (Or.inl ⟨by omega, by omega⟩)⟩
                  · obtain ⟨rfl, hc⟩ := c; simp only [show (1 : Int).toNat = 1 from rfl] at *; exact Or.inr ⟨ht, Or.inr (Or.inr (Or.inl ⟨by omega, by omega⟩))⟩
                  · obtain ⟨rfl, hc⟩ := c; simp only [show (0 : Int).toNat = 0 from rfl] at *; exact Or.inr ⟨ht, Or.inr (Or.inr (Or.inr ⟨by omega, by omega⟩))⟩
                  · omega)
  exact lp_4 _ 0 2 rfl (by omega)
