set_option maxHeartbeats 4000000 in
set_option maxRecDepth 100000 in
theorem s_adds {σ : xS} {k mask : Int} {Q : Option xV → xS → Prop} (hp0 : 0 ≤ k ∧ k ≤ 5) (hp1 : 0 ≤ σ 2 (229 + k).toNat ∧ σ 2 (229 + k).toNat ≤ 51) (hQ : ∀ σ' : xS, Fr [2] [] σ σ' → (AG (up (σ 2) (229 + k).toNat (σ 2 (229 + k).toNat + 1)) (σ' 2)) → Q none σ') : xT kX11_adds [xvr 0, xvi k, xvi mask] σ Q := by
  refine ⟨Nat.le_of_ble_eq_true rfl, fun X hX => ?_⟩
  show X 0 [xvr 0, xvi k, xvi mask] σ
  have hF : Fr [2] [] σ σ := Fr.rf
  have hA : AG (σ 2) (σ 2) := AG.rf
  refine hX 400 0 _ _ ?_
  intro z1 t1 e1 l1 h1
  try have w1 : t1 = 0 := by omega
  intro z2 t2 e2 l2 h2
  try have w2 : t2 = 0 := by omega
  intro z3 t3 e3 l3 h3
  try have w3 : t3 = 0 := by omega
  refine And.intro (rfl) (And.intro (⟨by omega, by omega⟩) ?_)
  intro v4 e4 l4 h4
  have e4 : v4 = σ 2 z3.toNat := e4
  have gv4 : v4 = (σ 2) (229 + k).toNat := hA.rd e4 (by omega) (by omega) (by omega) (by omega)
  have gv4 : v4 = (σ 2) (229 + k).toNat := gv4
  intro z5 t5 e5 l5 h5
  try have w5 : t5 = 0 := by omega
  refine And.intro (rfl) (And.intro (⟨by omega, by omega⟩) ?_)
  have hF := hF.pt (t := 2) (j := z5.toNat) (v := mask) (by decide) (by decide)
  have hA := hA.pi (j := z5.toNat) (v := mask) (by omega) (by omega)
  intro z7 t7 e7 l7 h7
  try have w7 : t7 = 0 := by omega
  refine And.intro (rfl) (And.intro (⟨by omega, by omega⟩) ?_)
  intro v8 e8 l8 h8
  have e8 : v8 = (xput σ 2 z5.toNat mask) 2 z7.toNat := e8
  have gv8 : v8 = (σ 2) (229 + k).toNat := hA.rd e8 (by omega) (by omega) (by omega) (by omega)
  have gv8 : v8 = (σ 2) (229 + k).toNat := gv8
  intro z9 t9 e9 l9 h9
  try have w9 : t9 = 0 := by omega
  refine And.intro (rfl) (And.intro (⟨by omega, by omega⟩) ?_)
  have hF := hF.pt (t := 2) (j := z7.toNat) (v := z9) (by decide) (by decide)
  have hA := hA.pu (j := z7.toNat) (j' := (229 + k).toNat) (v := z9) (v' := (σ 2) (229 + k).toNat + 1) (by omega) (by omega)
  refine And.intro rfl (And.intro rfl ?_)
  exact hQ _ hF hA
set_option maxHeartbeats 4000000 in
set_option maxRecDepth 100000 in
theorem s_learns {σ : xS} {k kind : Int} {Q : Option xV → xS → Prop} (hp0 : 0 ≤ k ∧ k ≤ 5) (hp1 : 0 ≤ kind ∧ kind ≤ 12) (hp2 : 1 ≤ σ 2 (229 + k).toNat ∧ σ 2 (229 + k).toNat ≤ 52) (hp3 : -100 ≤ σ 2 (151 + 13 * k + kind).toNat ∧ σ 2 (151 + 13 * k + kind).toNat ≤ 100) (hQ : ∀ σ' : xS, Fr [2] [] σ σ' → (AG (up (up (σ 2) (229 + k).toNat (σ 2 (229 + k).toNat - 1)) (151 + 13 * k + kind).toNat (σ 2 (151 + 13 * k + kind).toNat + 1)) (σ' 2)) → Q none σ') : xT kX11_learns [xvr 0, xvi k, xvi kind] σ Q := by
  refine ⟨Nat.le_of_ble_eq_true rfl, fun X hX => ?_⟩
  show X 0 [xvr 0, xvi k, xvi kind, xvu, xvu] σ
  have hF : Fr [2] [] σ σ := Fr.rf
  have hA : AG (σ 2) (σ 2) := AG.rf
  refine hX 400 0 _ _ ?_
  intro z1 t1 e1 l1 h1
  try have w1 : t1 = 0 := by omega
  refine And.intro (rfl) (And.intro (⟨by omega, by omega⟩) ?_)
  intro v2 e2 l2 h2
  have e2 : v2 = σ 2 z1.toNat := e2
  have gv2 : v2 = (σ 2) (229 + k).toNat := hA.rd e2 (by omega) (by omega) (by omega) (by omega)
  have gv2 : v2 = (σ 2) (229 + k).toNat := gv2
  refine And.intro (fun c3 => ?_) (fun c3 => ?_)
  · intro z4 t4 e4 l4 h4
    try have w4 : t4 = 0 := by omega
    intro z5 t5 e5 l5 h5
    try have w5 : t5 = 0 := by omega
    refine And.intro (Nat.le_of_ble_eq_true rfl) ?_
    refine And.intro (Nat.le_of_ble_eq_true rfl) ?_
    have lp_26 : ∀ (m26 : Nat) (i : Int), ((52 - i).toNat) = m26 → (0 ≤ i ∧ i ≤ σ 2 (229 + k).toNat) → X 26 [xvr 0, xvi k, xvi kind, xvi z5, xvi i] σ := by
      intro m26
      induction m26 using Nat.strongRecOn with
      | _ m26 ih_26 =>
      intro i hm_26 hv_26
      refine hX 400 26 _ _ ?_
      have lp_63 : ∀ (_ : Unit), (True) → X 63 [xvr 0, xvi k, xvi kind, xvi z5, xvi i] σ := by
        intro _ hv_63
        refine hX 400 63 _ _ ?_
        have lp_95 : ∀ (i2 : Int) (s1 : xS), (Fr [2] [] σ s1 ∧ AG (σ 2) (s1 2) ∧ (0 ≤ i2 ∧ i2 ≤ 52)) → X 95 [xvr 0, xvi k, xvi kind, xvi z5, xvi i2] s1 := by
          intro i2 s1 hv_95
          obtain ⟨hF, hA, hv_95⟩ := hv_95
          refine hX 400 95 _ _ ?_
          intro z9 t9 e9 l9 h9
          try have w9 : t9 = 0 := by omega
          refine And.intro (rfl) (And.intro (⟨by omega, by omega⟩) ?_)
          intro v10 e10 l10 h10
          have e10 : v10 = s1 2 z9.toNat := e10
          have gv10 : v10 = (σ 2) (229 + k).toNat := hA.rd e10 (by omega) (by omega) (by omega) (by omega)
          have gv10 : v10 = (σ 2) (229 + k).toNat := gv10
          intro z11 t11 e11 l11 h11
          try have w11 : t11 = 0 := by omega
          refine And.intro (rfl) (And.intro (⟨by omega, by omega⟩) ?_)
          have hF := hF.pt (t := 2) (j := z9.toNat) (v := z11) (by decide) (by decide)
          have hA := hA.pu (j := z9.toNat) (j' := (229 + k).toNat) (v := z11) (v' := (σ 2) (229 + k).toNat - 1) (by omega) (by omega)
          have lp_109 : ∀ (m109 : Nat) (i3 : Int) (s2 : xS), ((52 - i3).toNat) = m109 → (Fr [2] [] σ s2 ∧ AG (up (σ 2) (229 + k).toNat (σ 2 (229 + k).toNat - 1)) (s2 2) ∧ (0 ≤ i3 ∧ i3 ≤ 52)) → X 109 [xvr 0, xvi k, xvi kind, xvi z5, xvi i3] s2 := by
            intro m109
            induction m109 using Nat.strongRecOn with
            | _ m109 ih_109 =>
            intro i3 s2 hm_109 hv_109
            obtain ⟨hF, hA, hv_109⟩ := hv_109
            refine hX 400 109 _ _ ?_
            intro z14 t14 e14 l14 h14
            try have w14 : t14 = 0 := by omega
            refine And.intro (rfl) (And.intro (⟨by omega, by omega⟩) ?_)
            intro v15 e15 l15 h15
            have e15 : v15 = s2 2 z14.toNat := e15
            have gv15 : v15 = (up (σ 2) (229 + k).toNat ((σ 2) (229 + k).toNat - 1)) (229 + k).toNat := hA.rd e15 (by omega) (by omega) (by omega) (by omega)
            rw [up_s] at gv15
            have gv15 : v15 = ((σ 2) (229 + k).toNat - 1) := gv15
            refine And.intro (fun c16 => ?_) (fun c16 => ?_)
            · intro z17 t17 e17 l17 h17
              try have w17 : t17 = 0 := by omega
              intro z18 t18 e18 l18 h18
              try have w18 : t18 = 0 := by omega
              intro z19 t19 e19 l19 h19
              try have w19 : t19 = 0 := by omega
              refine And.intro (rfl) (And.intro (⟨by omega, by omega⟩) ?_)
              intro v20 e20 l20 h20
              have e20 : v20 = s2 2 z19.toNat := e20
              have gv20 : v20 = (up (σ 2) (229 + k).toNat ((σ 2) (229 + k).toNat - 1)) (151 + 13 * k + kind).toNat := hA.rd e20 (by omega) (by omega) (by omega) (by omega)
              rw [up_n (by omega)] at gv20
              have gv20 : v20 = (σ 2) (151 + 13 * k + kind).toNat := gv20
              intro z21 t21 e21 l21 h21
              try have w21 : t21 = 0 := by omega
              refine And.intro (rfl) (And.intro (⟨by omega, by omega⟩) ?_)
              have hF := hF.pt (t := 2) (j := z19.toNat) (v := z21) (by decide) (by decide)
              have hA := hA.pu (j := z19.toNat) (j' := (151 + 13 * k + kind).toNat) (v := z21) (v' := (σ 2) (151 + 13 * k + kind).toNat + 1) (by omega) (by omega)
              refine And.intro rfl (And.intro rfl ?_)
              exact hQ _ hF hA
            · intro z23 t23 e23 l23 h23
              try have w23 : t23 = 0 := by omega
              intro z24 t24 e24 l24 h24
              try have w24 : t24 = 0 := by omega
              intro z25 t25 e25 l25 h25
              try have w25 : t25 = 0 := by omega
              refine And.intro (rfl) (And.intro (⟨by omega, by omega⟩) ?_)
              intro v26 e26 l26 h26
              have e26 : v26 = s2 2 z25.toNat := e26
              refine And.intro (rfl) (And.intro (⟨by omega, by omega⟩) ?_)
              have hF := hF.pt (t := 2) (j := z23.toNat) (v := v26) (by decide) (by decide)
              have hA := hA.pi (j := z23.toNat) (v := v26) (by omega) (by omega)
              intro z28 t28 e28 l28 h28
              try have w28 : t28 = 0 := by omega
              exact ih_109 _ (show (52 - z28).toNat < m109 from by omega) z28 (xput s2 2 z23.toNat v26) rfl (show Fr [2] [] σ (xput s2 2 z23.toNat v26) ∧ AG (up (σ 2) (229 + k).toNat (σ 2 (229 + k).toNat - 1)) ((xput s2 2 z23.toNat v26) 2) ∧ (0 ≤ z28 ∧ z28 ≤ 52) from by (refine ⟨hF, hA, ?_⟩; omega))
          exact lp_109 _ i2 (xput s1 2 z9.toNat z11) rfl (show Fr [2] [] σ (xput s1 2 z9.toNat z11) ∧ AG (up (σ 2) (229 + k).toNat (σ 2 (229 + k).toNat - 1)) ((xput s1 2 z9.toNat z11) 2) ∧ (0 ≤ i2 ∧ i2 ≤ 52) from by (refine ⟨hF, hA, ?_⟩; omega))
        intro z29 t29 e29 l29 h29
        try have w29 : t29 = 0 := by omega
        refine And.intro (rfl) (And.intro (⟨by omega, by omega⟩) ?_)
        intro v30 e30 l30 h30
        have e30 : v30 = σ 2 z29.toNat := e30
        have gv30 : v30 = (σ 2) (229 + k).toNat := hA.rd e30 (by omega) (by omega) (by omega) (by omega)
        have gv30 : v30 = (σ 2) (229 + k).toNat := gv30
        refine And.intro (fun c31 => ?_) (fun c31 => ?_)
        · exact lp_95 i σ (show Fr [2] [] σ σ ∧ AG (σ 2) (σ 2) ∧ (0 ≤ i ∧ i ≤ 52) from by (refine ⟨hF, hA, ?_⟩; omega))
        · refine And.intro (Nat.le_of_ble_eq_true rfl) ?_
          intro z32 t32 e32 l32 h32
          try have w32 : t32 = 0 := by omega
          refine And.intro (rfl) (And.intro (⟨by omega, by omega⟩) ?_)
          intro v33 e33 l33 h33
          have e33 : v33 = σ 2 z32.toNat := e33
          intro z34 t34 e34 l34 h34
          try have w34 : t34 = 0 := by omega
          refine And.intro (rfl) (And.intro (⟨by omega, by omega⟩) ?_)
          have hF := hF.pt (t := 2) (j := z32.toNat) (v := z34) (by decide) (by decide)
          have hA := hA.pi (j := z32.toNat) (v := z34) (by omega) (by omega)
          exact lp_95 0 (xput σ 2 z32.toNat z34) (show Fr [2] [] σ (xput σ 2 z32.toNat z34) ∧ AG (σ 2) ((xput σ 2 z32.toNat z34) 2) ∧ (0 ≤ 0 ∧ 0 ≤ 52) from by (refine ⟨hF, hA, ?_⟩; omega))
      intro z36 t36 e36 l36 h36
      try have w36 : t36 = 0 := by omega
      refine And.intro (rfl) (And.intro (⟨by omega, by omega⟩) ?_)
      intro v37 e37 l37 h37
      have e37 : v37 = σ 2 z36.toNat := e37
      have gv37 : v37 = (σ 2) (229 + k).toNat := hA.rd e37 (by omega) (by omega) (by omega) (by omega)
      have gv37 : v37 = (σ 2) (229 + k).toNat := gv37
      refine And.intro (fun c38 => ?_) (fun c38 => ?_)
      · exact lp_63 () (show True from by first | trivial | omega | (refine ⟨by assumption, ?_⟩; omega) | (refine ⟨?_, ?_⟩ <;> omega))
      · intro z39 t39 e39 l39 h39
        try have w39 : t39 = 0 := by omega
        refine And.intro (rfl) (And.intro (⟨by omega, by omega⟩) ?_)
        intro v40 e40 l40 h40
        have e40 : v40 = σ 2 z39.toNat := e40
        refine s_bitOf (σ := σ) (set := v40) (k := kind)  (fun r41 p41 => ?_)
        have p41 : r41 = 0 ∨ r41 = 1 := p41
        refine And.intro (fun c42 => ?_) (fun c42 => ?_)
        · exact lp_63 () (show True from by first | trivial | omega | (refine ⟨by assumption, ?_⟩; omega) | (refine ⟨?_, ?_⟩ <;> omega))
        · intro z43 t43 e43 l43 h43
          try have w43 : t43 = 0 := by omega
          exact ih_26 _ (show (52 - z43).toNat < m26 from by omega) z43 rfl (show 0 ≤ z43 ∧ z43 ≤ σ 2 (229 + k).toNat from by first | trivial | omega | (refine ⟨by assumption, ?_⟩; omega) | (refine ⟨?_, ?_⟩ <;> omega))
    exact lp_26 _ 0 rfl (show 0 ≤ 0 ∧ 0 ≤ σ 2 (229 + k).toNat from by first | trivial | omega | (refine ⟨by assumption, ?_⟩; omega) | (refine ⟨?_, ?_⟩ <;> omega))
  · exfalso; omega
set_option maxHeartbeats 4000000 in
set_option maxRecDepth 100000 in
theorem s_cannot {σ : xS} {k kind : Int} {Q : Option xV → xS → Prop} (hp0 : 0 ≤ k ∧ k ≤ 5) (hp1 : 0 ≤ σ 2 (229 + k).toNat ∧ σ 2 (229 + k).toNat ≤ 52) (hQ : ∀ σ' : xS, Fr [2] [] σ σ' → (AG (σ 2) (σ' 2)) → Q none σ') : xT kX11_cannot [xvr 0, xvi k, xvi kind] σ Q := by
  refine ⟨Nat.le_of_ble_eq_true rfl, fun X hX => ?_⟩
  show X 0 [xvr 0, xvi k, xvi kind, xvu] σ
  have hF : Fr [2] [] σ σ := Fr.rf
  have hA : AG (σ 2) (σ 2) := AG.rf
  refine hX 400 0 _ _ ?_
  refine And.intro (Nat.le_of_ble_eq_true rfl) ?_
  have lp_2 : ∀ (m2 : Nat) (i : Int) (s1 : xS), ((52 - i).toNat) = m2 → (Fr [2] [] σ s1 ∧ AG (σ 2) (s1 2) ∧ (0 ≤ i ∧ i ≤ 52)) → X 2 [xvr 0, xvi k, xvi kind, xvi i] s1 := by
    intro m2
    induction m2 using Nat.strongRecOn with
    | _ m2 ih_2 =>
    intro i s1 hm_2 hv_2
    obtain ⟨hF, hA, hv_2⟩ := hv_2
    refine hX 400 2 _ _ ?_
    intro z2 t2 e2 l2 h2
    try have w2 : t2 = 0 := by omega
    refine And.intro (rfl) (And.intro (⟨by omega, by omega⟩) ?_)
    intro v3 e3 l3 h3
    have e3 : v3 = s1 2 z2.toNat := e3
    have gv3 : v3 = (σ 2) (229 + k).toNat := hA.rd e3 (by omega) (by omega) (by omega) (by omega)
    have gv3 : v3 = (σ 2) (229 + k).toNat := gv3
    refine And.intro (fun c4 => ?_) (fun c4 => ?_)
    · refine And.intro rfl (And.intro rfl ?_)
      exact hQ _ hF hA
    · intro z5 t5 e5 l5 h5
      try have w5 : t5 = 0 := by omega
      intro z6 t6 e6 l6 h6
      try have w6 : t6 = 0 := by omega
      intro z7 t7 e7 l7 h7
      try have w7 : t7 = 0 := by omega
      refine And.intro (rfl) (And.intro (⟨by omega, by omega⟩) ?_)
      intro v8 e8 l8 h8
      have e8 : v8 = s1 2 z7.toNat := e8
      intro z9 e9 l9 h9
      intro z10 e10 l10 h10
      refine And.intro (rfl) (And.intro (⟨by omega, by omega⟩) ?_)
      have hF := hF.pt (t := 2) (j := z7.toNat) (v := z10) (by decide) (by decide)
      have hA := hA.pi (j := z7.toNat) (v := z10) (by omega) (by omega)
      intro z12 t12 e12 l12 h12
      try have w12 : t12 = 0 := by omega
      exact ih_2 _ (show (52 - z12).toNat < m2 from by omega) z12 (xput s1 2 z7.toNat z10) rfl (show Fr [2] [] σ (xput s1 2 z7.toNat z10) ∧ AG (σ 2) ((xput s1 2 z7.toNat z10) 2) ∧ (0 ≤ z12 ∧ z12 ≤ 52) from by (refine ⟨hF, hA, ?_⟩; omega))
  exact lp_2 _ 0 σ rfl (show Fr [2] [] σ σ ∧ AG (σ 2) (σ 2) ∧ (0 ≤ 0 ∧ 0 ≤ 52) from by (refine ⟨hF, hA, ?_⟩; omega))
set_option maxHeartbeats 4000000 in
set_option maxRecDepth 100000 in
theorem s_handM {σ : xS} {k kind more : Int} {Q : Option xV → xS → Prop} (hp0 : 0 ≤ k ∧ k ≤ 5) (hp1 : 0 ≤ kind ∧ kind ≤ 12) (hp2 : -1000 ≤ σ 2 (60 + 13 * k + kind).toNat + more ∧ σ 2 (60 + 13 * k + kind).toNat + more ≤ 1000) (hQ : ∀ r : Int, ∀ σ' : xS, Fr [2] [] σ σ' → (r = σ 2 (60 + 13 * k + kind).toNat + more ∧ AG (up (σ 2) (60 + 13 * k + kind).toNat (σ 2 (60 + 13 * k + kind).toNat + more)) (σ' 2)) → Q (some (xvi r)) σ') : xT kX11_handOf [xvr 0, xvi k, xvi kind, xvi more] σ Q := by
  refine ⟨Nat.le_of_ble_eq_true rfl, fun X hX => ?_⟩
  show X 0 [xvr 0, xvi k, xvi kind, xvi more] σ
  have hF : Fr [2] [] σ σ := Fr.rf
  have hA : AG (σ 2) (σ 2) := AG.rf
  refine hX 400 0 _ _ ?_
  intro z1 t1 e1 l1 h1
  try have w1 : t1 = 0 := by omega
  intro z2 t2 e2 l2 h2
  try have w2 : t2 = 0 := by omega
  intro z3 t3 e3 l3 h3
  try have w3 : t3 = 0 := by omega
  refine And.intro (rfl) (And.intro (⟨by omega, by omega⟩) ?_)
  intro v4 e4 l4 h4
  have e4 : v4 = σ 2 z3.toNat := e4
  have gv4 : v4 = (σ 2) (60 + 13 * k + kind).toNat := hA.rd e4 (by omega) (by omega) (by omega) (by omega)
  have gv4 : v4 = (σ 2) (60 + 13 * k + kind).toNat := gv4
  intro z5 t5 e5 l5 h5
  try have w5 : t5 = 0 := by omega
  refine And.intro (rfl) (And.intro (⟨by omega, by omega⟩) ?_)
  have hF := hF.pt (t := 2) (j := z3.toNat) (v := z5) (by decide) (by decide)
  have hA := hA.pu (j := z3.toNat) (j' := (60 + 13 * k + kind).toNat) (v := z5) (v' := (σ 2) (60 + 13 * k + kind).toNat + more) (by omega) (by omega)
  intro z7 t7 e7 l7 h7
  try have w7 : t7 = 0 := by omega
  intro z8 t8 e8 l8 h8
  try have w8 : t8 = 0 := by omega
  intro z9 t9 e9 l9 h9
  try have w9 : t9 = 0 := by omega
  refine And.intro (rfl) (And.intro (⟨by omega, by omega⟩) ?_)
  intro v10 e10 l10 h10
  have e10 : v10 = (xput σ 2 z3.toNat z5) 2 z9.toNat := e10
  have gv10 : v10 = (up (σ 2) (60 + 13 * k + kind).toNat ((σ 2) (60 + 13 * k + kind).toNat + more)) (60 + 13 * k + kind).toNat := hA.rd e10 (by omega) (by omega) (by omega) (by omega)
  rw [up_s] at gv10
  have gv10 : v10 = ((σ 2) (60 + 13 * k + kind).toNat + more) := gv10
  refine And.intro rfl ?_
  exact hQ _ _ hF ⟨by omega, hA⟩
