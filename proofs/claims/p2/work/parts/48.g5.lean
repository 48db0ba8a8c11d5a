set_option maxHeartbeats 40000000 in
set_option maxRecDepth 100000 in
theorem s_sureV {σ : xS} {b kind : Int} {Q : Option xV → xS → Prop} (hV : V0 (σ 2)) (hp0 : 0 ≤ b ∧ b ≤ 5) (hp1 : 0 ≤ kind ∧ kind ≤ 12) (hQ : ∀ r : Int, 0 ≤ r ∧ r ≤ 2 → Q (some (xvi r)) σ) : xT kX11_sureOf [xvr 0, xvi b, xvi kind] σ Q := by
  refine ⟨Nat.le_of_ble_eq_true rfl, fun X hX => ?_⟩
  show X 0 [xvr 0, xvi b, xvi kind, xvu] σ
  refine hX 400 0 _ _ ?_
  intro z1 t1 e1 l1 h1
  try have w1 : t1 = 0 := by omega
  intro z2 t2 e2 l2 h2
  try have w2 : t2 = 0 := by omega
  intro z3 t3 e3 l3 h3
  try have w3 : t3 = 0 := by omega
  refine And.intro (rfl) (And.intro (⟨by omega, by omega⟩) ?_)
  intro v4 e4 l4 h4
  have e4 : v4 = σ 2 z3.toNat := e4
  refine And.intro (fun c5 => ?_) (fun c5 => ?_)
  · refine And.intro (Nat.le_of_ble_eq_true rfl) ?_
    show xw _ _ _ _ _ _ _ _ _ _ [xvr 0, xvi b, xvi kind, xvi 0] _ _
    have lp_22 : ∀ (m22 : Nat) (i : Int), ((52 - i).toNat) = m22 → (0 ≤ i ∧ i ≤ 52) → X 22 [xvr 0, xvi b, xvi kind, xvi i] σ := by
      intro m22
      induction m22 using Nat.strongRecOn with
      | _ m22 ih_22 =>
      intro i hm_22 hv_22
      refine hX 400 22 _ _ ?_
      intro z7 t7 e7 l7 h7
      try have w7 : t7 = 0 := by omega
      refine And.intro (rfl) (And.intro (⟨by omega, by omega⟩) ?_)
      intro v8 e8 l8 h8
      have e8 : v8 = σ 2 z7.toNat := e8
      have a2 := hV.others (p := b.toNat) (by omega); have i3 := otI (σ 2) (k := b) (by omega); rw [show (229 + b) = z7 from by omega] at i3
      refine And.intro (fun c9 => ?_) (fun c9 => ?_)
      · refine And.intro rfl ?_
        exact hQ _ (by omega)
      · intro z10 t10 e10 l10 h10
        try have w10 : t10 = 0 := by omega
        intro z11 t11 e11 l11 h11
        try have w11 : t11 = 0 := by omega
        intro z12 t12 e12 l12 h12
        try have w12 : t12 = 0 := by omega
        refine And.intro (rfl) (And.intro (⟨by omega, by omega⟩) ?_)
        intro v13 e13 l13 h13
        have e13 : v13 = σ 2 z12.toNat := e13
        refine s_bitOf (σ := σ) (set := v13) (k := kind)  (fun r14 p14 => ?_)
        have p14 : r14 = 0 ∨ r14 = 1 := p14
        refine And.intro (fun c15 => ?_) (fun c15 => ?_)
        · intro z16 t16 e16 l16 h16
          try have w16 : t16 = 0 := by omega
          show xw _ _ _ _ _ _ _ _ _ _ [xvr 0, xvi b, xvi kind, xvi z16] _ _
          exact ih_22 _ (show (52 - z16).toNat < m22 from by omega) z16 rfl (show 0 ≤ z16 ∧ z16 ≤ 52 from by first | trivial | omega | (refine ⟨by assumption, ?_⟩; omega) | (refine ⟨?_, ?_⟩ <;> omega))
        · refine And.intro rfl ?_
          exact hQ _ (by omega)
    exact lp_22 _ 0 rfl (show 0 ≤ 0 ∧ 0 ≤ 52 from by first | trivial | omega | (refine ⟨by assumption, ?_⟩; omega) | (refine ⟨?_, ?_⟩ <;> omega))
  · refine And.intro rfl ?_
    exact hQ _ (by omega)
set_option maxHeartbeats 40000000 in
set_option maxRecDepth 100000 in
theorem s_asks {σ : xS} {a b kind lies told : Int} {Q : Option xV → xS → Prop} (hp0 : V0 (σ 2)) (hp1 : 0 ≤ σ 2 6 ∧ σ 2 6 < σ 2 1) (hp2 : 0 ≤ a ∧ a < σ 2 1) (hp3 : 0 ≤ b ∧ b < σ 2 1) (hp4 : ¬ a = b) (hp5 : 0 ≤ kind ∧ kind < σ 2 0) (hp6 : 1 ≤ σ 2 (60 + 13 * a + kind).toNat) (hQ : ∀ r : Int, ∀ σ' : xS, Fr [2, 7] [24] σ σ' → (VG (σ' 2) ∧ LPx (σ 2) (σ' 2)) → Q (some (xvi r)) σ') : xT kX11_asks [xvr 0, xvi a, xvi b, xvi kind, xvi lies, xvi told] σ Q := by
  refine ⟨Nat.le_of_ble_eq_true rfl, fun X hX => ?_⟩
  show X 0 [xvr 0, xvi a, xvi b, xvi kind, xvi lies, xvi told, xvu, xvu, xvu, xvu, xvu, xvu, xvu, xvu] σ
  have hF : Fr [2, 7] [24] σ σ := Fr.rf
  have hA : AG (σ 2) (σ 2) := AG.rf
  refine hX 600 0 _ _ ?_
  have hV := hp0; have mm0 := hp0.1.1; have mm1 := hp0.1.2.1; have mm7 := hp0.1.2.2.2
  refine s_sureV (σ := σ) (b := b) (kind := kind) hV (by omega) (by omega) (fun r1 p1 => ?_)
  refine And.intro (Nat.le_of_ble_eq_true rfl) ?_
  show xw _ _ _ _ _ _ _ _ _ _ [xvr 0, xvi a, xvi b, xvi kind, xvi lies, xvi told, xvi r1, xvu, xvu, xvu, xvu, xvu, xvu, xvu] _ _
  refine s_hand0v (σ := σ) (k := b) (kind := kind) hV (by omega) (by omega) (fun r2 p2 => ?_)
  have hHb : hd (σ 2) b.toNat kind.toNat = r2 := by have i1 := hdI (σ 2) (k := b) (kind := kind) (by omega) (by omega); omega
  have hH4 := hV.hand (p := b.toNat) (k := kind.toNat) (by omega) (by omega)
  refine And.intro (Nat.le_of_ble_eq_true rfl) ?_
  show xw _ _ _ _ _ _ _ _ _ _ [xvr 0, xvi a, xvi b, xvi kind, xvi lies, xvi told, xvi r1, xvi r2, xvu, xvu, xvu, xvu, xvu, xvu] _ _
  have lp_32 : ∀ (_ : Unit), (True) → X 32 [xvr 0, xvi a, xvi b, xvi kind, xvi lies, xvi told, xvi r1, xvi r2, xvu, xvu, xvu, xvu, xvu, xvu] σ := by
    intro _ hv_32
    refine hX 600 32 _ _ ?_
    refine And.intro (Nat.le_of_ble_eq_true rfl) ?_
    show xw _ _ _ _ _ _ _ _ _ _ [xvr 0, xvi a, xvi b, xvi kind, xvi lies, xvi told, xvi r1, xvi r2, xvi 0, xvu, xvu, xvu, xvu, xvu] _ _
    refine And.intro (fun _ => ?_) (fun c4 => absurd c4 (by decide))
    refine And.intro (Nat.le_of_ble_eq_true rfl) ?_
    show xw _ _ _ _ _ _ _ _ _ _ [xvr 0, xvi a, xvi b, xvi kind, xvi lies, xvi told, xvi r1, xvi r2, xvi 0, xvi r2, xvu, xvu, xvu, xvu] _ _
    refine And.intro (Nat.le_of_ble_eq_true rfl) ?_
    show xw _ _ _ _ _ _ _ _ _ _ [xvr 0, xvi a, xvi b, xvi kind, xvi lies, xvi told, xvi r1, xvi r2, xvi 0, xvi r2, xvi (-1), xvu, xvu, xvu] _ _
    refine And.intro (Nat.le_of_ble_eq_true rfl) ?_
    show xw _ _ _ _ _ _ _ _ _ _ [xvr 0, xvi a, xvi b, xvi kind, xvi lies, xvi told, xvi r1, xvi r2, xvi 0, xvi r2, xvi (-1), xvi (-1), xvu, xvu] _ _
    intro z5 t5 e5 l5 h5
    try have w5 : t5 = 0 := by omega
    refine And.intro (rfl) (And.intro (⟨by omega, by omega⟩) ?_)
    intro v6 e6 l6 h6
    have e6 : v6 = σ 2 1 := e6
    have gv6 : v6 = (σ 2) 1 := hA.rd e6 (by omega) (by omega) (by omega) (by omega)
    have gv6 : v6 = (σ 2) 1 := gv6
    refine And.intro (by omega) ?_
    intro z7 e7 f7 l7 h7
    replace f7 := f7 (by omega) (by omega)
    have g7 := Int.emod_nonneg z5 (b := v6) (by omega); have k7 := Int.emod_lt_of_pos z5 (b := v6) (by omega); rw [← f7] at g7 k7
    refine And.intro (Nat.le_of_ble_eq_true rfl) ?_
    show xw _ _ _ _ _ _ _ _ _ _ [xvr 0, xvi a, xvi b, xvi kind, xvi lies, xvi told, xvi r1, xvi r2, xvi 0, xvi r2, xvi (-1), xvi (-1), xvi z7, xvu] _ _
    refine And.intro (rfl) (And.intro (⟨by omega, by omega⟩) ?_)
    intro v8 e8 l8 h8
    have e8 : v8 = σ 2 5 := e8
    intro z9 t9 e9 l9 h9
    try have w9 : t9 = 0 := by omega
    refine And.intro (rfl) (And.intro (⟨by omega, by omega⟩) ?_)
    have hF := hF.pt (t := 2) (j := 5) (v := z9) (by decide) (by decide)
    have hA := hA.p5 (v := z9)
    intro z11 t11 e11 l11 h11
    try have w11 : t11 = 0 := by omega
    refine And.intro (rfl) (And.intro (⟨by omega, by omega⟩) ?_)
    intro v12 e12 l12 h12
    have e12 : v12 = (xput σ 2 5 z9) 2 z11.toNat := e12
    intro z13 t13 e13 l13 h13
    try have w13 : t13 = 0 := by omega
    refine And.intro (rfl) (And.intro (⟨by omega, by omega⟩) ?_)
    have hF := hF.pt (t := 2) (j := z11.toNat) (v := z13) (by decide) (by decide)
    have hA := hA.pi (j := z11.toNat) (v := z13) (by omega) (by omega)
    have lp_115 : ∀ (s1 : xS), (Fr [2, 7] [24] σ s1 ∧ V0 (s1 2) ∧ LO (σ 2) (s1 2) ∧ HEx (σ 2) (s1 2)) → X 115 [xvr 0, xvi a, xvi b, xvi kind, xvi lies, xvi told, xvi r1, xvi r2, xvi 0, xvi r2, xvi (-1), xvi (-1), xvi z7, xvu] s1 := by
      intro s1 hv_115
      obtain ⟨hF, hV, hL, hE⟩ := hv_115
      have hA : AG (s1 2) (s1 2) := AG.rf
      have hb9 := hE b.toNat kind.toNat (by omega) (by omega)
      have q0 : s1 2 0 = σ 2 0 := hL 0 (by omega) (by omega) (by omega); have q1 : s1 2 1 = σ 2 1 := hL 1 (by omega) (by omega) (by omega); have q6 : s1 2 6 = σ 2 6 := hL 6 (by omega) (by omega) (by omega)
      sorry
    intro z16 t16 e16 l16 h16
    try have w16 : t16 = 0 := by omega
    intro z17 t17 e17 l17 h17
    try have w17 : t17 = 0 := by omega
    intro z18 t18 e18 l18 h18
    try have w18 : t18 = 0 := by omega
    refine And.intro (rfl) (And.intro (⟨by omega, by omega⟩) ?_)
    intro v19 e19 l19 h19
    have e19 : v19 = (xput (xput σ 2 5 z9) 2 z11.toNat z13) 2 z18.toNat := e19
    have gv19 : v19 = (σ 2) (151 + 13 * a + kind).toNat := hA.rd e19 (by omega) (by omega) (by omega) (by omega)
    have gv19 : v19 = (σ 2) (151 + 13 * a + kind).toNat := gv19
    refine And.intro (fun c20 => ?_) (fun c20 => ?_)
    · exact lp_115 (xput (xput σ 2 5 z9) 2 z11.toNat z13) ⟨hF, hV.ag hA, LO.ag hA, HEx.ag hA⟩
    · have hV2 : V0 ((xput (xput σ 2 5 z9) 2 z11.toNat z13) 2) := hV.ag hA
      have hHE : HEx (σ 2) ((xput (xput σ 2 5 z9) 2 z11.toNat z13) 2) := HEx.ag hA; have hHa := hHE a.toNat kind.toNat (by omega) (by omega)
      have hkA : kn ((xput (xput σ 2 5 z9) 2 z11.toNat z13) 2) a.toNat kind.toNat < hd ((xput (xput σ 2 5 z9) 2 z11.toNat z13) 2) a.toNat kind.toNat := by have i1 := hdI (σ 2) (k := a) (kind := kind) (by omega) (by omega); have i2 := knI' (σ 2) (k := a) (kind := kind) (by omega) (by omega); have k9 : kn ((xput (xput σ 2 5 z9) 2 z11.toNat z13) 2) a.toNat kind.toNat = kn (σ 2) a.toNat kind.toNat := hA _ (nir (by omega) (by omega) (by omega)); omega
      refine s_learns (σ := (xput (xput σ 2 5 z9) 2 z11.toNat z13)) (k := a) (kind := kind) (by omega) (by omega) (by have i1 := hdI ((xput (xput σ 2 5 z9) 2 z11.toNat z13) 2) (k := a) (kind := kind) (by omega) (by omega); have i2 := knI' ((xput (xput σ 2 5 z9) 2 z11.toNat z13) 2) (k := a) (kind := kind) (by omega) (by omega); have i3 := otI ((xput (xput σ 2 5 z9) 2 z11.toNat z13) 2) (k := a) (by omega); have a1 := hV2.some (p := a.toNat) (k := kind.toNat) (by omega) (by omega); have a2 := hV2.others (p := a.toNat) (by omega); have a3 := hV2.2.2.1 a.toNat kind.toNat (by omega) (by omega); have a4 := hV2.hand (p := a.toNat) (k := kind.toNat) (by omega) (by omega); omega) (by have i1 := hdI ((xput (xput σ 2 5 z9) 2 z11.toNat z13) 2) (k := a) (kind := kind) (by omega) (by omega); have i2 := knI' ((xput (xput σ 2 5 z9) 2 z11.toNat z13) 2) (k := a) (kind := kind) (by omega) (by omega); have i3 := otI ((xput (xput σ 2 5 z9) 2 z11.toNat z13) 2) (k := a) (by omega); have a1 := hV2.some (p := a.toNat) (k := kind.toNat) (by omega) (by omega); have a2 := hV2.others (p := a.toNat) (by omega); have a3 := hV2.2.2.1 a.toNat kind.toNat (by omega) (by omega); have a4 := hV2.hand (p := a.toNat) (k := kind.toNat) (by omega) (by omega); omega) (fun σ21 f21 p21 => ?_)
      have hF := hF.tr f21 (by decide) (by decide)
      obtain ⟨hV21, n21, o21, d21, u21⟩ := hV2.learn (by omega) (by omega) hkA p21
      have x115 : Fr [2, 7] [24] σ σ21 ∧ V0 (σ21 2) ∧ LO (σ 2) (σ21 2) ∧ HEx (σ 2) (σ21 2) := ⟨hF, hV21, (LO.ag hA).tr o21, hHE.tr d21⟩
      exact lp_115 σ21 x115
  refine And.intro (fun c22 => ?_) (fun c22 => ?_)
  · exact lp_32 () (show True from by first | trivial | omega | (refine ⟨by assumption, ?_⟩; omega) | (refine ⟨?_, ?_⟩ <;> omega))
  · refine And.intro (fun c23 => ?_) (fun c23 => ?_)
    · exact lp_32 () (show True from by first | trivial | omega | (refine ⟨by assumption, ?_⟩; omega) | (refine ⟨?_, ?_⟩ <;> omega))
    · refine And.intro (Nat.le_of_ble_eq_true rfl) ?_
      show xw _ _ _ _ _ _ _ _ _ _ [xvr 0, xvi a, xvi b, xvi kind, xvi lies, xvi told, xvi r1, xvi r2, xvi 1, xvu, xvu, xvu, xvu, xvu] _ _
      refine And.intro (fun c24 => absurd (by decide) c24) (fun _ => ?_)
      refine And.intro (Nat.le_of_ble_eq_true rfl) ?_
      show xw _ _ _ _ _ _ _ _ _ _ [xvr 0, xvi a, xvi b, xvi kind, xvi lies, xvi told, xvi r1, xvi r2, xvi 1, xvi 0, xvu, xvu, xvu, xvu] _ _
      refine And.intro (Nat.le_of_ble_eq_true rfl) ?_
      show xw _ _ _ _ _ _ _ _ _ _ [xvr 0, xvi a, xvi b, xvi kind, xvi lies, xvi told, xvi r1, xvi r2, xvi 1, xvi 0, xvi (-1), xvu, xvu, xvu] _ _
      refine And.intro (Nat.le_of_ble_eq_true rfl) ?_
      show xw _ _ _ _ _ _ _ _ _ _ [xvr 0, xvi a, xvi b, xvi kind, xvi lies, xvi told, xvi r1, xvi r2, xvi 1, xvi 0, xvi (-1), xvi (-1), xvu, xvu] _ _
      intro z25 t25 e25 l25 h25
      try have w25 : t25 = 0 := by omega
      refine And.intro (rfl) (And.intro (⟨by omega, by omega⟩) ?_)
      intro v26 e26 l26 h26
      have e26 : v26 = σ 2 1 := e26
      have gv26 : v26 = (σ 2) 1 := hA.rd e26 (by omega) (by omega) (by omega) (by omega)
      have gv26 : v26 = (σ 2) 1 := gv26
      refine And.intro (by omega) ?_
      intro z27 e27 f27 l27 h27
      replace f27 := f27 (by omega) (by omega)
      have g27 := Int.emod_nonneg z25 (b := v26) (by omega); have k27 := Int.emod_lt_of_pos z25 (b := v26) (by omega); rw [← f27] at g27 k27
      refine And.intro (Nat.le_of_ble_eq_true rfl) ?_
      show xw _ _ _ _ _ _ _ _ _ _ [xvr 0, xvi a, xvi b, xvi kind, xvi lies, xvi told, xvi r1, xvi r2, xvi 1, xvi 0, xvi (-1), xvi (-1), xvi z27, xvu] _ _
      refine And.intro (rfl) (And.intro (⟨by omega, by omega⟩) ?_)
      intro v28 e28 l28 h28
      have e28 : v28 = σ 2 5 := e28
      intro z29 t29 e29 l29 h29
      try have w29 : t29 = 0 := by omega
      refine And.intro (rfl) (And.intro (⟨by omega, by omega⟩) ?_)
      have hF := hF.pt (t := 2) (j := 5) (v := z29) (by decide) (by decide)
      have hA := hA.p5 (v := z29)
      intro z31 t31 e31 l31 h31
      try have w31 : t31 = 0 := by omega
      refine And.intro (rfl) (And.intro (⟨by omega, by omega⟩) ?_)
      intro v32 e32 l32 h32
      have e32 : v32 = (xput σ 2 5 z29) 2 z31.toNat := e32
      intro z33 t33 e33 l33 h33
      try have w33 : t33 = 0 := by omega
      refine And.intro (rfl) (And.intro (⟨by omega, by omega⟩) ?_)
      have hF := hF.pt (t := 2) (j := z31.toNat) (v := z33) (by decide) (by decide)
      have hA := hA.pi (j := z31.toNat) (v := z33) (by omega) (by omega)
      have lp_115 : ∀ (s1 : xS), (Fr [2, 7] [24] σ s1 ∧ V0 (s1 2) ∧ LO (σ 2) (s1 2) ∧ HEx (σ 2) (s1 2)) → X 115 [xvr 0, xvi a, xvi b, xvi kind, xvi lies, xvi told, xvi r1, xvi r2, xvi 1, xvi 0, xvi (-1), xvi (-1), xvi z27, xvu] s1 := by
        intro s1 hv_115
        obtain ⟨hF, hV, hL, hE⟩ := hv_115
        have hA : AG (s1 2) (s1 2) := AG.rf
        have hb9 := hE b.toNat kind.toNat (by omega) (by omega)
        have q0 : s1 2 0 = σ 2 0 := hL 0 (by omega) (by omega) (by omega); have q1 : s1 2 1 = σ 2 1 := hL 1 (by omega) (by omega) (by omega); have q6 : s1 2 6 = σ 2 6 := hL 6 (by omega) (by omega) (by omega)
        sorry
      intro z36 t36 e36 l36 h36
      try have w36 : t36 = 0 := by omega
      intro z37 t37 e37 l37 h37
      try have w37 : t37 = 0 := by omega
      intro z38 t38 e38 l38 h38
      try have w38 : t38 = 0 := by omega
      refine And.intro (rfl) (And.intro (⟨by omega, by omega⟩) ?_)
      intro v39 e39 l39 h39
      have e39 : v39 = (xput (xput σ 2 5 z29) 2 z31.toNat z33) 2 z38.toNat := e39
      have gv39 : v39 = (σ 2) (151 + 13 * a + kind).toNat := hA.rd e39 (by omega) (by omega) (by omega) (by omega)
      have gv39 : v39 = (σ 2) (151 + 13 * a + kind).toNat := gv39
      refine And.intro (fun c40 => ?_) (fun c40 => ?_)
      · exact lp_115 (xput (xput σ 2 5 z29) 2 z31.toNat z33) ⟨hF, hV.ag hA, LO.ag hA, HEx.ag hA⟩
      · have hV2 : V0 ((xput (xput σ 2 5 z29) 2 z31.toNat z33) 2) := hV.ag hA
        have hHE : HEx (σ 2) ((xput (xput σ 2 5 z29) 2 z31.toNat z33) 2) := HEx.ag hA; have hHa := hHE a.toNat kind.toNat (by omega) (by omega)
        have hkA : kn ((xput (xput σ 2 5 z29) 2 z31.toNat z33) 2) a.toNat kind.toNat < hd ((xput (xput σ 2 5 z29) 2 z31.toNat z33) 2) a.toNat kind.toNat := by have i1 := hdI (σ 2) (k := a) (kind := kind) (by omega) (by omega); have i2 := knI' (σ 2) (k := a) (kind := kind) (by omega) (by omega); have k9 : kn ((xput (xput σ 2 5 z29) 2 z31.toNat z33) 2) a.toNat kind.toNat = kn (σ 2) a.toNat kind.toNat := hA _ (nir (by omega) (by omega) (by omega)); omega
        refine s_learns (σ := (xput (xput σ 2 5 z29) 2 z31.toNat z33)) (k := a) (kind := kind) (by omega) (by omega) (by have i1 := hdI ((xput (xput σ 2 5 z29) 2 z31.toNat z33) 2) (k := a) (kind := kind) (by omega) (by omega); have i2 := knI' ((xput (xput σ 2 5 z29) 2 z31.toNat z33) 2) (k := a) (kind := kind) (by omega) (by omega); have i3 := otI ((xput (xput σ 2 5 z29) 2 z31.toNat z33) 2) (k := a) (by omega); have a1 := hV2.some (p := a.toNat) (k := kind.toNat) (by omega) (by omega); have a2 := hV2.others (p := a.toNat) (by omega); have a3 := hV2.2.2.1 a.toNat kind.toNat (by omega) (by omega); have a4 := hV2.hand (p := a.toNat) (k := kind.toNat) (by omega) (by omega); omega) (by have i1 := hdI ((xput (xput σ 2 5 z29) 2 z31.toNat z33) 2) (k := a) (kind := kind) (by omega) (by omega); have i2 := knI' ((xput (xput σ 2 5 z29) 2 z31.toNat z33) 2) (k := a) (kind := kind) (by omega) (by omega); have i3 := otI ((xput (xput σ 2 5 z29) 2 z31.toNat z33) 2) (k := a) (by omega); have a1 := hV2.some (p := a.toNat) (k := kind.toNat) (by omega) (by omega); have a2 := hV2.others (p := a.toNat) (by omega); have a3 := hV2.2.2.1 a.toNat kind.toNat (by omega) (by omega); have a4 := hV2.hand (p := a.toNat) (k := kind.toNat) (by omega) (by omega); omega) (fun σ41 f41 p41 => ?_)
        have hF := hF.tr f41 (by decide) (by decide)
        obtain ⟨hV41, n41, o41, d41, u41⟩ := hV2.learn (by omega) (by omega) hkA p41
        have x115 : Fr [2, 7] [24] σ σ41 ∧ V0 (σ41 2) ∧ LO (σ 2) (σ41 2) ∧ HEx (σ 2) (σ41 2) := ⟨hF, hV41, (LO.ag hA).tr o41, hHE.tr d41⟩
        exact lp_115 σ41 x115
