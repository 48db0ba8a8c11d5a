set_option maxHeartbeats 40000000 in
set_option maxRecDepth 100000 in
theorem s_sureV {σ : xS} {b kind : Int} {Q : Option xV → xS → Prop} (hV : V0 (σ 2)) (hp0 : 0 ≤ b ∧ b ≤ 5) (hp1 : 0 ≤ kind ∧ kind ≤ 12) (hQ : ∀ r : Int, 0 ≤ r ∧ r ≤ 2 → Q (some (xvi r)) σ) : xT kX11_sureOf [xvr 0, xvi b, xvi kind] σ Q := by
  refine ⟨Nat.le_of_ble_eq_true rfl, fun X hX => ?_⟩
  show X 0 [xvr 0, xvi b, xvi kind, xvu] σ
  refine hX 400 0 _ _ ?_
  intro z1 t1 e1 l1 h1
  try have w1 : t1 = 0 := by omega
  intro z2 t2 e2 l2 h2
  try have w2 : t2 = 0 := by omega
  intro z3 t3 e3 l3 h3
  try have w3 : t3 = 0 := by omega
  refine And.intro (rfl) (And.intro (⟨by omega, by omega⟩) ?_)
  intro v4 e4 l4 h4
  have e4 : v4 = σ 2 z3.toNat := e4
  refine And.intro (fun c5 => ?_) (fun c5 => ?_)
  · refine And.intro (Nat.le_of_ble_eq_true rfl) ?_
    show xw _ _ _ _ _ _ _ _ _ _ [xvr 0, xvi b, xvi kind, xvi 0] _ _
    have lp_22 : ∀ (m22 : Nat) (i : Int), ((52 - i).toNat) = m22 → (0 ≤ i ∧ i ≤ 52) → X 22 [xvr 0, xvi b, xvi kind, xvi i] σ := by
      intro m22
      induction m22 using Nat.strongRecOn with
      | _ m22 ih_22 =>
      intro i hm_22 hv_22
      refine hX 400 22 _ _ ?_
      intro z7 t7 e7 l7 h7
      try have w7 : t7 = 0 := by omega
      refine And.intro (rfl) (And.intro (⟨by omega, by omega⟩) ?_)
      intro v8 e8 l8 h8
      have e8 : v8 = σ 2 z7.toNat := e8
      have a2 := hV.others (p := b.toNat) (by omega); have i3 := otI (σ 2) (k := b) (by omega); rw [show (229 + b) = z7 from by omega] at i3
      refine And.intro (fun c9 => ?_) (fun c9 => ?_)
      · refine And.intro rfl ?_
        exact hQ _ (by omega)
      · intro z10 t10 e10 l10 h10
        try have w10 : t10 = 0 := by omega
        intro z11 t11 e11 l11 h11
        try have w11 : t11 = 0 := by omega
        intro z12 t12 e12 l12 h12
        try have w12 : t12 = 0 := by omega
        refine And.intro (rfl) (And.intro (⟨by omega, by omega⟩) ?_)
        intro v13 e13 l13 h13
        have e13 : v13 = σ 2 z12.toNat := e13
        refine s_bitOf (σ := σ) (set := v13) (k := kind)  (fun r14 p14 => ?_)
        have p14 : r14 = 0 ∨ r14 = 1 := p14
        refine And.intro (fun c15 => ?_) (fun c15 => ?_)
        · intro z16 t16 e16 l16 h16
          try have w16 : t16 = 0 := by omega
          show xw _ _ _ _ _ _ _ _ _ _ [xvr 0, xvi b, xvi kind, xvi z16] _ _
          exact ih_22 _ (show (52 - z16).toNat < m22 from by omega) z16 rfl (show 0 ≤ z16 ∧ z16 ≤ 52 from by first | trivial | omega | (refine ⟨by assumption, ?_⟩; omega) | (refine ⟨?_, ?_⟩ <;> omega))
        · refine And.intro rfl ?_
          exact hQ _ (by omega)
    exact lp_22 _ 0 rfl (show 0 ≤ 0 ∧ 0 ≤ 52 from by first | trivial | omega | (refine ⟨by assumption, ?_⟩; omega) | (refine ⟨?_, ?_⟩ <;> omega))
  · refine And.intro rfl ?_
    exact hQ _ (by omega)
set_option maxHeartbeats 40000000 in
set_option maxRecDepth 100000 in
theorem s_asks {σ : xS} {a b kind lies told : Int} {Q : Option xV → xS → Prop} (hp0 : V0 (σ 2)) (hp1 : 0 ≤ σ 2 6 ∧ σ 2 6 < σ 2 1) (hp2 : 0 ≤ a ∧ a < σ 2 1) (hp3 : 0 ≤ b ∧ b < σ 2 1) (hp4 : ¬ a = b) (hp5 : 0 ≤ kind ∧ kind < σ 2 0) (hp6 : 1 ≤ σ 2 (60 + 13 * a + kind).toNat) (hQ : ∀ r : Int, ∀ σ' : xS, Fr [2, 7] [24] σ σ' → (VG (σ' 2) ∧ LPx (σ 2) (σ' 2)) → Q (some (xvi r)) σ') : xT kX11_asks [xvr 0, xvi a, xvi b, xvi kind, xvi lies, xvi told] σ Q := by
  refine ⟨Nat.le_of_ble_eq_true rfl, fun X hX => ?_⟩
  show X 0 [xvr 0, xvi a, xvi b, xvi kind, xvi lies, xvi told, xvu, xvu, xvu, xvu, xvu, xvu, xvu, xvu] σ
  have hF : Fr [2, 7] [24] σ σ := Fr.rf
  have hA : AG (σ 2) (σ 2) := AG.rf
  refine hX 600 0 _ _ ?_
  have hV := hp0; have mm0 := hp0.1.1; have mm1 := hp0.1.2.1; have mm7 := hp0.1.2.2.2
  refine s_sureV (σ := σ) (b := b) (kind := kind) hV (by omega) (by omega) (fun r1 p1 => ?_)
  refine And.intro (Nat.le_of_ble_eq_true rfl) ?_
  show xw _ _ _ _ _ _ _ _ _ _ [xvr 0, xvi a, xvi b, xvi kind, xvi lies, xvi told, xvi r1, xvu, xvu, xvu, xvu, xvu, xvu, xvu] _ _
  refine s_hand0v (σ := σ) (k := b) (kind := kind) hV (by omega) (by omega) (fun r2 p2 => ?_)
  have hHb : hd (σ 2) b.toNat kind.toNat = r2 := by have i1 := hdI (σ 2) (k := b) (kind := kind) (by omega) (by omega); omega
  have hH4 := hV.hand (p := b.toNat) (k := kind.toNat) (by omega) (by omega)
  refine And.intro (Nat.le_of_ble_eq_true rfl) ?_
  show xw _ _ _ _ _ _ _ _ _ _ [xvr 0, xvi a, xvi b, xvi kind, xvi lies, xvi told, xvi r1, xvi r2, xvu, xvu, xvu, xvu, xvu, xvu] _ _
  have lp_32 : ∀ (_ : Unit), (True) → X 32 [xvr 0, xvi a, xvi b, xvi kind, xvi lies, xvi told, xvi r1, xvi r2, xvu, xvu, xvu, xvu, xvu, xvu] σ := by
    intro _ hv_32
    refine hX 600 32 _ _ ?_
    refine And.intro (Nat.le_of_ble_eq_true rfl) ?_
    show xw _ _ _ _ _ _ _ _ _ _ [xvr 0, xvi a, xvi b, xvi kind, xvi lies, xvi told, xvi r1, xvi r2, xvi 0, xvu, xvu, xvu, xvu, xvu] _ _
    refine And.intro (fun _ => ?_) (fun c4 => absurd c4 (by decide))
    refine And.intro (Nat.le_of_ble_eq_true rfl) ?_
    show xw _ _ _ _ _ _ _ _ _ _ [xvr 0, xvi a, xvi b, xvi kind, xvi lies, xvi told, xvi r1, xvi r2, xvi 0, xvi r2, xvu, xvu, xvu, xvu] _ _
    refine And.intro (Nat.le_of_ble_eq_true rfl) ?_
    show xw _ _ _ _ _ _ _ _ _ _ [xvr 0, xvi a, xvi b, xvi kind, xvi lies, xvi told, xvi r1, xvi r2, xvi 0, xvi r2, xvi (-1), xvu, xvu, xvu] _ _
    refine And.intro (Nat.le_of_ble_eq_true rfl) ?_
    show xw _ _ _ _ _ _ _ _ _ _ [xvr 0, xvi a, xvi b, xvi kind, xvi lies, xvi told, xvi r1, xvi r2, xvi 0, xvi r2, xvi (-1), xvi (-1), xvu, xvu] _ _
    intro z5 t5 e5 l5 h5
    try have w5 : t5 = 0 := by omega
    refine And.intro (rfl) (And.intro (⟨by omega, by omega⟩) ?_)
    intro v6 e6 l6 h6
    have e6 : v6 = σ 2 1 := e6
    have gv6 : v6 = (σ 2) 1 := hA.rd (j := 1) e6 (by omega) (by omega) (by omega) (by omega)
    have gv6 : v6 = (σ 2) 1 := gv6
    refine And.intro (by omega) ?_
    intro z7 e7 f7 l7 h7
    replace f7 := f7 (by omega) (by omega)
    have g7 := Int.emod_nonneg z5 (b := v6) (by omega); have k7 := Int.emod_lt_of_pos z5 (b := v6) (by omega); rw [← f7] at g7 k7
    refine And.intro (Nat.le_of_ble_eq_true rfl) ?_
    show xw _ _ _ _ _ _ _ _ _ _ [xvr 0, xvi a, xvi b, xvi kind, xvi lies, xvi told, xvi r1, xvi r2, xvi 0, xvi r2, xvi (-1), xvi (-1), xvi z7, xvu] _ _
    refine And.intro (rfl) (And.intro (⟨by omega, by omega⟩) ?_)
    intro v8 e8 l8 h8
    have e8 : v8 = σ 2 5 := e8
    intro z9 t9 e9 l9 h9
    try have w9 : t9 = 0 := by omega
    refine And.intro (rfl) (And.intro (⟨by omega, by omega⟩) ?_)
    have hF := hF.pt (t := 2) (j := 5) (v := z9) (by decide) (by decide)
    have hA := hA.p5 (v := z9)
    intro z11 t11 e11 l11 h11
    try have w11 : t11 = 0 := by omega
    refine And.intro (rfl) (And.intro (⟨by omega, by omega⟩) ?_)
    intro v12 e12 l12 h12
    have e12 : v12 = (xput σ 2 5 z9) 2 z11.toNat := e12
    intro z13 t13 e13 l13 h13
    try have w13 : t13 = 0 := by omega
    refine And.intro (rfl) (And.intro (⟨by omega, by omega⟩) ?_)
    have hF := hF.pt (t := 2) (j := z11.toNat) (v := z13) (by decide) (by decide)
    have hA := hA.pi (j := z11.toNat) (v := z13) (by omega) (by omega)
    have lp_115 : ∀ (s1 : xS), (Fr [2, 7] [24] σ s1 ∧ V0 (s1 2) ∧ LO (σ 2) (s1 2) ∧ HEx (σ 2) (s1 2)) → X 115 [xvr 0, xvi a, xvi b, xvi kind, xvi lies, xvi told, xvi r1, xvi r2, xvi 0, xvi r2, xvi (-1), xvi (-1), xvi z7, xvu] s1 := by
      intro s1 hv_115
      obtain ⟨hF, hV, hL, hE⟩ := hv_115
      have hA : AG (s1 2) (s1 2) := AG.rf
      have hb9 := hE b.toNat kind.toNat (by omega) (by omega)
      have q0 : s1 2 0 = σ 2 0 := hL 0 (by omega) (by omega) (by omega); have q1 : s1 2 1 = σ 2 1 := hL 1 (by omega) (by omega) (by omega); have q6 : s1 2 6 = σ 2 6 := hL 6 (by omega) (by omega) (by omega)
      refine hX 600 115 _ _ ?_
      have lp_439 : ∀ (drawn : Int) (laid : Int) (fr : Int) (u16_13 : xV) (s3 : xS), (Fr [2, 7] [24] σ s3 ∧ V0 (s3 2) ∧ LPx (σ 2) (s3 2) ∧ (0 ≤ s3 2 6 ∧ s3 2 6 ≤ σ 2 1) ∧ (0 ≤ fr ∧ fr ≤ 5)) → X 439 [xvr 0, xvi a, xvi b, xvi kind, xvi lies, xvi told, xvi r1, xvi r2, xvi 0, xvi r2, xvi drawn, xvi laid, xvi fr, u16_13] s3 := by
        intro drawn laid fr u16_13 s3 hv_439
        obtain ⟨hF, hV, hL, h63, hfr⟩ := hv_439
        have hA : AG (s3 2) (s3 2) := AG.rf
        have q1 : s3 2 1 = σ 2 1 := hL 1 (by omega) (by omega)
        refine hX 600 439 _ _ ?_
        have lp_471 : ∀ (s6 : xS), (Fr [2, 7] [24] σ s6 ∧ VG (s6 2) ∧ LPx (σ 2) (s6 2)) → X 471 [xvr 0, xvi a, xvi b, xvi kind, xvi lies, xvi told, xvi r1, xvi r2, xvi 0, xvi r2, xvi drawn, xvi laid, xvi fr, u16_13] s6 := by
          intro s6 hv_471
          obtain ⟨hF, hG, hL⟩ := hv_471
          have hA : AG (s6 2) (s6 2) := AG.rf
          refine hX 600 471 _ _ ?_
          refine And.intro (fun c18 => ?_) (fun c18 => ?_)
          · refine And.intro (by omega) ?_
            have hF := hF.p (j := 24) (v := 1) (by decide)
            have hA := hA.o (t := 0) (j := 24) (v := 1) (by decide)
            refine And.intro (rfl) (And.intro (⟨by omega, by omega⟩) ?_)
            have hF := hF.pt (t := 7) (j := 0) (v := a) (by decide) (by decide)
            have hA := hA.o (t := 7) (j := 0) (v := a) (by decide)
            refine And.intro (rfl) (And.intro (⟨by omega, by omega⟩) ?_)
            have hF := hF.pt (t := 7) (j := 1) (v := b) (by decide) (by decide)
            have hA := hA.o (t := 7) (j := 1) (v := b) (by decide)
            refine And.intro (rfl) (And.intro (⟨by omega, by omega⟩) ?_)
            have hF := hF.pt (t := 7) (j := 2) (v := kind) (by decide) (by decide)
            have hA := hA.o (t := 7) (j := 2) (v := kind) (by decide)
            refine And.intro (rfl) (And.intro (⟨by omega, by omega⟩) ?_)
            have hF := hF.pt (t := 7) (j := 3) (v := r2) (by decide) (by decide)
            have hA := hA.o (t := 7) (j := 3) (v := r2) (by decide)
            refine And.intro (rfl) (And.intro (⟨by omega, by omega⟩) ?_)
            have hF := hF.pt (t := 7) (j := 4) (v := drawn) (by decide) (by decide)
            have hA := hA.o (t := 7) (j := 4) (v := drawn) (by decide)
            refine And.intro (rfl) (And.intro (⟨by omega, by omega⟩) ?_)
            have hF := hF.pt (t := 7) (j := 5) (v := laid) (by decide) (by decide)
            have hA := hA.o (t := 7) (j := 5) (v := laid) (by decide)
            refine And.intro (rfl) (And.intro (⟨by omega, by omega⟩) ?_)
            have hF := hF.pt (t := 7) (j := 6) (v := 0) (by decide) (by decide)
            have hA := hA.o (t := 7) (j := 6) (v := 0) (by decide)
            refine And.intro (rfl) (And.intro (⟨by omega, by omega⟩) ?_)
            have hF := hF.pt (t := 7) (j := 7) (v := r1) (by decide) (by decide)
            have hA := hA.o (t := 7) (j := 7) (v := r1) (by decide)
            refine And.intro rfl ?_
            exact hQ _ _ hF ⟨hG, hL⟩
          · refine And.intro rfl ?_
            exact hQ _ _ hF ⟨hG, hL⟩
        refine And.intro (rfl) (And.intro (⟨by omega, by omega⟩) ?_)
        intro v28 e28 l28 h28
        have e28 : v28 = s3 2 6 := e28
        have gv28 : v28 = (s3 2) 6 := hA.rd (j := 6) e28 (by omega) (by omega) (by omega) (by omega)
        have gv28 : v28 = (s3 2) 6 := gv28
        refine And.intro (rfl) (And.intro (⟨by omega, by omega⟩) ?_)
        intro v29 e29 l29 h29
        have e29 : v29 = s3 2 1 := e29
        have gv29 : v29 = (s3 2) 1 := hA.rd (j := 1) e29 (by omega) (by omega) (by omega) (by omega)
        have gv29 : v29 = (s3 2) 1 := gv29
        refine And.intro (fun c30 => ?_) (fun c30 => ?_)
        · refine s_settles (σ := s3) (fr := fr) hV (by omega) (fun σ31 f31 p31 => ?_)
          have hF := hF.tr f31 (by decide) (by decide)
          have x471 : Fr [2, 7] [24] σ σ31 ∧ VG (σ31 2) ∧ LPx (σ 2) (σ31 2) := ⟨hF, VG_iff.mpr ⟨p31.1, ⟨p31.2.1, by have w6 := p31.2.2.2 6 (by omega) (by omega) (by omega) (by omega); have w1 := p31.2.2.2 1 (by omega) (by omega) (by omega) (by omega); omega⟩, p31.2.2.1⟩, hL.tr p31.2.2.2.p⟩
          exact lp_471 σ31 x471
        · refine And.intro (rfl) (And.intro (⟨by omega, by omega⟩) ?_)
          have hF := hF.pt (t := 2) (j := 4) (v := (-1)) (by decide) (by decide)
          have hA := hA.pu (j := 4) (j' := 4) (v := (-1)) (v' := -1) (by omega) (by omega)
          exact lp_471 (xput s3 2 4 (-1)) ⟨hF, VG_iff.mpr ⟨hV.t4 (fun i hi h4 h6 => xput_o h4), ⟨(show -1 ≤ -1 ∧ -1 < s3 2 1 from by omega), (show 0 ≤ s3 2 6 ∧ s3 2 6 ≤ s3 2 1 ∧ (¬ (-1 : Int) = -1 → s3 2 6 < s3 2 1) from by omega)⟩, (fun h => absurd xput_s h)⟩, hL.tr (fun i h1 h2 => xput_o (by omega))⟩
      refine And.intro (fun c33 => ?_) (fun c33 => ?_)
      · have lp_290 : ∀ (m290 : Nat) (s4 : xS), ((s4 2 (151 + 13 * b + kind).toNat).toNat) = m290 → (Fr [2, 7] [24] σ s4 ∧ V0 (s4 2) ∧ LO (σ 2) (s4 2)) → X 290 [xvr 0, xvi a, xvi b, xvi kind, xvi lies, xvi told, xvi r1, xvi r2, xvi 0, xvi r2, xvi (-1), xvi (-1), xvi z7, xvu] s4 := by
          intro m290
          induction m290 using Nat.strongRecOn with
          | _ m290 ih_290 =>
          intro s4 hm_290 hv_290
          obtain ⟨hF, hV, hL⟩ := hv_290
          have hA : AG (s4 2) (s4 2) := AG.rf
          refine hX 600 290 _ _ ?_
          intro z35 t35 e35 l35 h35
          try have w35 : t35 = 0 := by omega
          intro z36 t36 e36 l36 h36
          try have w36 : t36 = 0 := by omega
          intro z37 t37 e37 l37 h37
          try have w37 : t37 = 0 := by omega
          refine And.intro (rfl) (And.intro (⟨by omega, by omega⟩) ?_)
          intro v38 e38 l38 h38
          have e38 : v38 = s4 2 z37.toNat := e38
          have gv38 : v38 = (s4 2) (151 + 13 * b + kind).toNat := hA.rd e38 (by omega) (by omega) (by omega) (by omega)
          have gv38 : v38 = (s4 2) (151 + 13 * b + kind).toNat := gv38
          refine And.intro (fun c39 => ?_) (fun c39 => ?_)
          · refine s_cannot (σ := s4) (k := b) (kind := kind) (by omega) (by have a2 := hV.others (p := b.toNat) (by omega); have i3 := otI (s4 2) (k := b) (by omega); omega) (fun σ40 f40 p40 => ?_)
            have hF := hF.tr f40 (by decide) (by decide)
            have hV := hV.ag p40; have hL := hL.tr (LO.ag p40); have hA : AG (σ40 2) (σ40 2) := AG.rf
            have q0 : σ40 2 0 = σ 2 0 := hL 0 (by omega) (by omega) (by omega); have q1 : σ40 2 1 = σ 2 1 := hL 1 (by omega) (by omega) (by omega); have q6 : σ40 2 6 = σ 2 6 := hL 6 (by omega) (by omega) (by omega)
            refine And.intro (rfl) (And.intro (⟨by omega, by omega⟩) ?_)
            intro v41 e41 l41 h41
            have e41 : v41 = σ40 2 6 := e41
            have gv41 : v41 = (σ40 2) 6 := hA.rd (j := 6) e41 (by omega) (by omega) (by omega) (by omega)
            have gv41 : v41 = (σ40 2) 6 := gv41
            intro z42 t42 e42 l42 h42
            try have w42 : t42 = 0 := by omega
            refine And.intro (rfl) (And.intro (⟨by omega, by omega⟩) ?_)
            have hF := hF.pt (t := 2) (j := 6) (v := z42) (by decide) (by decide)
            have hA := hA.pu (j := 6) (j' := 6) (v := z42) (v' := (σ40 2) 6 + 1) (by omega) (by omega)
            refine And.intro (rfl) (And.intro (⟨by omega, by omega⟩) ?_)
            intro v44 e44 l44 h44
            have e44 : v44 = σ40 2 7 := e44
            have gv44 : v44 = (up (σ40 2) 6 ((σ40 2) 6 + 1)) 7 := hA.rd (j := 7) e44 (by omega) (by omega) (by omega) (by omega)
            rw [up_n (by omega)] at gv44
            have gv44 : v44 = (σ40 2) 7 := gv44
            refine And.intro (fun c45 => ?_) (fun c45 => ?_)
            · exact lp_439 (-1) (-1) z7 (xvu) (xput σ40 2 6 z42) (by have hx := hV.v6 hA; have q1x := hx.2.2.1 1 (by omega) (by omega); exact ⟨hF, hx.1, hL.p.tr hx.2.2.1, (by have := hx.2.1; omega), by omega⟩)
            · refine And.intro (rfl) (And.intro (⟨by omega, by omega⟩) ?_)
              have hF := hF.pt (t := 2) (j := 6) (v := 0) (by decide) (by decide)
              have hA := hA.pu (j := 6) (j' := 6) (v := 0) (v' := 0) (by omega) (by omega)
              have hA6 : AG (up (σ40 2) 6 0) ((xput (xput σ40 2 6 z42) 2 6 0) 2) := (by intro i hi; rw [hA i hi]; by_cases e : i = 6 <;> simp [up, e])
              obtain ⟨hV6, h66, hL6, h76⟩ := hV.v6 hA6
              have q16 := hL6 1 (by omega) (by omega)
              have hc8 := hV6.c8 (by omega)
              refine s_draws (σ := (xput (xput σ40 2 6 z42) 2 6 0)) (k := a) hV6 (by omega) (by omega) (fun r47 σ47 f47 p47 => ?_)
              have hF := hF.tr f47 (by decide) (by decide)
              have hD := p47.2; have hA : AG (σ47 2) (σ47 2) := AG.rf; have h0b := hV6.1.1; have q06 := hL6 0 (by omega) (by omega)
              refine And.intro (Nat.le_of_ble_eq_true rfl) ?_
              show xw _ _ _ _ _ _ _ _ _ _ [xvr 0, xvi a, xvi b, xvi kind, xvi lies, xvi told, xvi r1, xvi r2, xvi 0, xvi r2, xvi r47, xvi (-1), xvi z7, xvu] _ _
              have lp_419 : ∀ (_ : Unit), (True) → X 419 [xvr 0, xvi a, xvi b, xvi kind, xvi lies, xvi told, xvi r1, xvi r2, xvi 0, xvi r2, xvi r47, xvi (-1), xvi z7, xvu] σ47 := by
                intro _ hv_419
                refine hX 600 419 _ _ ?_
                refine s_adds (σ := σ47) (k := a) (mask := 0) (by omega) (by have i3 := otI (σ47 2) (k := a) (by omega); have q := hV6.o51 (p := a.toNat) (by omega) (by omega) (by omega) hD; omega) (fun σ49 f49 p49 => ?_)
                have hF := hF.tr f49 (by decide) (by decide)
                have hx := hV6.drA (p := a.toNat) (by omega) (by omega) (by omega) hD (by rw [← show (229 + a).toNat = 229 + a.toNat from by omega]; exact p49)
                have lp_425 : ∀ (fr2 : Int) (s5 : xS), (Fr [2, 7] [24] σ s5 ∧ V0 (s5 2) ∧ LPx (σ 2) (s5 2) ∧ s5 2 6 = 0 ∧ (0 ≤ fr2 ∧ fr2 ≤ 5)) → X 425 [xvr 0, xvi a, xvi b, xvi kind, xvi lies, xvi told, xvi r1, xvi r2, xvi 0, xvi r2, xvi r47, xvi (-1), xvi fr2, xvu] s5 := by
                  intro fr2 s5 hv_425
                  obtain ⟨hF, hV, hL, h65, hfr2⟩ := hv_425
                  refine hX 600 425 _ _ ?_
                  refine s_books (σ := s5) (k := a) (kind := r47) (by omega) (by omega) hV (fun r51 σ51 f51 p51 => ?_)
                  have hF := hF.tr f51 (by decide) (by decide)
                  have x439 : Fr [2, 7] [24] σ σ51 ∧ V0 (σ51 2) ∧ LPx (σ 2) (σ51 2) ∧ σ51 2 6 = 0 := ⟨hF, p51.1, hL.tr p51.2.1.p, (p51.2.1 6 (by omega) (by omega) (by omega)).trans h65⟩
                  have p51 : r51 = 0 ∨ r51 = 1 := p51.2.2
                  refine And.intro (fun c52 => ?_) (fun c52 => ?_)
                  · exact lp_439 r47 (-1) fr2 (xvu) σ51 ⟨x439.1, x439.2.1, x439.2.2.1, (by have := x439.2.2.2; omega), by omega⟩
                  · refine And.intro (Nat.le_of_ble_eq_true rfl) ?_
                    show xw _ _ _ _ _ _ _ _ _ _ [xvr 0, xvi a, xvi b, xvi kind, xvi lies, xvi told, xvi r1, xvi r2, xvi 0, xvi r2, xvi r47, xvi r47, xvi fr2, xvu] _ _
                    exact lp_439 r47 r47 fr2 (xvu) σ51 ⟨x439.1, x439.2.1, x439.2.2.1, (by have := x439.2.2.2; omega), by omega⟩
                exact lp_425 z7 σ49 ⟨hF, hx.1, hL.p.tr (hL6.tr hx.2.2.p), (hx.2.2 6 (by omega) (by omega) (by omega)).trans h66, by omega⟩
              have lp_425 : ∀ (fr2 : Int) (s5 : xS), (Fr [2, 7] [24] σ s5 ∧ V0 (s5 2) ∧ LPx (σ 2) (s5 2) ∧ s5 2 6 = 0 ∧ (0 ≤ fr2 ∧ fr2 ≤ 5)) → X 425 [xvr 0, xvi a, xvi b, xvi kind, xvi lies, xvi told, xvi r1, xvi r2, xvi 0, xvi r2, xvi r47, xvi (-1), xvi fr2, xvu] s5 := by
                intro fr2 s5 hv_425
                obtain ⟨hF, hV, hL, h65, hfr2⟩ := hv_425
                refine hX 600 425 _ _ ?_
                refine s_books (σ := s5) (k := a) (kind := r47) (by omega) (by omega) hV (fun r54 σ54 f54 p54 => ?_)
                have hF := hF.tr f54 (by decide) (by decide)
                have x439 : Fr [2, 7] [24] σ σ54 ∧ V0 (σ54 2) ∧ LPx (σ 2) (σ54 2) ∧ σ54 2 6 = 0 := ⟨hF, p54.1, hL.tr p54.2.1.p, (p54.2.1 6 (by omega) (by omega) (by omega)).trans h65⟩
                have p54 : r54 = 0 ∨ r54 = 1 := p54.2.2
                refine And.intro (fun c55 => ?_) (fun c55 => ?_)
                · exact lp_439 r47 (-1) fr2 (xvu) σ54 ⟨x439.1, x439.2.1, x439.2.2.1, (by have := x439.2.2.2; omega), by omega⟩
                · refine And.intro (Nat.le_of_ble_eq_true rfl) ?_
                  show xw _ _ _ _ _ _ _ _ _ _ [xvr 0, xvi a, xvi b, xvi kind, xvi lies, xvi told, xvi r1, xvi r2, xvi 0, xvi r2, xvi r47, xvi r47, xvi fr2, xvu] _ _
                  exact lp_439 r47 r47 fr2 (xvu) σ54 ⟨x439.1, x439.2.1, x439.2.2.1, (by have := x439.2.2.2; omega), by omega⟩
              refine And.intro (rfl) (And.intro (⟨by omega, by omega⟩) ?_)
              intro v56 e56 l56 h56
              have e56 : v56 = σ47 2 2 := e56
              refine And.intro (fun c57 => ?_) (fun c57 => ?_)
              · exact lp_419 () (show True from by first | trivial | omega | (refine ⟨by assumption, ?_⟩; omega) | (refine ⟨?_, ?_⟩ <;> omega))
              · refine And.intro (fun c58 => ?_) (fun c58 => ?_)
                · exact lp_419 () (show True from by first | trivial | omega | (refine ⟨by assumption, ?_⟩; omega) | (refine ⟨?_, ?_⟩ <;> omega))
                · intro z59 t59 e59 l59 h59
                  try have w59 : t59 = 0 := by omega
                  intro z60 t60 e60 l60 h60
                  try have w60 : t60 = 0 := by omega
                  intro z61 t61 e61 l61 h61
                  try have w61 : t61 = 0 := by omega
                  refine And.intro (rfl) (And.intro (⟨by omega, by omega⟩) ?_)
                  intro v62 e62 l62 h62
                  have e62 : v62 = σ47 2 z61.toNat := e62
                  have gv62 : v62 = (σ47 2) (151 + 13 * a + kind).toNat := hA.rd e62 (by omega) (by omega) (by omega) (by omega)
                  have gv62 : v62 = (σ47 2) (151 + 13 * a + kind).toNat := gv62
                  have n6 : kn (σ47 2) a.toNat kind.toNat = kn ((xput (xput σ40 2 6 z42) 2 6 0) 2) a.toNat kind.toNat := hD.2.2.2.2.2 (151 + 13 * a.toNat + kind.toNat) (nir (by omega) (by omega) (by omega)) (by omega) (by omega) (by omega) (by omega); have n8 := hV6.2.2.1 a.toNat kind.toNat (by omega) (by omega); have n7 := hV6.hand (p := a.toNat) (k := kind.toNat) (by omega) (by omega); have i2 := knI' (σ47 2) (k := a) (kind := kind) (by omega) (by omega)
                  intro z63 t63 e63 l63 h63
                  try have w63 : t63 = 0 := by omega
                  refine And.intro (rfl) (And.intro (⟨by omega, by omega⟩) ?_)
                  have hF := hF.pt (t := 2) (j := z61.toNat) (v := z63) (by decide) (by decide)
                  have hA := hA.pu (j := z61.toNat) (j' := (151 + 13 * a + kind).toNat) (v := z63) (v' := (σ47 2) (151 + 13 * a + kind).toNat + 1) (by omega) (by omega)
                  refine And.intro (Nat.le_of_ble_eq_true rfl) ?_
                  show xw _ _ _ _ _ _ _ _ _ _ [xvr 0, xvi a, xvi b, xvi kind, xvi lies, xvi told, xvi r1, xvi r2, xvi 0, xvi r2, xvi r47, xvi (-1), xvi a, xvu] _ _
                  exact lp_425 a (xput σ47 2 z61.toNat z63) (by have hx := hV6.drK (p := a.toNat) (by omega) (by omega) (by omega) hD (by rw [show 151 + 13 * a.toNat + r47.toNat = (151 + 13 * a + kind).toNat from by omega]; exact hA); exact ⟨hF, hx.1, hL.p.tr (hL6.tr hx.2.2.p), (hx.2.2 6 (by omega) (by omega) (by omega)).trans h66, by omega⟩)
          · refine s_adds (σ := s4) (k := b) (mask := 0) (by omega) (by have i2 := knI' (s4 2) (k := b) (kind := kind) (by omega) (by omega); have i3 := otI (s4 2) (k := b) (by omega); have a := hV.o51k (p := b.toNat) (k := kind.toNat) (by omega) (by omega) (by omega); omega) (fun σ65 f65 p65 => ?_)
            have hF := hF.tr f65 (by decide) (by decide)
            have hA := p65
            intro z66 t66 e66 l66 h66
            try have w66 : t66 = 0 := by omega
            intro z67 t67 e67 l67 h67
            try have w67 : t67 = 0 := by omega
            intro z68 t68 e68 l68 h68
            try have w68 : t68 = 0 := by omega
            refine And.intro (rfl) (And.intro (⟨by omega, by omega⟩) ?_)
            intro v69 e69 l69 h69
            have e69 : v69 = σ65 2 z68.toNat := e69
            have gv69 : v69 = (up (s4 2) (229 + b).toNat (s4 2 (229 + b).toNat + 1)) (151 + 13 * b + kind).toNat := hA.rd e69 (by omega) (by omega) (by omega) (by omega)
            rw [up_n (by omega)] at gv69
            have gv69 : v69 = (s4 2) (151 + 13 * b + kind).toNat := gv69
            intro z70 t70 e70 l70 h70
            try have w70 : t70 = 0 := by omega
            refine And.intro (rfl) (And.intro (⟨by omega, by omega⟩) ?_)
            have hF := hF.pt (t := 2) (j := z68.toNat) (v := z70) (by decide) (by decide)
            have hA := hA.pu (j := z68.toNat) (j' := (151 + 13 * b + kind).toNat) (v := z70) (v' := (s4 2) (151 + 13 * b + kind).toNat - 1) (by omega) (by omega)
            exact ih_290 _ (show ((xput σ65 2 z68.toNat z70) 2 (151 + 13 * b + kind).toNat).toNat < m290 from by have hx := hV.forget (by omega) (by omega) (by have i2 := knI' (s4 2) (k := b) (kind := kind) (by omega) (by omega); omega) hA; have i9 := knI' (s4 2) (k := b) (kind := kind) (by omega) (by omega); have i8 := knI' ((xput σ65 2 z68.toNat z70) 2) (k := b) (kind := kind) (by omega) (by omega); have n1 := hx.2.1; omega) (xput σ65 2 z68.toNat z70) rfl (by have hx := hV.forget (by omega) (by omega) (by have i2 := knI' (s4 2) (k := b) (kind := kind) (by omega) (by omega); omega) hA; exact ⟨hF, hx.1, hL.tr hx.2.2.1⟩)
        intro z72 t72 e72 l72 h72
        try have w72 : t72 = 0 := by omega
        intro z73 t73 e73 l73 h73
        try have w73 : t73 = 0 := by omega
        intro z74 t74 e74 l74 h74
        try have w74 : t74 = 0 := by omega
        refine And.intro (rfl) (And.intro (⟨by omega, by omega⟩) ?_)
        intro v75 e75 l75 h75
        have e75 : v75 = s1 2 z74.toNat := e75
        have gv75 : v75 = (s1 2) (151 + 13 * b + kind).toNat := hA.rd e75 (by omega) (by omega) (by omega) (by omega)
        have gv75 : v75 = (s1 2) (151 + 13 * b + kind).toNat := gv75
        refine And.intro (fun c76 => ?_) (fun c76 => ?_)
        · exact lp_290 _ s1 rfl ⟨hF, hV.ag hA, hL.tr (LO.ag hA)⟩
        · intro z77 t77 e77 l77 h77
          try have w77 : t77 = 0 := by omega
          refine And.intro (rfl) (And.intro (⟨by omega, by omega⟩) ?_)
          intro v78 e78 l78 h78
          have e78 : v78 = s1 2 z77.toNat := e78
          intro z79 t79 e79 l79 h79
          try have w79 : t79 = 0 := by omega
          refine And.intro (rfl) (And.intro (⟨by omega, by omega⟩) ?_)
          have hF := hF.pt (t := 2) (j := z77.toNat) (v := z79) (by decide) (by decide)
          have hA := hA.pi (j := z77.toNat) (v := z79) (by omega) (by omega)
          exact lp_290 _ (xput s1 2 z77.toNat z79) rfl ⟨hF, hV.ag hA, hL.tr (LO.ag hA)⟩
      · intro z81 t81 e81 l81 h81
        try have w81 : t81 = 0 := by omega
        intro z82 t82 e82 l82 h82
        try have w82 : t82 = 0 := by omega
        intro z83 t83 e83 l83 h83
        try have w83 : t83 = 0 := by omega
        refine And.intro (rfl) (And.intro (⟨by omega, by omega⟩) ?_)
        intro v84 e84 l84 h84
        have e84 : v84 = s1 2 z83.toNat := e84
        have gv84 : v84 = (s1 2) (151 + 13 * b + kind).toNat := hA.rd e84 (by omega) (by omega) (by omega) (by omega)
        have gv84 : v84 = (s1 2) (151 + 13 * b + kind).toNat := gv84
        refine And.intro (Nat.le_of_ble_eq_true rfl) ?_
        show xw _ _ _ _ _ _ _ _ _ _ [xvr 0, xvi a, xvi b, xvi kind, xvi lies, xvi told, xvi r1, xvi r2, xvi 0, xvi r2, xvi (-1), xvi (-1), xvi z7, xvi v84] _ _
        have lp_137 : ∀ (m137 : Nat) (i : Int) (s2 : xS), ((4 - i).toNat) = m137 → (Fr [2, 7] [24] σ s2 ∧ V0 (s2 2) ∧ LO (σ 2) (s2 2) ∧ HEx (σ 2) (s2 2) ∧ kn (s2 2) b.toNat kind.toNat = i ∧ (0 ≤ i ∧ i ≤ r2)) → X 137 [xvr 0, xvi a, xvi b, xvi kind, xvi lies, xvi told, xvi r1, xvi r2, xvi 0, xvi r2, xvi (-1), xvi (-1), xvi z7, xvi i] s2 := by
          intro m137
          induction m137 using Nat.strongRecOn with
          | _ m137 ih_137 =>
          intro i s2 hm_137 hv_137
          obtain ⟨hF, hV, hL, hE, hkb, hv_137⟩ := hv_137
          have hA : AG (s2 2) (s2 2) := AG.rf
          have hb9 := hE b.toNat kind.toNat (by omega) (by omega)
          have q0 : s2 2 0 = σ 2 0 := hL 0 (by omega) (by omega) (by omega); have q1 : s2 2 1 = σ 2 1 := hL 1 (by omega) (by omega) (by omega); have q6 : s2 2 6 = σ 2 6 := hL 6 (by omega) (by omega) (by omega)
          refine hX 600 137 _ _ ?_
          refine And.intro (fun c86 => ?_) (fun c86 => ?_)
          · intro z87 t87 e87 l87 h87
            try have w87 : t87 = 0 := by omega
            intro z88 t88 e88 l88 h88
            try have w88 : t88 = 0 := by omega
            intro z89 t89 e89 l89 h89
            try have w89 : t89 = 0 := by omega
            refine And.intro (rfl) (And.intro (⟨by omega, by omega⟩) ?_)
            have hF := hF.pt (t := 2) (j := z89.toNat) (v := 0) (by decide) (by decide)
            have hA := hA.pu (j := z89.toNat) (j' := (151 + 13 * b + kind).toNat) (v := 0) (v' := 0) (by omega) (by omega)
            have q91 : (xput s2 2 z89.toNat 0) 2 (229 + b).toNat = (s2 2) (229 + b).toNat := by rw [hA _ (nir (by omega) (by omega) (by omega)), up_n (by omega)]
            refine s_cannot (σ := (xput s2 2 z89.toNat 0)) (k := b) (kind := kind) (by omega) (by have a2 := hV.others (p := b.toNat) (by omega); have i3 := otI (s2 2) (k := b) (by omega); omega) (fun σ91 f91 p91 => ?_)
            have hF := hF.tr f91 (by decide) (by decide)
            have hA := hA.tr p91
            intro z92 t92 e92 l92 h92
            try have w92 : t92 = 0 := by omega
            have q93 : σ91 2 (60 + 13 * b + kind).toNat = (s2 2) (60 + 13 * b + kind).toNat := by rw [hA _ (nir (by omega) (by omega) (by omega)), up_n (by omega)]
            refine s_handM (σ := σ91) (k := b) (kind := kind) (more := z92) (by omega) (by omega) (by have i1 := hdI (s2 2) (k := b) (kind := kind) (by omega) (by omega); have i2 := knI' (s2 2) (k := b) (kind := kind) (by omega) (by omega); have i3 := otI (s2 2) (k := b) (by omega); have a4 := hV.hand (p := b.toNat) (k := kind.toNat) (by omega) (by omega); omega) (fun r93 σ93 f93 p93 => ?_)
            rw [q93] at p93
            have hF := hF.tr f93 (by decide) (by decide)
            have hA := (AG.up (i := (60 + 13 * b + kind).toNat) (v := (s2 2) (60 + 13 * b + kind).toNat + z92) hA).tr p93.2
            have q94 : σ93 2 (60 + 13 * a + kind).toNat = (s2 2) (60 + 13 * a + kind).toNat := by rw [hA _ (nir (by omega) (by omega) (by omega)), up_n (by omega), up_n (by omega)]
            refine s_handM (σ := σ93) (k := a) (kind := kind) (more := r2) (by omega) (by omega) (by have i1 := hdI (s2 2) (k := a) (kind := kind) (by omega) (by omega); have i2 := knI' (s2 2) (k := a) (kind := kind) (by omega) (by omega); have i3 := otI (s2 2) (k := a) (by omega); have a4 := hV.hand (p := a.toNat) (k := kind.toNat) (by omega) (by omega); omega) (fun r94 σ94 f94 p94 => ?_)
            rw [q94] at p94
            have hF := hF.tr f94 (by decide) (by decide)
            have hA := (AG.up (i := (60 + 13 * a + kind).toNat) (v := (s2 2) (60 + 13 * a + kind).toNat + r2) hA).tr p94.2
            intro z95 t95 e95 l95 h95
            try have w95 : t95 = 0 := by omega
            intro z96 t96 e96 l96 h96
            try have w96 : t96 = 0 := by omega
            intro z97 t97 e97 l97 h97
            try have w97 : t97 = 0 := by omega
            refine And.intro (rfl) (And.intro (⟨by omega, by omega⟩) ?_)
            intro v98 e98 l98 h98
            have e98 : v98 = σ94 2 z97.toNat := e98
            have gv98 : v98 = (up (up (up (s2 2) (151 + 13 * b + kind).toNat 0) (60 + 13 * b + kind).toNat ((s2 2) (60 + 13 * b + kind).toNat + z92)) (60 + 13 * a + kind).toNat ((s2 2) (60 + 13 * a + kind).toNat + r2)) (151 + 13 * a + kind).toNat := hA.rd e98 (by omega) (by omega) (by omega) (by omega)
            rw [up_n (by omega), up_n (by omega), up_n (by omega)] at gv98
            have gv98 : v98 = (s2 2) (151 + 13 * a + kind).toNat := gv98
            have i2 := knI' (s2 2) (k := a) (kind := kind) (by omega) (by omega); have n8 := hV.2.2.1 a.toNat kind.toNat (by omega) (by omega); have n7 := hV.hand (p := a.toNat) (k := kind.toNat) (by omega) (by omega)
            intro z99 t99 e99 l99 h99
            try have w99 : t99 = 0 := by omega
            refine And.intro (rfl) (And.intro (⟨by omega, by omega⟩) ?_)
            have hF := hF.pt (t := 2) (j := z97.toNat) (v := z99) (by decide) (by decide)
            have hA := hA.pu (j := z97.toNat) (j' := (151 + 13 * a + kind).toNat) (v := z99) (v' := (s2 2) (151 + 13 * a + kind).toNat + r2) (by omega) (by omega)
            intro z101 t101 e101 l101 h101
            try have w101 : t101 = 0 := by omega
            refine And.intro (rfl) (And.intro (⟨by omega, by omega⟩) ?_)
            intro v102 e102 l102 h102
            have e102 : v102 = (xput σ94 2 z97.toNat z99) 2 z101.toNat := e102
            intro z103 t103 e103 l103 h103
            try have w103 : t103 = 0 := by omega
            refine And.intro (rfl) (And.intro (⟨by omega, by omega⟩) ?_)
            have hF := hF.pt (t := 2) (j := z101.toNat) (v := z103) (by decide) (by decide)
            have hA := hA.pi (j := z101.toNat) (v := z103) (by omega) (by omega)
            refine And.intro (rfl) (And.intro (⟨by omega, by omega⟩) ?_)
            have hF := hF.pt (t := 2) (j := 6) (v := 0) (by decide) (by decide)
            have hA := hA.pu (j := 6) (j' := 6) (v := 0) (v' := 0) (by omega) (by omega)
            refine And.intro (Nat.le_of_ble_eq_true rfl) ?_
            show xw _ _ _ _ _ _ _ _ _ _ [xvr 0, xvi a, xvi b, xvi kind, xvi lies, xvi told, xvi r1, xvi r2, xvi 0, xvi r2, xvi (-1), xvi (-1), xvi a, xvi i] _ _
            obtain ⟨hVg, hLg, h6g⟩ := hV.give (a := a) (b := b) (kind := kind) (g := r2) (m := z92) (by omega) (by omega) (by omega) (by omega) (by omega) (by omega) (by omega) (by omega) (by omega) hA
            refine s_books (σ := (xput (xput (xput σ94 2 z97.toNat z99) 2 z101.toNat z103) 2 6 0)) (k := a) (kind := kind) (by omega) (by omega) hVg (fun r106 σ106 f106 p106 => ?_)
            have hF := hF.tr f106 (by decide) (by decide)
            have x439 : Fr [2, 7] [24] σ σ106 ∧ V0 (σ106 2) ∧ LPx (σ 2) (σ106 2) ∧ σ106 2 6 = 0 := ⟨hF, p106.1, hL.p.tr (hLg.tr p106.2.1.p), (p106.2.1 6 (by omega) (by omega) (by omega)).trans h6g⟩
            have p106 : r106 = 0 ∨ r106 = 1 := p106.2.2
            refine And.intro (fun c107 => ?_) (fun c107 => ?_)
            · exact lp_439 (-1) (-1) a (xvi i) σ106 ⟨x439.1, x439.2.1, x439.2.2.1, (by have := x439.2.2.2; omega), by omega⟩
            · refine And.intro (Nat.le_of_ble_eq_true rfl) ?_
              show xw _ _ _ _ _ _ _ _ _ _ [xvr 0, xvi a, xvi b, xvi kind, xvi lies, xvi told, xvi r1, xvi r2, xvi 0, xvi r2, xvi (-1), xvi kind, xvi a, xvi i] _ _
              exact lp_439 (-1) kind a (xvi i) σ106 ⟨x439.1, x439.2.1, x439.2.2.1, (by have := x439.2.2.2; omega), by omega⟩
          · refine s_learns (σ := s2) (k := b) (kind := kind) (by omega) (by omega) (by have i1 := hdI (s2 2) (k := b) (kind := kind) (by omega) (by omega); have i2 := knI' (s2 2) (k := b) (kind := kind) (by omega) (by omega); have i3 := otI (s2 2) (k := b) (by omega); have a1 := hV.some (p := b.toNat) (k := kind.toNat) (by omega) (by omega); have a2 := hV.others (p := b.toNat) (by omega); have a3 := hV.2.2.1 b.toNat kind.toNat (by omega) (by omega); have a4 := hV.hand (p := b.toNat) (k := kind.toNat) (by omega) (by omega); omega) (by have i1 := hdI (s2 2) (k := b) (kind := kind) (by omega) (by omega); have i2 := knI' (s2 2) (k := b) (kind := kind) (by omega) (by omega); have i3 := otI (s2 2) (k := b) (by omega); have a1 := hV.some (p := b.toNat) (k := kind.toNat) (by omega) (by omega); have a2 := hV.others (p := b.toNat) (by omega); have a3 := hV.2.2.1 b.toNat kind.toNat (by omega) (by omega); have a4 := hV.hand (p := b.toNat) (k := kind.toNat) (by omega) (by omega); omega) (fun σ108 f108 p108 => ?_)
            have hF := hF.tr f108 (by decide) (by decide)
            obtain ⟨hV108, n108, o108, d108, u108⟩ := hV.learn (by omega) (by omega) (by omega) p108
            intro z109 t109 e109 l109 h109
            try have w109 : t109 = 0 := by omega
            show xw _ _ _ _ _ _ _ _ _ _ [xvr 0, xvi a, xvi b, xvi kind, xvi lies, xvi told, xvi r1, xvi r2, xvi 0, xvi r2, xvi (-1), xvi (-1), xvi z7, xvi z109] _ _
            exact ih_137 _ (show (4 - z109).toNat < m137 from by omega) z109 σ108 rfl ⟨hF, hV108, hL.tr o108, hE.tr d108, by omega, by omega⟩
        exact lp_137 _ v84 s1 rfl ⟨hF, hV, hL, hE, (by have i2 := knI' (s1 2) (k := b) (kind := kind) (by omega) (by omega); omega), (by have i2 := knI' (s1 2) (k := b) (kind := kind) (by omega) (by omega); have a3 := hV.2.2.1 b.toNat kind.toNat (by omega) (by omega); omega)⟩
    intro z110 t110 e110 l110 h110
    try have w110 : t110 = 0 := by omega
    intro z111 t111 e111 l111 h111
    try have w111 : t111 = 0 := by omega
    intro z112 t112 e112 l112 h112
    try have w112 : t112 = 0 := by omega
    refine And.intro (rfl) (And.intro (⟨by omega, by omega⟩) ?_)
    intro v113 e113 l113 h113
    have e113 : v113 = (xput (xput σ 2 5 z9) 2 z11.toNat z13) 2 z112.toNat := e113
    have gv113 : v113 = (σ 2) (151 + 13 * a + kind).toNat := hA.rd e113 (by omega) (by omega) (by omega) (by omega)
    have gv113 : v113 = (σ 2) (151 + 13 * a + kind).toNat := gv113
    refine And.intro (fun c114 => ?_) (fun c114 => ?_)
    · exact lp_115 (xput (xput σ 2 5 z9) 2 z11.toNat z13) ⟨hF, hV.ag hA, LO.ag hA, HEx.ag hA⟩
    · have hV2 : V0 ((xput (xput σ 2 5 z9) 2 z11.toNat z13) 2) := hV.ag hA
      have hHE : HEx (σ 2) ((xput (xput σ 2 5 z9) 2 z11.toNat z13) 2) := HEx.ag hA; have hHa := hHE a.toNat kind.toNat (by omega) (by omega)
      have hkA : kn ((xput (xput σ 2 5 z9) 2 z11.toNat z13) 2) a.toNat kind.toNat < hd ((xput (xput σ 2 5 z9) 2 z11.toNat z13) 2) a.toNat kind.toNat := by have i1 := hdI (σ 2) (k := a) (kind := kind) (by omega) (by omega); have i2 := knI' (σ 2) (k := a) (kind := kind) (by omega) (by omega); have k9 : kn ((xput (xput σ 2 5 z9) 2 z11.toNat z13) 2) a.toNat kind.toNat = kn (σ 2) a.toNat kind.toNat := hA _ (nir (by omega) (by omega) (by omega)); omega
      refine s_learns (σ := (xput (xput σ 2 5 z9) 2 z11.toNat z13)) (k := a) (kind := kind) (by omega) (by omega) (by have i1 := hdI ((xput (xput σ 2 5 z9) 2 z11.toNat z13) 2) (k := a) (kind := kind) (by omega) (by omega); have i2 := knI' ((xput (xput σ 2 5 z9) 2 z11.toNat z13) 2) (k := a) (kind := kind) (by omega) (by omega); have i3 := otI ((xput (xput σ 2 5 z9) 2 z11.toNat z13) 2) (k := a) (by omega); have a1 := hV2.some (p := a.toNat) (k := kind.toNat) (by omega) (by omega); have a2 := hV2.others (p := a.toNat) (by omega); have a3 := hV2.2.2.1 a.toNat kind.toNat (by omega) (by omega); have a4 := hV2.hand (p := a.toNat) (k := kind.toNat) (by omega) (by omega); omega) (by have i1 := hdI ((xput (xput σ 2 5 z9) 2 z11.toNat z13) 2) (k := a) (kind := kind) (by omega) (by omega); have i2 := knI' ((xput (xput σ 2 5 z9) 2 z11.toNat z13) 2) (k := a) (kind := kind) (by omega) (by omega); have i3 := otI ((xput (xput σ 2 5 z9) 2 z11.toNat z13) 2) (k := a) (by omega); have a1 := hV2.some (p := a.toNat) (k := kind.toNat) (by omega) (by omega); have a2 := hV2.others (p := a.toNat) (by omega); have a3 := hV2.2.2.1 a.toNat kind.toNat (by omega) (by omega); have a4 := hV2.hand (p := a.toNat) (k := kind.toNat) (by omega) (by omega); omega) (fun σ115 f115 p115 => ?_)
      have hF := hF.tr f115 (by decide) (by decide)
      obtain ⟨hV115, n115, o115, d115, u115⟩ := hV2.learn (by omega) (by omega) hkA p115
      have x115 : Fr [2, 7] [24] σ σ115 ∧ V0 (σ115 2) ∧ LO (σ 2) (σ115 2) ∧ HEx (σ 2) (σ115 2) := ⟨hF, hV115, (LO.ag hA).tr o115, hHE.tr d115⟩
      exact lp_115 σ115 x115
  refine And.intro (fun c116 => ?_) (fun c116 => ?_)
  · exact lp_32 () (show True from by first | trivial | omega | (refine ⟨by assumption, ?_⟩; omega) | (refine ⟨?_, ?_⟩ <;> omega))
  · refine And.intro (fun c117 => ?_) (fun c117 => ?_)
    · exact lp_32 () (show True from by first | trivial | omega | (refine ⟨by assumption, ?_⟩; omega) | (refine ⟨?_, ?_⟩ <;> omega))
    · refine And.intro (Nat.le_of_ble_eq_true rfl) ?_
      show xw _ _ _ _ _ _ _ _ _ _ [xvr 0, xvi a, xvi b, xvi kind, xvi lies, xvi told, xvi r1, xvi r2, xvi 1, xvu, xvu, xvu, xvu, xvu] _ _
      refine And.intro (fun c118 => absurd (by decide) c118) (fun _ => ?_)
      refine And.intro (Nat.le_of_ble_eq_true rfl) ?_
      show xw _ _ _ _ _ _ _ _ _ _ [xvr 0, xvi a, xvi b, xvi kind, xvi lies, xvi told, xvi r1, xvi r2, xvi 1, xvi 0, xvu, xvu, xvu, xvu] _ _
      refine And.intro (Nat.le_of_ble_eq_true rfl) ?_
      show xw _ _ _ _ _ _ _ _ _ _ [xvr 0, xvi a, xvi b, xvi kind, xvi lies, xvi told, xvi r1, xvi r2, xvi 1, xvi 0, xvi (-1), xvu, xvu, xvu] _ _
      refine And.intro (Nat.le_of_ble_eq_true rfl) ?_
      show xw _ _ _ _ _ _ _ _ _ _ [xvr 0, xvi a, xvi b, xvi kind, xvi lies, xvi told, xvi r1, xvi r2, xvi 1, xvi 0, xvi (-1), xvi (-1), xvu, xvu] _ _
      intro z119 t119 e119 l119 h119
      try have w119 : t119 = 0 := by omega
      refine And.intro (rfl) (And.intro (⟨by omega, by omega⟩) ?_)
      intro v120 e120 l120 h120
      have e120 : v120 = σ 2 1 := e120
      have gv120 : v120 = (σ 2) 1 := hA.rd (j := 1) e120 (by omega) (by omega) (by omega) (by omega)
      have gv120 : v120 = (σ 2) 1 := gv120
      refine And.intro (by omega) ?_
      intro z121 e121 f121 l121 h121
      replace f121 := f121 (by omega) (by omega)
      have g121 := Int.emod_nonneg z119 (b := v120) (by omega); have k121 := Int.emod_lt_of_pos z119 (b := v120) (by omega); rw [← f121] at g121 k121
      refine And.intro (Nat.le_of_ble_eq_true rfl) ?_
      show xw _ _ _ _ _ _ _ _ _ _ [xvr 0, xvi a, xvi b, xvi kind, xvi lies, xvi told, xvi r1, xvi r2, xvi 1, xvi 0, xvi (-1), xvi (-1), xvi z121, xvu] _ _
      refine And.intro (rfl) (And.intro (⟨by omega, by omega⟩) ?_)
      intro v122 e122 l122 h122
      have e122 : v122 = σ 2 5 := e122
      intro z123 t123 e123 l123 h123
      try have w123 : t123 = 0 := by omega
      refine And.intro (rfl) (And.intro (⟨by omega, by omega⟩) ?_)
      have hF := hF.pt (t := 2) (j := 5) (v := z123) (by decide) (by decide)
      have hA := hA.p5 (v := z123)
      intro z125 t125 e125 l125 h125
      try have w125 : t125 = 0 := by omega
      refine And.intro (rfl) (And.intro (⟨by omega, by omega⟩) ?_)
      intro v126 e126 l126 h126
      have e126 : v126 = (xput σ 2 5 z123) 2 z125.toNat := e126
      intro z127 t127 e127 l127 h127
      try have w127 : t127 = 0 := by omega
      refine And.intro (rfl) (And.intro (⟨by omega, by omega⟩) ?_)
      have hF := hF.pt (t := 2) (j := z125.toNat) (v := z127) (by decide) (by decide)
      have hA := hA.pi (j := z125.toNat) (v := z127) (by omega) (by omega)
      have lp_115 : ∀ (s1 : xS), (Fr [2, 7] [24] σ s1 ∧ V0 (s1 2) ∧ LO (σ 2) (s1 2) ∧ HEx (σ 2) (s1 2)) → X 115 [xvr 0, xvi a, xvi b, xvi kind, xvi lies, xvi told, xvi r1, xvi r2, xvi 1, xvi 0, xvi (-1), xvi (-1), xvi z121, xvu] s1 := by
        intro s1 hv_115
        obtain ⟨hF, hV, hL, hE⟩ := hv_115
        have hA : AG (s1 2) (s1 2) := AG.rf
        have hb9 := hE b.toNat kind.toNat (by omega) (by omega)
        have q0 : s1 2 0 = σ 2 0 := hL 0 (by omega) (by omega) (by omega); have q1 : s1 2 1 = σ 2 1 := hL 1 (by omega) (by omega) (by omega); have q6 : s1 2 6 = σ 2 6 := hL 6 (by omega) (by omega) (by omega)
        refine hX 600 115 _ _ ?_
        have lp_439 : ∀ (drawn : Int) (laid : Int) (fr : Int) (u130_13 : xV) (s3 : xS), (Fr [2, 7] [24] σ s3 ∧ V0 (s3 2) ∧ LPx (σ 2) (s3 2) ∧ (0 ≤ s3 2 6 ∧ s3 2 6 ≤ σ 2 1) ∧ (0 ≤ fr ∧ fr ≤ 5)) → X 439 [xvr 0, xvi a, xvi b, xvi kind, xvi lies, xvi told, xvi r1, xvi r2, xvi 1, xvi 0, xvi drawn, xvi laid, xvi fr, u130_13] s3 := by
          intro drawn laid fr u130_13 s3 hv_439
          obtain ⟨hF, hV, hL, h63, hfr⟩ := hv_439
          have hA : AG (s3 2) (s3 2) := AG.rf
          have q1 : s3 2 1 = σ 2 1 := hL 1 (by omega) (by omega)
          refine hX 600 439 _ _ ?_
          have lp_471 : ∀ (s6 : xS), (Fr [2, 7] [24] σ s6 ∧ VG (s6 2) ∧ LPx (σ 2) (s6 2)) → X 471 [xvr 0, xvi a, xvi b, xvi kind, xvi lies, xvi told, xvi r1, xvi r2, xvi 1, xvi 0, xvi drawn, xvi laid, xvi fr, u130_13] s6 := by
            intro s6 hv_471
            obtain ⟨hF, hG, hL⟩ := hv_471
            have hA : AG (s6 2) (s6 2) := AG.rf
            refine hX 600 471 _ _ ?_
            refine And.intro (fun c132 => ?_) (fun c132 => ?_)
            · refine And.intro (by omega) ?_
              have hF := hF.p (j := 24) (v := 1) (by decide)
              have hA := hA.o (t := 0) (j := 24) (v := 1) (by decide)
              refine And.intro (rfl) (And.intro (⟨by omega, by omega⟩) ?_)
              have hF := hF.pt (t := 7) (j := 0) (v := a) (by decide) (by decide)
              have hA := hA.o (t := 7) (j := 0) (v := a) (by decide)
              refine And.intro (rfl) (And.intro (⟨by omega, by omega⟩) ?_)
              have hF := hF.pt (t := 7) (j := 1) (v := b) (by decide) (by decide)
              have hA := hA.o (t := 7) (j := 1) (v := b) (by decide)
              refine And.intro (rfl) (And.intro (⟨by omega, by omega⟩) ?_)
              have hF := hF.pt (t := 7) (j := 2) (v := kind) (by decide) (by decide)
              have hA := hA.o (t := 7) (j := 2) (v := kind) (by decide)
              refine And.intro (rfl) (And.intro (⟨by omega, by omega⟩) ?_)
              have hF := hF.pt (t := 7) (j := 3) (v := 0) (by decide) (by decide)
              have hA := hA.o (t := 7) (j := 3) (v := 0) (by decide)
              refine And.intro (rfl) (And.intro (⟨by omega, by omega⟩) ?_)
              have hF := hF.pt (t := 7) (j := 4) (v := drawn) (by decide) (by decide)
              have hA := hA.o (t := 7) (j := 4) (v := drawn) (by decide)
              refine And.intro (rfl) (And.intro (⟨by omega, by omega⟩) ?_)
              have hF := hF.pt (t := 7) (j := 5) (v := laid) (by decide) (by decide)
              have hA := hA.o (t := 7) (j := 5) (v := laid) (by decide)
              refine And.intro (rfl) (And.intro (⟨by omega, by omega⟩) ?_)
              have hF := hF.pt (t := 7) (j := 6) (v := 1) (by decide) (by decide)
              have hA := hA.o (t := 7) (j := 6) (v := 1) (by decide)
              refine And.intro (rfl) (And.intro (⟨by omega, by omega⟩) ?_)
              have hF := hF.pt (t := 7) (j := 7) (v := r1) (by decide) (by decide)
              have hA := hA.o (t := 7) (j := 7) (v := r1) (by decide)
              refine And.intro rfl ?_
              exact hQ _ _ hF ⟨hG, hL⟩
            · refine And.intro rfl ?_
              exact hQ _ _ hF ⟨hG, hL⟩
          refine And.intro (rfl) (And.intro (⟨by omega, by omega⟩) ?_)
          intro v142 e142 l142 h142
          have e142 : v142 = s3 2 6 := e142
          have gv142 : v142 = (s3 2) 6 := hA.rd (j := 6) e142 (by omega) (by omega) (by omega) (by omega)
          have gv142 : v142 = (s3 2) 6 := gv142
          refine And.intro (rfl) (And.intro (⟨by omega, by omega⟩) ?_)
          intro v143 e143 l143 h143
          have e143 : v143 = s3 2 1 := e143
          have gv143 : v143 = (s3 2) 1 := hA.rd (j := 1) e143 (by omega) (by omega) (by omega) (by omega)
          have gv143 : v143 = (s3 2) 1 := gv143
          refine And.intro (fun c144 => ?_) (fun c144 => ?_)
          · refine s_settles (σ := s3) (fr := fr) hV (by omega) (fun σ145 f145 p145 => ?_)
            have hF := hF.tr f145 (by decide) (by decide)
            have x471 : Fr [2, 7] [24] σ σ145 ∧ VG (σ145 2) ∧ LPx (σ 2) (σ145 2) := ⟨hF, VG_iff.mpr ⟨p145.1, ⟨p145.2.1, by have w6 := p145.2.2.2 6 (by omega) (by omega) (by omega) (by omega); have w1 := p145.2.2.2 1 (by omega) (by omega) (by omega) (by omega); omega⟩, p145.2.2.1⟩, hL.tr p145.2.2.2.p⟩
            exact lp_471 σ145 x471
          · refine And.intro (rfl) (And.intro (⟨by omega, by omega⟩) ?_)
            have hF := hF.pt (t := 2) (j := 4) (v := (-1)) (by decide) (by decide)
            have hA := hA.pu (j := 4) (j' := 4) (v := (-1)) (v' := -1) (by omega) (by omega)
            exact lp_471 (xput s3 2 4 (-1)) ⟨hF, VG_iff.mpr ⟨hV.t4 (fun i hi h4 h6 => xput_o h4), ⟨(show -1 ≤ -1 ∧ -1 < s3 2 1 from by omega), (show 0 ≤ s3 2 6 ∧ s3 2 6 ≤ s3 2 1 ∧ (¬ (-1 : Int) = -1 → s3 2 6 < s3 2 1) from by omega)⟩, (fun h => absurd xput_s h)⟩, hL.tr (fun i h1 h2 => xput_o (by omega))⟩
        refine And.intro (fun _ => ?_) (fun c147 => absurd (by decide) c147)
        have lp_290 : ∀ (m290 : Nat) (s4 : xS), ((s4 2 (151 + 13 * b + kind).toNat).toNat) = m290 → (Fr [2, 7] [24] σ s4 ∧ V0 (s4 2) ∧ LO (σ 2) (s4 2)) → X 290 [xvr 0, xvi a, xvi b, xvi kind, xvi lies, xvi told, xvi r1, xvi r2, xvi 1, xvi 0, xvi (-1), xvi (-1), xvi z121, xvu] s4 := by
          intro m290
          induction m290 using Nat.strongRecOn with
          | _ m290 ih_290 =>
          intro s4 hm_290 hv_290
          obtain ⟨hF, hV, hL⟩ := hv_290
          have hA : AG (s4 2) (s4 2) := AG.rf
          refine hX 600 290 _ _ ?_
          intro z149 t149 e149 l149 h149
          try have w149 : t149 = 0 := by omega
          intro z150 t150 e150 l150 h150
          try have w150 : t150 = 0 := by omega
          intro z151 t151 e151 l151 h151
          try have w151 : t151 = 0 := by omega
          refine And.intro (rfl) (And.intro (⟨by omega, by omega⟩) ?_)
          intro v152 e152 l152 h152
          have e152 : v152 = s4 2 z151.toNat := e152
          have gv152 : v152 = (s4 2) (151 + 13 * b + kind).toNat := hA.rd e152 (by omega) (by omega) (by omega) (by omega)
          have gv152 : v152 = (s4 2) (151 + 13 * b + kind).toNat := gv152
          refine And.intro (fun c153 => ?_) (fun c153 => ?_)
          · refine s_cannot (σ := s4) (k := b) (kind := kind) (by omega) (by have a2 := hV.others (p := b.toNat) (by omega); have i3 := otI (s4 2) (k := b) (by omega); omega) (fun σ154 f154 p154 => ?_)
            have hF := hF.tr f154 (by decide) (by decide)
            have hV := hV.ag p154; have hL := hL.tr (LO.ag p154); have hA : AG (σ154 2) (σ154 2) := AG.rf
            have q0 : σ154 2 0 = σ 2 0 := hL 0 (by omega) (by omega) (by omega); have q1 : σ154 2 1 = σ 2 1 := hL 1 (by omega) (by omega) (by omega); have q6 : σ154 2 6 = σ 2 6 := hL 6 (by omega) (by omega) (by omega)
            refine And.intro (rfl) (And.intro (⟨by omega, by omega⟩) ?_)
            intro v155 e155 l155 h155
            have e155 : v155 = σ154 2 6 := e155
            have gv155 : v155 = (σ154 2) 6 := hA.rd (j := 6) e155 (by omega) (by omega) (by omega) (by omega)
            have gv155 : v155 = (σ154 2) 6 := gv155
            intro z156 t156 e156 l156 h156
            try have w156 : t156 = 0 := by omega
            refine And.intro (rfl) (And.intro (⟨by omega, by omega⟩) ?_)
            have hF := hF.pt (t := 2) (j := 6) (v := z156) (by decide) (by decide)
            have hA := hA.pu (j := 6) (j' := 6) (v := z156) (v' := (σ154 2) 6 + 1) (by omega) (by omega)
            refine And.intro (rfl) (And.intro (⟨by omega, by omega⟩) ?_)
            intro v158 e158 l158 h158
            have e158 : v158 = σ154 2 7 := e158
            have gv158 : v158 = (up (σ154 2) 6 ((σ154 2) 6 + 1)) 7 := hA.rd (j := 7) e158 (by omega) (by omega) (by omega) (by omega)
            rw [up_n (by omega)] at gv158
            have gv158 : v158 = (σ154 2) 7 := gv158
            refine And.intro (fun c159 => ?_) (fun c159 => ?_)
            · exact lp_439 (-1) (-1) z121 (xvu) (xput σ154 2 6 z156) (by have hx := hV.v6 hA; have q1x := hx.2.2.1 1 (by omega) (by omega); exact ⟨hF, hx.1, hL.p.tr hx.2.2.1, (by have := hx.2.1; omega), by omega⟩)
            · refine And.intro (rfl) (And.intro (⟨by omega, by omega⟩) ?_)
              have hF := hF.pt (t := 2) (j := 6) (v := 0) (by decide) (by decide)
              have hA := hA.pu (j := 6) (j' := 6) (v := 0) (v' := 0) (by omega) (by omega)
              have hA6 : AG (up (σ154 2) 6 0) ((xput (xput σ154 2 6 z156) 2 6 0) 2) := (by intro i hi; rw [hA i hi]; by_cases e : i = 6 <;> simp [up, e])
              obtain ⟨hV6, h66, hL6, h76⟩ := hV.v6 hA6
              have q16 := hL6 1 (by omega) (by omega)
              have hc8 := hV6.c8 (by omega)
              refine s_draws (σ := (xput (xput σ154 2 6 z156) 2 6 0)) (k := a) hV6 (by omega) (by omega) (fun r161 σ161 f161 p161 => ?_)
              have hF := hF.tr f161 (by decide) (by decide)
              have hD := p161.2; have hA : AG (σ161 2) (σ161 2) := AG.rf; have h0b := hV6.1.1; have q06 := hL6 0 (by omega) (by omega)
              refine And.intro (Nat.le_of_ble_eq_true rfl) ?_
              show xw _ _ _ _ _ _ _ _ _ _ [xvr 0, xvi a, xvi b, xvi kind, xvi lies, xvi told, xvi r1, xvi r2, xvi 1, xvi 0, xvi r161, xvi (-1), xvi z121, xvu] _ _
              have lp_419 : ∀ (_ : Unit), (True) → X 419 [xvr 0, xvi a, xvi b, xvi kind, xvi lies, xvi told, xvi r1, xvi r2, xvi 1, xvi 0, xvi r161, xvi (-1), xvi z121, xvu] σ161 := by
                intro _ hv_419
                refine hX 600 419 _ _ ?_
                refine s_adds (σ := σ161) (k := a) (mask := 0) (by omega) (by have i3 := otI (σ161 2) (k := a) (by omega); have q := hV6.o51 (p := a.toNat) (by omega) (by omega) (by omega) hD; omega) (fun σ163 f163 p163 => ?_)
                have hF := hF.tr f163 (by decide) (by decide)
                have hx := hV6.drA (p := a.toNat) (by omega) (by omega) (by omega) hD (by rw [← show (229 + a).toNat = 229 + a.toNat from by omega]; exact p163)
                have lp_425 : ∀ (fr2 : Int) (s5 : xS), (Fr [2, 7] [24] σ s5 ∧ V0 (s5 2) ∧ LPx (σ 2) (s5 2) ∧ s5 2 6 = 0 ∧ (0 ≤ fr2 ∧ fr2 ≤ 5)) → X 425 [xvr 0, xvi a, xvi b, xvi kind, xvi lies, xvi told, xvi r1, xvi r2, xvi 1, xvi 0, xvi r161, xvi (-1), xvi fr2, xvu] s5 := by
                  intro fr2 s5 hv_425
                  obtain ⟨hF, hV, hL, h65, hfr2⟩ := hv_425
                  refine hX 600 425 _ _ ?_
                  refine s_books (σ := s5) (k := a) (kind := r161) (by omega) (by omega) hV (fun r165 σ165 f165 p165 => ?_)
                  have hF := hF.tr f165 (by decide) (by decide)
                  have x439 : Fr [2, 7] [24] σ σ165 ∧ V0 (σ165 2) ∧ LPx (σ 2) (σ165 2) ∧ σ165 2 6 = 0 := ⟨hF, p165.1, hL.tr p165.2.1.p, (p165.2.1 6 (by omega) (by omega) (by omega)).trans h65⟩
                  have p165 : r165 = 0 ∨ r165 = 1 := p165.2.2
                  refine And.intro (fun c166 => ?_) (fun c166 => ?_)
                  · exact lp_439 r161 (-1) fr2 (xvu) σ165 ⟨x439.1, x439.2.1, x439.2.2.1, (by have := x439.2.2.2; omega), by omega⟩
                  · refine And.intro (Nat.le_of_ble_eq_true rfl) ?_
                    show xw _ _ _ _ _ _ _ _ _ _ [xvr 0, xvi a, xvi b, xvi kind, xvi lies, xvi told, xvi r1, xvi r2, xvi 1, xvi 0, xvi r161, xvi r161, xvi fr2, xvu] _ _
                    exact lp_439 r161 r161 fr2 (xvu) σ165 ⟨x439.1, x439.2.1, x439.2.2.1, (by have := x439.2.2.2; omega), by omega⟩
                exact lp_425 z121 σ163 ⟨hF, hx.1, hL.p.tr (hL6.tr hx.2.2.p), (hx.2.2 6 (by omega) (by omega) (by omega)).trans h66, by omega⟩
              have lp_425 : ∀ (fr2 : Int) (s5 : xS), (Fr [2, 7] [24] σ s5 ∧ V0 (s5 2) ∧ LPx (σ 2) (s5 2) ∧ s5 2 6 = 0 ∧ (0 ≤ fr2 ∧ fr2 ≤ 5)) → X 425 [xvr 0, xvi a, xvi b, xvi kind, xvi lies, xvi told, xvi r1, xvi r2, xvi 1, xvi 0, xvi r161, xvi (-1), xvi fr2, xvu] s5 := by
                intro fr2 s5 hv_425
                obtain ⟨hF, hV, hL, h65, hfr2⟩ := hv_425
                refine hX 600 425 _ _ ?_
                refine s_books (σ := s5) (k := a) (kind := r161) (by omega) (by omega) hV (fun r168 σ168 f168 p168 => ?_)
                have hF := hF.tr f168 (by decide) (by decide)
                have x439 : Fr [2, 7] [24] σ σ168 ∧ V0 (σ168 2) ∧ LPx (σ 2) (σ168 2) ∧ σ168 2 6 = 0 := ⟨hF, p168.1, hL.tr p168.2.1.p, (p168.2.1 6 (by omega) (by omega) (by omega)).trans h65⟩
                have p168 : r168 = 0 ∨ r168 = 1 := p168.2.2
                refine And.intro (fun c169 => ?_) (fun c169 => ?_)
                · exact lp_439 r161 (-1) fr2 (xvu) σ168 ⟨x439.1, x439.2.1, x439.2.2.1, (by have := x439.2.2.2; omega), by omega⟩
                · refine And.intro (Nat.le_of_ble_eq_true rfl) ?_
                  show xw _ _ _ _ _ _ _ _ _ _ [xvr 0, xvi a, xvi b, xvi kind, xvi lies, xvi told, xvi r1, xvi r2, xvi 1, xvi 0, xvi r161, xvi r161, xvi fr2, xvu] _ _
                  exact lp_439 r161 r161 fr2 (xvu) σ168 ⟨x439.1, x439.2.1, x439.2.2.1, (by have := x439.2.2.2; omega), by omega⟩
              refine And.intro (rfl) (And.intro (⟨by omega, by omega⟩) ?_)
              intro v170 e170 l170 h170
              have e170 : v170 = σ161 2 2 := e170
              refine And.intro (fun c171 => ?_) (fun c171 => ?_)
              · exact lp_419 () (show True from by first | trivial | omega | (refine ⟨by assumption, ?_⟩; omega) | (refine ⟨?_, ?_⟩ <;> omega))
              · refine And.intro (fun c172 => ?_) (fun c172 => ?_)
                · exact lp_419 () (show True from by first | trivial | omega | (refine ⟨by assumption, ?_⟩; omega) | (refine ⟨?_, ?_⟩ <;> omega))
                · intro z173 t173 e173 l173 h173
                  try have w173 : t173 = 0 := by omega
                  intro z174 t174 e174 l174 h174
                  try have w174 : t174 = 0 := by omega
                  intro z175 t175 e175 l175 h175
                  try have w175 : t175 = 0 := by omega
                  refine And.intro (rfl) (And.intro (⟨by omega, by omega⟩) ?_)
                  intro v176 e176 l176 h176
                  have e176 : v176 = σ161 2 z175.toNat := e176
                  have gv176 : v176 = (σ161 2) (151 + 13 * a + kind).toNat := hA.rd e176 (by omega) (by omega) (by omega) (by omega)
                  have gv176 : v176 = (σ161 2) (151 + 13 * a + kind).toNat := gv176
                  have n6 : kn (σ161 2) a.toNat kind.toNat = kn ((xput (xput σ154 2 6 z156) 2 6 0) 2) a.toNat kind.toNat := hD.2.2.2.2.2 (151 + 13 * a.toNat + kind.toNat) (nir (by omega) (by omega) (by omega)) (by omega) (by omega) (by omega) (by omega); have n8 := hV6.2.2.1 a.toNat kind.toNat (by omega) (by omega); have n7 := hV6.hand (p := a.toNat) (k := kind.toNat) (by omega) (by omega); have i2 := knI' (σ161 2) (k := a) (kind := kind) (by omega) (by omega)
                  intro z177 t177 e177 l177 h177
                  try have w177 : t177 = 0 := by omega
                  refine And.intro (rfl) (And.intro (⟨by omega, by omega⟩) ?_)
                  have hF := hF.pt (t := 2) (j := z175.toNat) (v := z177) (by decide) (by decide)
                  have hA := hA.pu (j := z175.toNat) (j' := (151 + 13 * a + kind).toNat) (v := z177) (v' := (σ161 2) (151 + 13 * a + kind).toNat + 1) (by omega) (by omega)
                  refine And.intro (Nat.le_of_ble_eq_true rfl) ?_
                  show xw _ _ _ _ _ _ _ _ _ _ [xvr 0, xvi a, xvi b, xvi kind, xvi lies, xvi told, xvi r1, xvi r2, xvi 1, xvi 0, xvi r161, xvi (-1), xvi a, xvu] _ _
                  exact lp_425 a (xput σ161 2 z175.toNat z177) (by have hx := hV6.drK (p := a.toNat) (by omega) (by omega) (by omega) hD (by rw [show 151 + 13 * a.toNat + r161.toNat = (151 + 13 * a + kind).toNat from by omega]; exact hA); exact ⟨hF, hx.1, hL.p.tr (hL6.tr hx.2.2.p), (hx.2.2 6 (by omega) (by omega) (by omega)).trans h66, by omega⟩)
          · refine s_adds (σ := s4) (k := b) (mask := 0) (by omega) (by have i2 := knI' (s4 2) (k := b) (kind := kind) (by omega) (by omega); have i3 := otI (s4 2) (k := b) (by omega); have a := hV.o51k (p := b.toNat) (k := kind.toNat) (by omega) (by omega) (by omega); omega) (fun σ179 f179 p179 => ?_)
            have hF := hF.tr f179 (by decide) (by decide)
            have hA := p179
            intro z180 t180 e180 l180 h180
            try have w180 : t180 = 0 := by omega
            intro z181 t181 e181 l181 h181
            try have w181 : t181 = 0 := by omega
            intro z182 t182 e182 l182 h182
            try have w182 : t182 = 0 := by omega
            refine And.intro (rfl) (And.intro (⟨by omega, by omega⟩) ?_)
            intro v183 e183 l183 h183
            have e183 : v183 = σ179 2 z182.toNat := e183
            have gv183 : v183 = (up (s4 2) (229 + b).toNat (s4 2 (229 + b).toNat + 1)) (151 + 13 * b + kind).toNat := hA.rd e183 (by omega) (by omega) (by omega) (by omega)
            rw [up_n (by omega)] at gv183
            have gv183 : v183 = (s4 2) (151 + 13 * b + kind).toNat := gv183
            intro z184 t184 e184 l184 h184
            try have w184 : t184 = 0 := by omega
            refine And.intro (rfl) (And.intro (⟨by omega, by omega⟩) ?_)
            have hF := hF.pt (t := 2) (j := z182.toNat) (v := z184) (by decide) (by decide)
            have hA := hA.pu (j := z182.toNat) (j' := (151 + 13 * b + kind).toNat) (v := z184) (v' := (s4 2) (151 + 13 * b + kind).toNat - 1) (by omega) (by omega)
            exact ih_290 _ (show ((xput σ179 2 z182.toNat z184) 2 (151 + 13 * b + kind).toNat).toNat < m290 from by have hx := hV.forget (by omega) (by omega) (by have i2 := knI' (s4 2) (k := b) (kind := kind) (by omega) (by omega); omega) hA; have i9 := knI' (s4 2) (k := b) (kind := kind) (by omega) (by omega); have i8 := knI' ((xput σ179 2 z182.toNat z184) 2) (k := b) (kind := kind) (by omega) (by omega); have n1 := hx.2.1; omega) (xput σ179 2 z182.toNat z184) rfl (by have hx := hV.forget (by omega) (by omega) (by have i2 := knI' (s4 2) (k := b) (kind := kind) (by omega) (by omega); omega) hA; exact ⟨hF, hx.1, hL.tr hx.2.2.1⟩)
        intro z186 t186 e186 l186 h186
        try have w186 : t186 = 0 := by omega
        intro z187 t187 e187 l187 h187
        try have w187 : t187 = 0 := by omega
        intro z188 t188 e188 l188 h188
        try have w188 : t188 = 0 := by omega
        refine And.intro (rfl) (And.intro (⟨by omega, by omega⟩) ?_)
        intro v189 e189 l189 h189
        have e189 : v189 = s1 2 z188.toNat := e189
        have gv189 : v189 = (s1 2) (151 + 13 * b + kind).toNat := hA.rd e189 (by omega) (by omega) (by omega) (by omega)
        have gv189 : v189 = (s1 2) (151 + 13 * b + kind).toNat := gv189
        refine And.intro (fun c190 => ?_) (fun c190 => ?_)
        · exact lp_290 _ s1 rfl ⟨hF, hV.ag hA, hL.tr (LO.ag hA)⟩
        · intro z191 t191 e191 l191 h191
          try have w191 : t191 = 0 := by omega
          refine And.intro (rfl) (And.intro (⟨by omega, by omega⟩) ?_)
          intro v192 e192 l192 h192
          have e192 : v192 = s1 2 z191.toNat := e192
          intro z193 t193 e193 l193 h193
          try have w193 : t193 = 0 := by omega
          refine And.intro (rfl) (And.intro (⟨by omega, by omega⟩) ?_)
          have hF := hF.pt (t := 2) (j := z191.toNat) (v := z193) (by decide) (by decide)
          have hA := hA.pi (j := z191.toNat) (v := z193) (by omega) (by omega)
          exact lp_290 _ (xput s1 2 z191.toNat z193) rfl ⟨hF, hV.ag hA, hL.tr (LO.ag hA)⟩
      intro z195 t195 e195 l195 h195
      try have w195 : t195 = 0 := by omega
      intro z196 t196 e196 l196 h196
      try have w196 : t196 = 0 := by omega
      intro z197 t197 e197 l197 h197
      try have w197 : t197 = 0 := by omega
      refine And.intro (rfl) (And.intro (⟨by omega, by omega⟩) ?_)
      intro v198 e198 l198 h198
      have e198 : v198 = (xput (xput σ 2 5 z123) 2 z125.toNat z127) 2 z197.toNat := e198
      have gv198 : v198 = (σ 2) (151 + 13 * a + kind).toNat := hA.rd e198 (by omega) (by omega) (by omega) (by omega)
      have gv198 : v198 = (σ 2) (151 + 13 * a + kind).toNat := gv198
      refine And.intro (fun c199 => ?_) (fun c199 => ?_)
      · exact lp_115 (xput (xput σ 2 5 z123) 2 z125.toNat z127) ⟨hF, hV.ag hA, LO.ag hA, HEx.ag hA⟩
      · have hV2 : V0 ((xput (xput σ 2 5 z123) 2 z125.toNat z127) 2) := hV.ag hA
        have hHE : HEx (σ 2) ((xput (xput σ 2 5 z123) 2 z125.toNat z127) 2) := HEx.ag hA; have hHa := hHE a.toNat kind.toNat (by omega) (by omega)
        have hkA : kn ((xput (xput σ 2 5 z123) 2 z125.toNat z127) 2) a.toNat kind.toNat < hd ((xput (xput σ 2 5 z123) 2 z125.toNat z127) 2) a.toNat kind.toNat := by have i1 := hdI (σ 2) (k := a) (kind := kind) (by omega) (by omega); have i2 := knI' (σ 2) (k := a) (kind := kind) (by omega) (by omega); have k9 : kn ((xput (xput σ 2 5 z123) 2 z125.toNat z127) 2) a.toNat kind.toNat = kn (σ 2) a.toNat kind.toNat := hA _ (nir (by omega) (by omega) (by omega)); omega
        refine s_learns (σ := (xput (xput σ 2 5 z123) 2 z125.toNat z127)) (k := a) (kind := kind) (by omega) (by omega) (by have i1 := hdI ((xput (xput σ 2 5 z123) 2 z125.toNat z127) 2) (k := a) (kind := kind) (by omega) (by omega); have i2 := knI' ((xput (xput σ 2 5 z123) 2 z125.toNat z127) 2) (k := a) (kind := kind) (by omega) (by omega); have i3 := otI ((xput (xput σ 2 5 z123) 2 z125.toNat z127) 2) (k := a) (by omega); have a1 := hV2.some (p := a.toNat) (k := kind.toNat) (by omega) (by omega); have a2 := hV2.others (p := a.toNat) (by omega); have a3 := hV2.2.2.1 a.toNat kind.toNat (by omega) (by omega); have a4 := hV2.hand (p := a.toNat) (k := kind.toNat) (by omega) (by omega); omega) (by have i1 := hdI ((xput (xput σ 2 5 z123) 2 z125.toNat z127) 2) (k := a) (kind := kind) (by omega) (by omega); have i2 := knI' ((xput (xput σ 2 5 z123) 2 z125.toNat z127) 2) (k := a) (kind := kind) (by omega) (by omega); have i3 := otI ((xput (xput σ 2 5 z123) 2 z125.toNat z127) 2) (k := a) (by omega); have a1 := hV2.some (p := a.toNat) (k := kind.toNat) (by omega) (by omega); have a2 := hV2.others (p := a.toNat) (by omega); have a3 := hV2.2.2.1 a.toNat kind.toNat (by omega) (by omega); have a4 := hV2.hand (p := a.toNat) (k := kind.toNat) (by omega) (by omega); omega) (fun σ200 f200 p200 => ?_)
        have hF := hF.tr f200 (by decide) (by decide)
        obtain ⟨hV200, n200, o200, d200, u200⟩ := hV2.learn (by omega) (by omega) hkA p200
        have x115 : Fr [2, 7] [24] σ σ200 ∧ V0 (σ200 2) ∧ LO (σ 2) (σ200 2) ∧ HEx (σ 2) (σ200 2) := ⟨hF, hV200, (LO.ag hA).tr o200, hHE.tr d200⟩
        exact lp_115 σ200 x115
