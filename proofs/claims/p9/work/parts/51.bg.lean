set_option maxHeartbeats 4000000 in
set_option maxRecDepth 100000 in
theorem s_cardsW {σ : xS} {k j : Int} {Q : Option xV → xS → Prop} (hV : VS j (σ 2)) (hp0 : 0 ≤ k ∧ k ≤ 5) (hQ : ∀ r : Int, (r = sm 13 (hd (σ 2) k.toNat) ∧ 0 ≤ r ∧ r ≤ 52) → Q (some (xvi r)) σ) : xT kX11_cards [xvr 0, xvi k] σ Q := by
  refine ⟨Nat.le_of_ble_eq_true rfl, fun X hX => ?_⟩
  show X 0 [xvr 0, xvi k, xvu, xvu] σ
  refine hX 400 0 _ _ ?_
  refine And.intro (Nat.le_of_ble_eq_true rfl) ?_
  show xw _ _ _ _ _ _ _ _ _ _ [xvr 0, xvi k, xvi 0, xvu] _ _
  refine And.intro (Nat.le_of_ble_eq_true rfl) ?_
  show xw _ _ _ _ _ _ _ _ _ _ [xvr 0, xvi k, xvi 0, xvi 0] _ _
  have lp_4 : ∀ (m4 : Nat) (n : Int) (kind : Int), ((13 - kind).toNat) = m4 → (n = sm kind.toNat (hd (σ 2) k.toNat) ∧ (0 ≤ kind ∧ kind ≤ 13 ∧ 0 ≤ n ∧ n ≤ 4 * kind)) → X 4 [xvr 0, xvi k, xvi n, xvi kind] σ := by
    intro m4
    induction m4 using Nat.strongRecOn with
    | _ m4 ih_4 =>
    intro n kind hm_4 hv_4
    refine hX 400 4 _ _ ?_
    refine And.intro (fun c2 => ?_) (fun c2 => ?_)
    · refine And.intro rfl ?_
      exact hQ _ ⟨by rw [hv_4.1, show kind.toNat = 13 from by omega], by omega⟩
    · intro z3 t3 e3 l3 h3
      try have w3 : t3 = 0 := by omega
      intro z4 t4 e4 l4 h4
      try have w4 : t4 = 0 := by omega
      intro z5 t5 e5 l5 h5
      try have w5 : t5 = 0 := by omega
      refine And.intro (rfl) (And.intro (⟨by omega, by omega⟩) ?_)
      intro v6 e6 l6 h6
      have e6 : v6 = σ 2 z5.toNat := e6
      have a4 := hV.hand (p := k.toNat) (k := kind.toNat) (by omega) (by omega); have i1 := hdI (σ 2) (k := k) (kind := kind) (by omega) (by omega); rw [show (60 + 13 * k + kind) = z5 from by omega] at i1
      intro z7 t7 e7 l7 h7
      try have w7 : t7 = 0 := by omega
      refine And.intro (Nat.le_of_ble_eq_true rfl) ?_
      show xw _ _ _ _ _ _ _ _ _ _ [xvr 0, xvi k, xvi z7, xvi kind] _ _
      intro z8 t8 e8 l8 h8
      try have w8 : t8 = 0 := by omega
      show xw _ _ _ _ _ _ _ _ _ _ [xvr 0, xvi k, xvi z7, xvi z8] _ _
      exact ih_4 _ (show (13 - z8).toNat < m4 from by omega) z7 z8 rfl ⟨by rw [show z8.toNat = kind.toNat + 1 from by omega]; show z7 = sm kind.toNat _ + hd (σ 2) k.toNat kind.toNat; have i1 := hdI (σ 2) (k := k) (kind := kind) (by omega) (by omega); rw [show (60 + 13 * k + kind) = z5 from by omega] at i1; omega, by have a4 := hV.hand (p := k.toNat) (k := kind.toNat) (by omega) (by omega); have i1 := hdI (σ 2) (k := k) (kind := kind) (by omega) (by omega); rw [show (60 + 13 * k + kind) = z5 from by omega] at i1; omega⟩
  exact lp_4 _ 0 0 rfl ⟨rfl, by omega⟩
set_option maxHeartbeats 4000000 in
set_option maxRecDepth 100000 in
theorem s_begins {σ : xS} {Q : Option xV → xS → Prop} (hp0 : VS 0 (σ 2)) (hp1 : σ 2 6 = 0) (hQ : ∀ σ' : xS, Fr [2] [] σ σ' → (VG (σ' 2) ∧ L4 (σ 2) (σ' 2)) → Q none σ') : xT kX11_begins [xvr 0] σ Q := by
  refine ⟨Nat.le_of_ble_eq_true rfl, fun X hX => ?_⟩
  show X 0 [xvr 0, xvu, xvu, xvu] σ
  have hF : Fr [2] [] σ σ := Fr.rf
  refine hX 400 0 _ _ ?_
  have hz1 := hp0.1.2.1
  refine And.intro (Nat.le_of_ble_eq_true rfl) ?_
  show xw _ _ _ _ _ _ _ _ _ _ [xvr 0, xvi 0, xvu, xvu] _ _
  have lp_2 : ∀ (m2 : Nat) (k : Int) (u1_2 : xV) (u1_3 : xV) (s1 : xS), ((6 - k).toNat) = m2 → (Fr [2] [] σ s1 ∧ VS k (s1 2) ∧ LQ (σ 2) (s1 2) ∧ (0 ≤ k ∧ k ≤ σ 2 1)) → X 2 [xvr 0, xvi k, u1_2, u1_3] s1 := by
    intro m2
    induction m2 using Nat.strongRecOn with
    | _ m2 ih_2 =>
    intro k u1_2 u1_3 s1 hm_2 hv_2
    obtain ⟨hF, hV, hL, hv_2⟩ := hv_2
    have mm1 : 0 ≤ s1 2 1 ∧ s1 2 1 ≤ 6 := hV.1.2.1; have mm0 : 0 ≤ s1 2 0 ∧ s1 2 0 ≤ 13 := hV.1.1; have q1 : s1 2 1 = σ 2 1 := hL 1 (by omega) (by omega) (by omega); have q0 : s1 2 0 = σ 2 0 := hL 0 (by omega) (by omega) (by omega)
    refine hX 400 2 _ _ ?_
    refine And.intro (rfl) (And.intro (⟨by omega, by omega⟩) ?_)
    intro v2 e2 l2 h2
    have e2 : v2 = s1 2 1 := e2
    refine And.intro (fun c3 => ?_) (fun c3 => ?_)
    · refine And.intro (Nat.le_of_ble_eq_true rfl) ?_
      show xw _ _ _ _ _ _ _ _ _ _ [xvr 0, xvi 0, u1_2, u1_3] _ _
      have lp_45 : ∀ (m45 : Nat) (k2 : Int) (u4_2 : xV) (s3 : xS), ((6 - k2).toNat) = m45 → (Fr [2] [] σ s3 ∧ V0 (s3 2) ∧ LQ (σ 2) (s3 2) ∧ (0 ≤ k2 ∧ k2 ≤ 6)) → X 45 [xvr 0, xvi k2, u4_2, u1_3] s3 := by
        intro m45
        induction m45 using Nat.strongRecOn with
        | _ m45 ih_45 =>
        intro k2 u4_2 s3 hm_45 hv_45
        obtain ⟨hF, hV, hL, hv_45⟩ := hv_45
        have mm1 : 0 ≤ s3 2 1 ∧ s3 2 1 ≤ 6 := hV.1.2.1; have mm0 : 0 ≤ s3 2 0 ∧ s3 2 0 ≤ 13 := hV.1.1; have q1 : s3 2 1 = σ 2 1 := hL 1 (by omega) (by omega) (by omega); have q0 : s3 2 0 = σ 2 0 := hL 0 (by omega) (by omega) (by omega)
        refine hX 400 45 _ _ ?_
        refine And.intro (rfl) (And.intro (⟨by omega, by omega⟩) ?_)
        intro v5 e5 l5 h5
        have e5 : v5 = s3 2 1 := e5
        refine And.intro (fun c6 => ?_) (fun c6 => ?_)
        · refine s_settles (σ := s3) (fr := 0) hV (by omega) (fun σ7 f7 p7 => ?_)
          have hF := hF.tr f7 (by decide) (by decide)
          refine And.intro rfl (And.intro rfl ?_)
          have w6 := p7.2.2.2 6 (by omega) (by omega) (by omega) (by omega); have w1 := p7.2.2.2 1 (by omega) (by omega) (by omega) (by omega); have u6 := hL 6 (by omega) (by omega) (by omega); have m1 := p7.1.1.2.1
          exact hQ _ hF ⟨VG_iff.mpr ⟨p7.1, ⟨p7.2.1, by have := p7.2.1; omega⟩, p7.2.2.1⟩, hL.l4.tr p7.2.2.2⟩
        · refine And.intro (Nat.le_of_ble_eq_true rfl) ?_
          show xw _ _ _ _ _ _ _ _ _ _ [xvr 0, xvi k2, xvi 0, u1_3] _ _
          have lp_57 : ∀ (m57 : Nat) (kd : Int) (s4 : xS), ((13 - kd).toNat) = m57 → (Fr [2] [] σ s4 ∧ V0 (s4 2) ∧ LQ (σ 2) (s4 2) ∧ (0 ≤ kd ∧ kd ≤ 13)) → X 57 [xvr 0, xvi k2, xvi kd, u1_3] s4 := by
            intro m57
            induction m57 using Nat.strongRecOn with
            | _ m57 ih_57 =>
            intro kd s4 hm_57 hv_57
            obtain ⟨hF, hV, hL, hv_57⟩ := hv_57
            have mm1 : 0 ≤ s4 2 1 ∧ s4 2 1 ≤ 6 := hV.1.2.1; have mm0 : 0 ≤ s4 2 0 ∧ s4 2 0 ≤ 13 := hV.1.1; have q1 : s4 2 1 = σ 2 1 := hL 1 (by omega) (by omega) (by omega); have q0 : s4 2 0 = σ 2 0 := hL 0 (by omega) (by omega) (by omega)
            refine hX 400 57 _ _ ?_
            refine And.intro (rfl) (And.intro (⟨by omega, by omega⟩) ?_)
            intro v9 e9 l9 h9
            have e9 : v9 = s4 2 0 := e9
            refine And.intro (fun c10 => ?_) (fun c10 => ?_)
            · intro z11 t11 e11 l11 h11
              try have w11 : t11 = 0 := by omega
              show xw _ _ _ _ _ _ _ _ _ _ [xvr 0, xvi z11, xvi kd, u1_3] _ _
              exact ih_45 _ (show (6 - z11).toNat < m45 from by omega) z11 (xvi kd) s4 rfl ⟨hF, hV, hL, by omega⟩
            · refine s_books (σ := s4) (k := k2) (kind := kd) (by omega) (by omega) hV (fun r12 σ12 f12 p12 => ?_)
              have hF := hF.tr f12 (by decide) (by decide)
              intro z13 t13 e13 l13 h13
              try have w13 : t13 = 0 := by omega
              show xw _ _ _ _ _ _ _ _ _ _ [xvr 0, xvi k2, xvi z13, u1_3] _ _
              exact ih_57 _ (show (13 - z13).toNat < m57 from by omega) z13 σ12 rfl ⟨hF, p12.1, hL.tr p12.2.1.q, by omega⟩
          exact lp_57 _ 0 s3 rfl ⟨hF, hV, hL, by omega⟩
      exact lp_45 _ 0 (u1_2) s1 rfl ⟨hF, hV.v0 (by omega), hL, by omega⟩
    · refine s_cardsW (σ := s1) (k := k) hV (by omega) (fun r14 p14 => ?_)
      refine And.intro (Nat.le_of_ble_eq_true rfl) ?_
      show xw _ _ _ _ _ _ _ _ _ _ [xvr 0, xvi k, xvi r14, u1_3] _ _
      refine And.intro (Nat.le_of_ble_eq_true rfl) ?_
      show xw _ _ _ _ _ _ _ _ _ _ [xvr 0, xvi k, xvi r14, xvi 0] _ _
      have lp_20 : ∀ (m20 : Nat) (i : Int) (s2 : xS), ((52 - i).toNat) = m20 → (Fr [2] [] σ s2 ∧ AG (up (s1 2) (229 + k.toNat) i) (s2 2) ∧ (0 ≤ i ∧ i ≤ r14)) → X 20 [xvr 0, xvi k, xvi r14, xvi i] s2 := by
        intro m20
        induction m20 using Nat.strongRecOn with
        | _ m20 ih_20 =>
        intro i s2 hm_20 hv_20
        obtain ⟨hF, hA2, hv_20⟩ := hv_20
        refine hX 400 20 _ _ ?_
        refine And.intro (fun c16 => ?_) (fun c16 => ?_)
        · intro z17 t17 e17 l17 h17
          try have w17 : t17 = 0 := by omega
          show xw _ _ _ _ _ _ _ _ _ _ [xvr 0, xvi z17, xvi r14, xvi i] _ _
          exact ih_2 _ (show (6 - z17).toNat < m2 from by omega) z17 (xvi r14) (xvi i) s2 rfl ⟨hF, (by rw [show z17 = k + 1 from by omega]; exact VS.ag (j := k) (k := k.toNat) hV (by omega) hA2 (by rw [if_pos (by omega)]; omega) (by omega)), hL.tr (fun i h1 h2 h3 => by rw [hA2 i (nir h2 h3 (by omega)), up_n (by omega)]), by omega⟩
        · have o18 : s2 2 (229 + k).toNat = i := by rw [show (229 + k).toNat = 229 + k.toNat from by omega, hA2 _ (nir (by omega) (by omega) (by omega)), up_s]
          refine s_adds (σ := s2) (k := k) (mask := 0) (by omega) (by omega) (fun σ18 f18 p18 => ?_)
          have hF := hF.tr f18 (by decide) (by decide)
          rw [show (229 + k).toNat = 229 + k.toNat from by omega] at p18 o18
          intro z19 t19 e19 l19 h19
          try have w19 : t19 = 0 := by omega
          show xw _ _ _ _ _ _ _ _ _ _ [xvr 0, xvi k, xvi r14, xvi z19] _ _
          exact ih_20 _ (show (52 - z19).toNat < m20 from by omega) z19 σ18 rfl ⟨hF, AGx_up2 hA2 p18 (by omega), by omega⟩
      exact lp_20 _ 0 s1 rfl ⟨hF, AGx_upid (by have a := hV.2.2.2.2.2.2 k.toNat (by omega); rw [if_neg (by omega)] at a; exact a), by omega⟩
  exact lp_2 _ 0 (xvu) (xvu) σ rfl ⟨hF, hp0, LQ.rf, by omega⟩
set_option maxHeartbeats 4000000 in
set_option maxRecDepth 100000 in
theorem s_keep {σ : xS} {Q : Option xV → xS → Prop} (hp0 : RI σ) (hQ : ∀ σ' : xS, Fr [8] [27] σ σ' → ((0 ≤ σ' 0 27 ∧ σ' 0 27 ≤ 8) ∧ (∀ j : Nat, (j : Int) < σ' 0 27 → VG (blk (σ 2) (σ' 8) j))) → Q none σ') : xT kX11_keep [xvr 0] σ Q := by
  refine ⟨Nat.le_of_ble_eq_true rfl, fun X hX => ?_⟩
  show X 0 [xvr 0, xvu] σ
  have hF : Fr [8] [27] σ σ := Fr.rf
  refine hX 400 0 _ _ ?_
  have lp_46 : ∀ (u1_1 : xV) (s2 : xS), (Fr [8] [27] σ s2 ∧ (0 ≤ s2 0 27 ∧ s2 0 27 ≤ 7) ∧ (∀ j : Nat, (j : Int) < s2 0 27 → VG (blk (σ 2) (s2 8) j))) → X 46 [xvr 0, u1_1] s2 := by
    intro u1_1 s2 hv_46
    obtain ⟨hF, hum2, hB⟩ := hv_46
    have h2 : s2 2 = σ 2 := hF.1 2 (by decide) (by decide)
    refine hX 400 46 _ _ ?_
    refine And.intro (Nat.le_of_ble_eq_true rfl) ?_
    show xw _ _ _ _ _ _ _ _ _ _ [xvr 0, xvi 0] _ _
    have lp_48 : ∀ (m48 : Nat) (i3 : Int) (s3 : xS), ((580 - i3).toNat) = m48 → (Fr [8] [27] σ s3 ∧ s3 0 27 = s2 0 27 ∧ (∀ j : Nat, (j : Int) < i3 → s3 8 ((580 * s2 0 27).toNat + j) = σ 2 (4 + j)) ∧ (∀ j : Nat, (j : Int) < 580 * s2 0 27 → s3 8 j = s2 8 j) ∧ (0 ≤ i3 ∧ i3 ≤ 580)) → X 48 [xvr 0, xvi i3] s3 := by
      intro m48
      induction m48 using Nat.strongRecOn with
      | _ m48 ih_48 =>
      intro i3 s3 hm_48 hv_48
      obtain ⟨hF, hum3, hC, hO, hv_48⟩ := hv_48
      have h2 : s3 2 = σ 2 := hF.1 2 (by decide) (by decide)
      refine hX 400 48 _ _ ?_
      refine And.intro (fun c3 => ?_) (fun c3 => ?_)
      · intro v4 e4 l4 h4
        have e4 : v4 = s3 0 27 := e4
        intro z5 t5 e5 l5 h5
        try have w5 : t5 = 0 := by omega
        have hF := hF.p (j := 27) (v := z5) (by decide)
        refine And.intro rfl (And.intro rfl ?_)
        refine hQ _ hF ⟨(show 0 ≤ z5 ∧ z5 ≤ 8 from by omega), (fun j hj => ?_)⟩
        have hj : (j : Int) < z5 := hj
        show VG (blk (σ 2) (s3 8) j)
        by_cases e : (j : Int) < s2 0 27
        · refine (hB j e).ag8 (fun q h1 h2 => ?_)
          unfold blk
          split
          · rfl
          · exact hO _ (by omega)
        · refine hp0.1.ag8 (fun q h1 h2 => ?_)
          unfold blk
          split
          · rfl
          · have := hC (q - 4) (by omega)
            rw [show (580 * s2 0 27).toNat + (q - 4) = 580 * j + (q - 4) from by omega, show 4 + (q - 4) = q from by omega] at this
            exact this
      · intro v7 e7 l7 h7
        have e7 : v7 = s3 0 27 := e7
        intro z8 t8 e8 l8 h8
        try have w8 : t8 = 0 := by omega
        intro z9 t9 e9 l9 h9
        try have w9 : t9 = 0 := by omega
        intro z10 t10 e10 l10 h10
        try have w10 : t10 = 0 := by omega
        refine And.intro (rfl) (And.intro (⟨by omega, by omega⟩) ?_)
        intro v11 e11 l11 h11
        have e11 : v11 = s3 2 z10.toNat := e11
        refine And.intro (rfl) (And.intro (⟨by omega, by omega⟩) ?_)
        have hF := hF.pt (t := 8) (j := z9.toNat) (v := v11) (by decide) (by decide)
        intro z13 t13 e13 l13 h13
        try have w13 : t13 = 0 := by omega
        show xw _ _ _ _ _ _ _ _ _ _ [xvr 0, xvi z13] _ _
        exact ih_48 _ (show (580 - z13).toNat < m48 from by omega) z13 (xput s3 8 z9.toNat v11) rfl ⟨hF, hum3, (fun q hq => by
                  by_cases e : q = i3.toNat
                  · rw [show (580 * s2 0 27).toNat + q = z9.toNat from by omega, xput_s, e11]; rw [h2, show z10.toNat = 4 + q from by omega]
                  · rw [xput_o (by omega)]; exact hC q (by omega)), (fun q hq => by rw [xput_o (by omega)]; exact hO q (by omega)), by omega⟩
    exact lp_48 _ 0 s2 rfl ⟨hF, rfl, (fun j hj => by omega), (fun j _ => rfl), by omega⟩
  have hu := hp0.um
  intro v14 e14 l14 h14
  have e14 : v14 = σ 0 27 := e14
  refine And.intro (fun c15 => ?_) (fun c15 => ?_)
  · exact lp_46 (xvu) σ ⟨hF, (show 0 ≤ σ 0 27 ∧ σ 0 27 ≤ 7 from by omega), hp0.2.2.2.2.1⟩
  · refine And.intro (Nat.le_of_ble_eq_true rfl) ?_
    show xw _ _ _ _ _ _ _ _ _ _ [xvr 0, xvi 0] _ _
    have lp_11 : ∀ (m11 : Nat) (i : Int) (s1 : xS), ((4060 - i).toNat) = m11 → (Fr [8] [27] σ s1 ∧ s1 0 27 = 8 ∧ (∀ j : Nat, (j : Int) < i → s1 8 j = σ 8 (j + 580)) ∧ (∀ j : Nat, i ≤ (j : Int) → s1 8 j = σ 8 j) ∧ (0 ≤ i ∧ i ≤ 4060)) → X 11 [xvr 0, xvi i] s1 := by
      intro m11
      induction m11 using Nat.strongRecOn with
      | _ m11 ih_11 =>
      intro i s1 hm_11 hv_11
      obtain ⟨hF, hum, hC, hO, hv_11⟩ := hv_11
      refine hX 400 11 _ _ ?_
      refine And.intro (fun c17 => ?_) (fun c17 => ?_)
      · have hF := hF.p (j := 27) (v := 7) (by decide)
        exact lp_46 (xvi i) (xput s1 0 27 7) ⟨hF, (show (0 : Int) ≤ 7 ∧ (7 : Int) ≤ 7 from by omega), (fun j hj => by
                have hj7 : (j : Int) < 7 := hj
                refine (hp0.2.2.2.2.1 (j + 1) (by omega)).ag8 (fun q h1 h2 => ?_)
                unfold blk
                split
                · rfl
                · show s1 8 _ = _
                  rw [hC _ (by omega), show 580 * j + (q - 4) + 580 = 580 * (j + 1) + (q - 4) from by omega])⟩
      · intro z19 t19 e19 l19 h19
        try have w19 : t19 = 0 := by omega
        refine And.intro (rfl) (And.intro (⟨by omega, by omega⟩) ?_)
        intro v20 e20 l20 h20
        have e20 : v20 = s1 8 z19.toNat := e20
        refine And.intro (rfl) (And.intro (⟨by omega, by omega⟩) ?_)
        have hF := hF.pt (t := 8) (j := i.toNat) (v := v20) (by decide) (by decide)
        intro z22 t22 e22 l22 h22
        try have w22 : t22 = 0 := by omega
        show xw _ _ _ _ _ _ _ _ _ _ [xvr 0, xvi z22] _ _
        exact ih_11 _ (show (4060 - z22).toNat < m11 from by omega) z22 (xput s1 8 i.toNat v20) rfl ⟨hF, hum, (fun q hq => by
                  by_cases e : q = i.toNat
                  · rw [show q = i.toNat from by omega, xput_s, e20, hO _ (by omega)]; rw [show z19.toNat = i.toNat + 580 from by omega]
                  · rw [xput_o (by omega)]; exact hC q (by omega)), (fun q hq => by rw [xput_o (by omega)]; exact hO q (by omega)), by omega⟩
    exact lp_11 _ 0 σ rfl ⟨hF, by omega, (fun j hj => by omega), (fun j _ => rfl), by omega⟩
theorem RK.keep {σ0 σ σ' : xS} (h : RK σ0 σ) (hF : Fr [8] [27] σ σ') (p : (0 ≤ σ' 0 27 ∧ σ' 0 27 ≤ 8) ∧ (∀ j : Nat, (j : Int) < σ' 0 27 → VG (blk (σ 2) (σ' 8) j))) : RK σ0 σ' := by
  refine h.tr ⟨?_, hF.2 2 (by decide), hF.1 27 (by decide) (by decide), hF.1 1 (by decide) (by decide), hF.1 6 (by decide) (by decide), hF.1 5 (by decide) (by decide)⟩
  obtain ⟨g1, g2, g3, g4, g5, g6, g7⟩ := h.1
  have e2 : σ' 2 = σ 2 := hF.1 2 (by decide) (by decide)
  have e25 : σ' 25 = σ 25 := hF.1 25 (by decide) (by decide)
  have e27 : σ' 27 = σ 27 := hF.1 27 (by decide) (by decide)
  exact ⟨by rw [e2]; exact g1, by rw [e2]; exact g2, by rw [hF.2 2 (by decide)]; exact g3, p.1, by rw [e2]; exact p.2, by rw [hF.2 37 (by decide)]; exact g6, by rw [e25, e27]; exact g7⟩
set_option maxHeartbeats 4000000 in
set_option maxRecDepth 100000 in
theorem s_undo {σ : xS} {Q : Option xV → xS → Prop} (hp0 : RI σ) (hQ : ∀ r : Int, ∀ σ' : xS, RK σ σ' → Q (some (xvi r)) σ') : xT kX11_undo [xvr 0] σ Q := by
  refine ⟨Nat.le_of_ble_eq_true rfl, fun X hX => ?_⟩
  show X 0 [xvr 0, xvu] σ
  have hF : Fr [2] [0, 27] σ σ := Fr.rf
  refine hX 400 0 _ _ ?_
  have hu := hp0.um
  have hF := hF.p (j := 0) (v := 0) (by decide)
  intro v2 e2 l2 h2
  have e2 : v2 = σ 0 27 := e2
  refine And.intro (fun c3 => ?_) (fun c3 => ?_)
  · intro v4 e4 l4 h4
    have e4 : v4 = σ 0 27 := e4
    intro z5 t5 e5 l5 h5
    try have w5 : t5 = 0 := by omega
    have hF := hF.p (j := 27) (v := z5) (by decide)
    refine And.intro (Nat.le_of_ble_eq_true rfl) ?_
    show xw _ _ _ _ _ _ _ _ _ _ [xvr 0, xvi 0] _ _
    have lp_26 : ∀ (m26 : Nat) (i : Int) (s1 : xS), ((580 - i).toNat) = m26 → (Fr [2] [0, 27] σ s1 ∧ s1 0 27 = σ 0 27 - 1 ∧ (∀ j : Nat, (j : Int) < i → s1 2 (4 + j) = σ 8 ((580 * (σ 0 27 - 1)).toNat + j)) ∧ (∀ j : Nat, (j < 4 ∨ 584 ≤ j) → s1 2 j = σ 2 j) ∧ (0 ≤ i ∧ i ≤ 580)) → X 26 [xvr 0, xvi i] s1 := by
      intro m26
      induction m26 using Nat.strongRecOn with
      | _ m26 ih_26 =>
      intro i s1 hm_26 hv_26
      obtain ⟨hF, hum3, hC, hO, hv_26⟩ := hv_26
      have h8 : s1 8 = σ 8 := hF.1 8 (by decide) (by decide)
      refine hX 400 26 _ _ ?_
      refine And.intro (fun c8 => ?_) (fun c8 => ?_)
      · intro v9 e9 l9 h9
        have e9 : v9 = s1 0 27 := e9
        refine And.intro rfl ?_
        refine hQ _ _ ⟨⟨?_, ?_, ?_, ?_, ?_, ?_, ?_⟩, ?_, ?_⟩
        · refine (hp0.2.2.2.2.1 (σ 0 27 - 1).toNat (by omega)).ag8 (fun q h1 h2 => ?_)
          unfold blk
          split
          · exact hO _ (by omega)
          · have := hC (q - 4) (by omega)
            rw [show 4 + (q - 4) = q from by omega, show (580 * (σ 0 27 - 1)).toNat + (q - 4) = 580 * (σ 0 27 - 1).toNat + (q - 4) from by omega] at this
            exact this
        · exact hp0.2.1.eq (fun i hi => hO i (by omega))
        · rw [hF.2 2 (by decide)]; exact hp0.2.2.1
        · omega
        · intro j hj
          rw [h8]
          exact (hp0.2.2.2.2.1 j (by omega)).ag8 (blk_ag (fun i h1 h2 => hO i (by omega)))
        · rw [hF.2 37 (by decide)]; exact hp0.2.2.2.2.2.1
        · rw [hF.1 25 (by decide) (by decide), hF.1 27 (by decide) (by decide)]; exact hp0.2.2.2.2.2.2
        · exact hF.2 2 (by decide)
        · exact ⟨hF.1 27 (by decide) (by decide), hF.1 1 (by decide) (by decide), hF.1 6 (by decide) (by decide), hF.1 5 (by decide) (by decide)⟩
      · intro z10 t10 e10 l10 h10
        try have w10 : t10 = 0 := by omega
        intro v11 e11 l11 h11
        have e11 : v11 = s1 0 27 := e11
        intro z12 t12 e12 l12 h12
        try have w12 : t12 = 0 := by omega
        intro z13 t13 e13 l13 h13
        try have w13 : t13 = 0 := by omega
        refine And.intro (rfl) (And.intro (⟨by omega, by omega⟩) ?_)
        intro v14 e14 l14 h14
        have e14 : v14 = s1 8 z13.toNat := e14
        refine And.intro (rfl) (And.intro (⟨by omega, by omega⟩) ?_)
        have hF := hF.pt (t := 2) (j := z10.toNat) (v := v14) (by decide) (by decide)
        intro z16 t16 e16 l16 h16
        try have w16 : t16 = 0 := by omega
        show xw _ _ _ _ _ _ _ _ _ _ [xvr 0, xvi z16] _ _
        exact ih_26 _ (show (580 - z16).toNat < m26 from by omega) z16 (xput s1 2 z10.toNat v14) rfl ⟨hF, hum3, (fun q hq => by
                  by_cases e : q = i.toNat
                  · rw [show 4 + q = z10.toNat from by omega, xput_s, e14]; rw [h8, show z13.toNat = (580 * (σ 0 27 - 1)).toNat + q from by omega]
                  · rw [xput_o (by omega)]; exact hC q (by omega)), (fun q hq => by rw [xput_o (by omega)]; exact hO q (by omega)), by omega⟩
    exact lp_26 _ 0 (xput (xput σ 0 0 0) 0 27 z5) rfl ⟨hF, (show z5 = σ 0 27 - 1 from by omega), (fun j hj => by omega), (fun j _ => rfl), by omega⟩
  · refine And.intro rfl ?_
    exact hQ _ _ (RK.rf hp0 |>.p0 (by decide) (by decide) (by decide))
set_option maxHeartbeats 4000000 in
set_option maxRecDepth 100000 in
theorem s_ask {σ : xS} {a b kind lies : Int} {Q : Option xV → xS → Prop} (hI : RI σ) (hQ : ∀ r : Int, ∀ σ' : xS, RK σ σ' → Q (some (xvi r)) σ') : xT kX11_ask [xvr 0, xvi a, xvi b, xvi kind, xvi lies] σ Q := by
  refine ⟨Nat.le_of_ble_eq_true rfl, fun X hX => ?_⟩
  show X 0 [xvr 0, xvi a, xvi b, xvi kind, xvi lies, xvu] σ
  have hI : RK σ σ := RK.rf hI
  have hb0 := hI.1.kinds; have hb1 := hI.1.persons
  refine hX 400 0 _ _ ?_
  have hI := hI.p0 (j := 0) (v := 0) (by decide) (by decide) (by decide)
  refine s_areAsked (σ := (xput σ 0 0 0)) (a := a) (b := b) (kind := kind) hI.1  (fun r2 p2 => ?_)
  have p2 : (r2 = 1 ∧ (0 ≤ a ∧ a < (σ 2 1)) ∧ (0 ≤ b ∧ b < (σ 2 1)) ∧ (0 ≤ kind ∧ kind < (σ 2 0))) ∨ (r2 = 0 ∧ (0 : Int) ≤ 0) := p2
  refine And.intro (fun c3 => ?_) (fun c3 => ?_)
  · replace p2 : (0 : Int) ≤ 0 := by
      rcases p2 with q | q
      · exact absurd q.1 (by omega)
      · exact q.2
    refine hX 400 25 _ _ ?_
    refine And.intro rfl ?_
    exact hQ _ _ hI 
  · replace p2 : (0 ≤ a ∧ a < (σ 2 1)) ∧ (0 ≤ b ∧ b < (σ 2 1)) ∧ (0 ≤ kind ∧ kind < (σ 2 0)) := by
      rcases p2 with q | q
      · exact q.2
      · exact absurd q.1 (by omega)
    refine s_isIn (σ := (xput σ 0 0 0)) (v := lies) (low := 0) (high := 1)  (fun r4 p4 => ?_)
    have p4 : (r4 = 1 ∧ 0 ≤ lies ∧ lies ≤ 1) ∨ (r4 = 0 ∧ (lies < 0 ∨ 1 < lies)) := p4
    refine And.intro (fun c5 => ?_) (fun c5 => ?_)
    · replace p4 : 0 ≤ lies ∧ lies ≤ 1 := by
        rcases p4 with q | q
        · exact q.2
        · exact absurd q.1 (by omega)
      refine s_whyOf (σ := (xput σ 0 0 0)) (a := a) (b := b) (kind := kind) hI.1 (show 0 ≤ a ∧ a < (σ 2 1) from by omega) (show 0 ≤ kind ∧ kind < (σ 2 0) from by omega) (fun r6 p6 => ?_)
      have p6 : (r6 = 0 ∧ (σ 2 4) = a ∧ 1 ≤ σ 2 (60 + 13 * a + kind).toNat ∧ ¬ a = b) ∨ 1 ≤ r6 := p6
      refine And.intro (Nat.le_of_ble_eq_true rfl) ?_
      show xw _ _ _ _ _ _ _ _ _ _ [xvr 0, xvi a, xvi b, xvi kind, xvi lies, xvi r6] _ _
      refine And.intro (fun c7 => ?_) (fun c7 => ?_)
      · have hI0 := hI.1
        refine s_keep (σ := (xput σ 0 0 0)) hI.1 (fun σ8 f8 p8 => ?_)
        have k2_8 : σ8 2 = σ 2 := f8.1 2 (by decide) (by decide)
        have hI := hI.keep f8 p8
        have hb0 : 0 ≤ (σ8 2 0) ∧ (σ8 2 0) ≤ 13 := hI.1.kinds; have hb1 : 0 ≤ (σ8 2 1) ∧ (σ8 2 1) ≤ 6 := hI.1.persons
        have hvn := hI.1.vain; have htn := hI.1.turn; rw [k2_8] at hvn htn
        refine s_asks (σ := σ8) (a := a) (b := b) (kind := kind) (lies := lies) (told := 1) (VG_iff.mp hI.1.1).1 (by rw [k2_8]; omega) (by rw [k2_8]; omega) (by rw [k2_8]; omega) (by omega) (by rw [k2_8]; omega) (by rw [k2_8]; omega) (fun r9 σ9 f9 p9 => ?_)
        have hI := hI.g f9 p9.1 p9.2 (by decide) (by decide) (by decide) (by decide) (by decide) (by decide)
        refine And.intro rfl ?_
        exact hQ _ _ hI 
      · intro z10 t10 e10 l10 h10
        try have w10 : t10 = 0 := by omega
        refine And.intro rfl ?_
        exact hQ _ _ hI 
    · replace p4 : (lies < 0 ∨ 1 < lies) := by
        rcases p4 with q | q
        · exact absurd q.1 (by omega)
        · exact q.2
      refine hX 400 25 _ _ ?_
      refine And.intro rfl ?_
      exact hQ _ _ hI 
