set_option maxHeartbeats 4000000 in
set_option maxRecDepth 100000 in
theorem s_gainsF {σ : xS} {k : Int} {Q : Option xV → xS → Prop} (hp0 : RI σ) (hp1 : TV (σ 2)) (hQ : ∀ r : Int, ∀ σ' : xS, Fr [] [0] σ σ' → (ansN (0 ≤ k ∧ k < σ 2 1) r (gnF (σ 2) k.toNat)) → Q (some (xvi r)) σ') : xT kX11_gains [xvr 0, xvi k] σ Q := by
  refine ⟨Nat.le_of_ble_eq_true rfl, fun X hX => ?_⟩
  show X 0 [xvr 0, xvi k, xvu, xvu] σ
  have hF : Fr [] [0] σ σ := Fr.rf
  refine hX 400 0 _ _ ?_
  have hF := hF.p (j := 0) (v := 0) (by decide)
  have hI := (RK.rf hp0 |>.p0 (j := 0) (v := 0) (by decide) (by decide) (by decide)).1
  obtain ⟨hVx, hT2, hT6, hT4⟩ := id hp1
  have m0 := hVx.1.1.1
  have m1 := hVx.1.1.2.1
  have m7 := hVx.1.1.2.2.2
  have hV9 := hVx.1
  refine s_isPerson (σ := (xput σ 0 0 0)) (k := k) hI (fun r2 p2 => ?_)
  have p2 : (r2 = 1 ∧ 0 ≤ k ∧ k < σ 2 1) ∨ (r2 = 0 ∧ (k < 0 ∨ σ 2 1 ≤ k)) := p2
  refine And.intro (fun c3 => ?_) (fun c3 => ?_)
  · refine s_booksOfF (σ := (xput σ 0 0 0)) (k := k) (by omega) (fun r4 p4 => ?_)
    have p4 : r4 = bksF (σ 2) k := p4
    have hbr := bkq_r (f := σ 2) (k := k) 13
    have hbe : bksF (σ 2) k = bkq (σ 2) k 13 := rfl
    refine And.intro (Nat.le_of_ble_eq_true rfl) ?_
    show xw _ _ _ _ _ _ _ _ _ _ [xvr 0, xvi k, xvi r4, xvu] _ _
    refine And.intro (Nat.le_of_ble_eq_true rfl) ?_
    show xw _ _ _ _ _ _ _ _ _ _ [xvr 0, xvi k, xvi r4, xvi 0] _ _
    have lp_23 : ∀ (m23 : Nat) (n : Int) (i : Int), ((13 - i).toNat) = m23 → ((0 ≤ i ∧ i ≤ 13) ∧ n = bksF (σ 2) k + gnN (σ 2) k.toNat i.toNat) → X 23 [xvr 0, xvi k, xvi n, xvi i] (xput σ 0 0 0) := by
      intro m23
      induction m23 using Nat.strongRecOn with
      | _ m23 ih_23 =>
      intro n i hm_23 hv_23
      obtain ⟨hv_23, hn⟩ := hv_23
      have hgr := gnN_r (f := σ 2) (k := k.toNat) i.toNat
      refine hX 400 23 _ _ ?_
      refine And.intro (fun c6 => ?_) (fun c6 => ?_)
      · refine And.intro rfl ?_
        exact hQ _ _ hF (Or.inl ⟨by omega, by rw [hn, show i.toNat = 13 from by omega]; unfold gnF; rw [show ((k.toNat : Nat) : Int) = k from by omega]⟩)
      · refine s_hand0v (σ := (xput σ 0 0 0)) (k := k) (kind := i) hV9 (by omega) (by omega) (fun r7 p7 => ?_)
        have p7 : r7 = σ 2 (60 + 13 * k + i).toNat := p7
        rw [show (60 + 13 * k + i).toNat = 60 + 13 * k.toNat + i.toNat from by omega] at p7
        have p7 : r7 = HH (σ 2) k.toNat i.toNat := p7
        have hw7 := (HH_v hV9 (p := k.toNat) (k := i.toNat) (by omega) (by omega)).1
        refine And.intro (fun c8 => ?_) (fun c8 => ?_)
        · intro z9 t9 e9 l9 h9
          try have w9 : t9 = 0 := by omega
          refine And.intro (Nat.le_of_ble_eq_true rfl) ?_
          show xw _ _ _ _ _ _ _ _ _ _ [xvr 0, xvi k, xvi z9, xvi i] _ _
          intro z10 t10 e10 l10 h10
          try have w10 : t10 = 0 := by omega
          show xw _ _ _ _ _ _ _ _ _ _ [xvr 0, xvi k, xvi z9, xvi z10] _ _
          exact ih_23 _ (show (13 - z10).toNat < m23 from by omega) z9 z10 rfl ⟨by omega, by
                rw [show z10.toNat = i.toNat + 1 from by omega]
                show z9 = bksF (σ 2) k + (gnN (σ 2) k.toNat i.toNat + (if 0 < HH (σ 2) k.toNat i.toNat ∧ inhF (σ 2) i.toNat = 4 then 1 else 0))
                first | (rw [if_pos ⟨by omega, by omega⟩]; omega) | (rw [if_neg (by omega)]; omega)⟩
        · refine s_inHandsF (σ := (xput σ 0 0 0)) (kind := i) hV9 (by omega) (fun r11 p11 => ?_)
          have p11 : r11 = inhF (σ 2) i.toNat := p11
          refine And.intro (fun c12 => ?_) (fun c12 => ?_)
          · intro z13 t13 e13 l13 h13
            try have w13 : t13 = 0 := by omega
            refine And.intro (Nat.le_of_ble_eq_true rfl) ?_
            show xw _ _ _ _ _ _ _ _ _ _ [xvr 0, xvi k, xvi z13, xvi i] _ _
            intro z14 t14 e14 l14 h14
            try have w14 : t14 = 0 := by omega
            show xw _ _ _ _ _ _ _ _ _ _ [xvr 0, xvi k, xvi z13, xvi z14] _ _
            exact ih_23 _ (show (13 - z14).toNat < m23 from by omega) z13 z14 rfl ⟨by omega, by
                  rw [show z14.toNat = i.toNat + 1 from by omega]
                  show z13 = bksF (σ 2) k + (gnN (σ 2) k.toNat i.toNat + (if 0 < HH (σ 2) k.toNat i.toNat ∧ inhF (σ 2) i.toNat = 4 then 1 else 0))
                  first | (rw [if_pos ⟨by omega, by omega⟩]; omega) | (rw [if_neg (by omega)]; omega)⟩
          · intro z15 t15 e15 l15 h15
            try have w15 : t15 = 0 := by omega
            refine And.intro (Nat.le_of_ble_eq_true rfl) ?_
            show xw _ _ _ _ _ _ _ _ _ _ [xvr 0, xvi k, xvi z15, xvi i] _ _
            intro z16 t16 e16 l16 h16
            try have w16 : t16 = 0 := by omega
            show xw _ _ _ _ _ _ _ _ _ _ [xvr 0, xvi k, xvi z15, xvi z16] _ _
            exact ih_23 _ (show (13 - z16).toNat < m23 from by omega) z15 z16 rfl ⟨by omega, by
                  rw [show z16.toNat = i.toNat + 1 from by omega]
                  show z15 = bksF (σ 2) k + (gnN (σ 2) k.toNat i.toNat + (if 0 < HH (σ 2) k.toNat i.toNat ∧ inhF (σ 2) i.toNat = 4 then 1 else 0))
                  first | (rw [if_pos ⟨by omega, by omega⟩]; omega) | (rw [if_neg (by omega)]; omega)⟩
    exact lp_23 _ r4 0 rfl ⟨by omega, (by show r4 = bksF (σ 2) k + 0; omega)⟩
  · refine And.intro rfl ?_
    exact hQ _ _ hF (Or.inr ⟨fun z => by omega, rfl⟩)
set_option maxHeartbeats 4000000 in
set_option maxRecDepth 100000 in
theorem s_personF {σ : xS} {k what : Int} {Q : Option xV → xS → Prop} (hp0 : RI σ) (hp1 : TV (σ 2)) (hQ : ∀ r : Int, ∀ σ' : xS, Fr [] [0] σ σ' → (ansN (0 ≤ k ∧ k < σ 2 1) r (prsF (σ 2) k.toNat what)) → Q (some (xvi r)) σ') : xT kX11_person [xvr 0, xvi k, xvi what] σ Q := by
  refine ⟨Nat.le_of_ble_eq_true rfl, fun X hX => ?_⟩
  show X 0 [xvr 0, xvi k, xvi what, xvu, xvu] σ
  have hF : Fr [] [0] σ σ := Fr.rf
  refine hX 400 0 _ _ ?_
  have hF := hF.p (j := 0) (v := 0) (by decide)
  have hI := (RK.rf hp0 |>.p0 (j := 0) (v := 0) (by decide) (by decide) (by decide)).1
  obtain ⟨hVx, hT2, hT6, hT4⟩ := id hp1
  have m0 := hVx.1.1.1
  have m1 := hVx.1.1.2.1
  have m7 := hVx.1.1.2.2.2
  have hV9 := hVx.1
  have vd := hVx.1.2.2.2.2.2 k.toNat
  refine s_isPerson (σ := (xput σ 0 0 0)) (k := k) hI (fun r2 p2 => ?_)
  have p2 : (r2 = 1 ∧ 0 ≤ k ∧ k < σ 2 1) ∨ (r2 = 0 ∧ (k < 0 ∨ σ 2 1 ≤ k)) := p2
  refine And.intro (fun c3 => ?_) (fun c3 => ?_)
  · refine And.intro (Nat.le_of_ble_eq_true rfl) ?_
    show xw _ _ _ _ _ _ _ _ _ _ [xvr 0, xvi k, xvi what, xvi 0, xvu] _ _
    refine And.intro (Nat.le_of_ble_eq_true rfl) ?_
    show xw _ _ _ _ _ _ _ _ _ _ [xvr 0, xvi k, xvi what, xvi 0, xvi 0] _ _
    have lp_20 : ∀ (m20 : Nat) (n : Int) (i : Int), ((13 - i).toNat) = m20 → ((0 ≤ i ∧ i ≤ 13) ∧ n = kbF (σ 2) k.toNat i.toNat) → X 20 [xvr 0, xvi k, xvi what, xvi n, xvi i] (xput σ 0 0 0) := by
      intro m20
      induction m20 using Nat.strongRecOn with
      | _ m20 ih_20 =>
      intro n i hm_20 hv_20
      obtain ⟨hv_20, hn⟩ := hv_20
      refine hX 400 20 _ _ ?_
      refine And.intro (fun c5 => ?_) (fun c5 => ?_)
      · refine And.intro (fun c6 => ?_) (And.intro rfl ?_)
        · refine And.intro rfl ?_
          exact hQ _ _ hF (Or.inl ⟨by omega, by unfold prsF; rw [if_neg (by omega), if_neg (by omega), if_neg (by omega), if_neg (by omega), if_neg (by omega), if_neg (by omega), if_neg (by omega), if_neg (by omega)]⟩)
        refine And.intro (fun c6 => ?_) ?_
        · refine s_cards (σ := (xput σ 0 0 0)) (k := k) hVx.1 (by omega) (fun r7 p7 => ?_)
          have p7 : r7 = cd (σ 2) k.toNat ∧ 0 ≤ r7 ∧ r7 ≤ 52 := p7
          refine And.intro rfl ?_
          exact hQ _ _ hF (Or.inl ⟨by omega, by unfold prsF; rw [if_pos (by omega)]; omega⟩)
        refine And.intro (fun c6 => ?_) ?_
        · refine s_booksOfF (σ := (xput σ 0 0 0)) (k := k) (by omega) (fun r8 p8 => ?_)
          have p8 : r8 = bksF (σ 2) k := p8
          have hbr := bkq_r (f := σ 2) (k := k) 13
          have hbe : bksF (σ 2) k = bkq (σ 2) k 13 := rfl
          refine And.intro rfl ?_
          exact hQ _ _ hF (Or.inl ⟨by omega, by unfold prsF; rw [if_neg (by omega), if_pos (by omega), show ((k.toNat : Nat) : Int) = k from by omega]; omega⟩)
        refine And.intro (fun c6 => ?_) ?_
        · refine And.intro rfl ?_
          exact hQ _ _ hF (Or.inl ⟨by omega, by unfold prsF; rw [if_neg (by omega), if_neg (by omega), if_pos (by omega)]; rw [hn, show i.toNat = 13 from by omega]⟩)
        refine And.intro (fun c6 => ?_) ?_
        · intro z9 t9 e9 l9 h9
          try have w9 : t9 = 0 := by omega
          refine And.intro (rfl) (And.intro (⟨by omega, by omega⟩) ?_)
          intro v10 e10 l10 h10
          have e10 : v10 = σ 2 z9.toNat := e10
          rw [show z9.toNat = 229 + k.toNat from by omega] at e10
          refine And.intro rfl ?_
          exact hQ _ _ hF (Or.inl ⟨by omega, by unfold prsF; rw [if_neg (by omega), if_neg (by omega), if_neg (by omega), if_pos (by omega)]; omega⟩)
        refine And.intro (fun c6 => ?_) ?_
        · intro z11 t11 e11 l11 h11
          try have w11 : t11 = 0 := by omega
          refine And.intro (rfl) (And.intro (⟨by omega, by omega⟩) ?_)
          intro v12 e12 l12 h12
          have e12 : v12 = σ 2 z11.toNat := e12
          rw [show z11.toNat = 547 + k.toNat from by omega] at e12
          refine And.intro rfl ?_
          exact hQ _ _ hF (Or.inl ⟨by omega, by unfold prsF; rw [if_neg (by omega), if_neg (by omega), if_neg (by omega), if_neg (by omega), if_pos (by omega)]; omega⟩)
        refine And.intro (fun c6 => ?_) ?_
        · intro z13 t13 e13 l13 h13
          try have w13 : t13 = 0 := by omega
          refine And.intro (rfl) (And.intro (⟨by omega, by omega⟩) ?_)
          intro v14 e14 l14 h14
          have e14 : v14 = σ 2 z13.toNat := e14
          rw [show z13.toNat = 553 + k.toNat from by omega] at e14
          refine And.intro rfl ?_
          exact hQ _ _ hF (Or.inl ⟨by omega, by unfold prsF; rw [if_neg (by omega), if_neg (by omega), if_neg (by omega), if_neg (by omega), if_neg (by omega), if_pos (by omega)]; omega⟩)
        refine And.intro (fun c6 => ?_) ?_
        · intro z15 t15 e15 l15 h15
          try have w15 : t15 = 0 := by omega
          refine And.intro (rfl) (And.intro (⟨by omega, by omega⟩) ?_)
          intro v16 e16 l16 h16
          have e16 : v16 = σ 2 z15.toNat := e16
          rw [show z15.toNat = 559 + k.toNat from by omega] at e16
          refine And.intro rfl ?_
          exact hQ _ _ hF (Or.inl ⟨by omega, by unfold prsF; rw [if_neg (by omega), if_neg (by omega), if_neg (by omega), if_neg (by omega), if_neg (by omega), if_neg (by omega), if_pos (by omega)]; omega⟩)
        refine And.intro (fun c6 => ?_) ?_
        · intro z17 t17 e17 l17 h17
          try have w17 : t17 = 0 := by omega
          refine And.intro (rfl) (And.intro (⟨by omega, by omega⟩) ?_)
          intro v18 e18 l18 h18
          have e18 : v18 = σ 2 z17.toNat := e18
          rw [show z17.toNat = 565 + k.toNat from by omega] at e18
          have vd9 := vd (by omega)
          intro z19 t19 e19 l19 h19
          try have w19 : t19 = 0 := by omega
          refine And.intro rfl ?_
          exact hQ _ _ hF (Or.inl ⟨by omega, by unfold prsF; rw [if_neg (by omega), if_neg (by omega), if_neg (by omega), if_neg (by omega), if_neg (by omega), if_neg (by omega), if_neg (by omega), if_pos (by omega)]; omega⟩)
        exact trivial
      · refine s_hand0v (σ := (xput σ 0 0 0)) (k := k) (kind := i) hV9 (by omega) (by omega) (fun r20 p20 => ?_)
        have p20 : r20 = σ 2 (60 + 13 * k + i).toNat := p20
        rw [show (60 + 13 * k + i).toNat = 60 + 13 * k.toNat + i.toNat from by omega] at p20
        have p20 : r20 = HH (σ 2) k.toNat i.toNat := p20
        have hw20 := (HH_v hV9 (p := k.toNat) (k := i.toNat) (by omega) (by omega)).1
        refine And.intro (fun c21 => ?_) (fun c21 => ?_)
        · -- none
          intro z22 e22 l22 h22
          refine And.intro (Nat.le_of_ble_eq_true rfl) ?_
          show xw _ _ _ _ _ _ _ _ _ _ [xvr 0, xvi k, xvi what, xvi z22, xvi i] _ _
          intro z23 t23 e23 l23 h23
          try have w23 : t23 = 0 := by omega
          show xw _ _ _ _ _ _ _ _ _ _ [xvr 0, xvi k, xvi what, xvi z22, xvi z23] _ _
          exact ih_20 _ (show (13 - z23).toNat < m20 from by omega) z22 z23 rfl ⟨by omega, by
                rw [show z23.toNat = i.toNat + 1 from by omega]
                show z22 = (if 0 < HH (σ 2) k.toNat i.toNat then orF (kbF (σ 2) k.toNat i.toNat) ((i.toNat : Nat) : Int) else kbF (σ 2) k.toNat i.toNat)
                have hkr := kbF_r (f := σ 2) (p := k.toNat) i.toNat (by omega)
                rw [if_neg (by omega), ← hn]
                exact xor0 (by omega) e22⟩
        · intro z24 e24 l24 h24
          -- shl
          intro z25 e25 l25 h25
          refine And.intro (Nat.le_of_ble_eq_true rfl) ?_
          show xw _ _ _ _ _ _ _ _ _ _ [xvr 0, xvi k, xvi what, xvi z25, xvi i] _ _
          intro z26 t26 e26 l26 h26
          try have w26 : t26 = 0 := by omega
          show xw _ _ _ _ _ _ _ _ _ _ [xvr 0, xvi k, xvi what, xvi z25, xvi z26] _ _
          exact ih_20 _ (show (13 - z26).toNat < m20 from by omega) z25 z26 rfl ⟨by omega, by
                rw [show z26.toNat = i.toNat + 1 from by omega]
                show z25 = (if 0 < HH (σ 2) k.toNat i.toNat then orF (kbF (σ 2) k.toNat i.toNat) ((i.toNat : Nat) : Int) else kbF (σ 2) k.toNat i.toNat)
                have hkr := kbF_r (f := σ 2) (p := k.toNat) i.toNat (by omega)
                rw [if_pos (by omega), show ((i.toNat : Nat) : Int) = i from by omega, ← hn]
                exact xorb (by omega) (by omega) e24 e25⟩
    exact lp_20 _ 0 0 rfl ⟨by omega, rfl⟩
  · refine And.intro rfl ?_
    exact hQ _ _ hF (Or.inr ⟨fun z => by omega, rfl⟩)
