/-! The kept games of the reference: block j stands from 580 j on. -/
def bkj (u : Nat → Int) (j : Nat) : Nat → Int := fun i => u (580 * j + i)
/-- one is kept: the eldest of eight goes -/
def KPT (m m' : Int) (u u' s : Nat → Int) : Prop := (m < 8 ∧ m' = m + 1 ∧ (∀ q : Nat, (q : Int) < 580 * m → u' q = u q) ∧ ∀ q : Nat, q < 580 → u' (580 * m.toNat + q) = s (4 + q)) ∨ (m = 8 ∧ m' = 8 ∧ (∀ q : Nat, q < 4060 → u' q = u (q + 580)) ∧ ∀ q : Nat, q < 580 → u' (4060 + q) = s (4 + q))
set_option maxHeartbeats 4000000 in
set_option maxRecDepth 100000 in
theorem s_keepF {σ : xS} {Q : Option xV → xS → Prop} (hp0 : 0 ≤ σ 0 27 ∧ σ 0 27 ≤ 8) (hQ : ∀ σ' : xS, Fr [8] [27] σ σ' → (KPT (σ 0 27) (σ' 0 27) (σ 8) (σ' 8) (σ 2)) → Q none σ') : xT kX11_keep [xvr 0] σ Q := by
  refine ⟨Nat.le_of_ble_eq_true rfl, fun X hX => ?_⟩
  show X 0 [xvr 0, xvu] σ
  have hF : Fr [8] [27] σ σ := Fr.rf
  refine hX 400 0 _ _ ?_
  intro v1 e1 l1 h1
  have e1 : v1 = σ 0 27 := e1
  have lp_46 : ∀ (u2_1 : xV) (s2 : xS), (Fr [8] [27] σ s2 ∧ ((σ 0 27 < 8 ∧ s2 0 27 = σ 0 27 ∧ s2 8 = σ 8) ∨ (σ 0 27 = 8 ∧ s2 0 27 = 7 ∧ ∀ q : Nat, q < 4060 → s2 8 q = σ 8 (q + 580)))) → X 46 [xvr 0, u2_1] s2 := by
    intro u2_1 s2 hv_46
    obtain ⟨hF, hK⟩ := hv_46
    have hu : 0 ≤ s2 0 27 ∧ s2 0 27 ≤ 7 := by
      rcases hK with ⟨a, b, _⟩ | ⟨a, b, _⟩ <;> omega
    refine hX 400 46 _ _ ?_
    refine And.intro (Nat.le_of_ble_eq_true rfl) ?_
    show xw _ _ _ _ _ _ _ _ _ _ [xvr 0, xvi 0] _ _
    have lp_48 : ∀ (m48 : Nat) (i2 : Int) (s3 : xS), ((580 - i2).toNat) = m48 → (Fr [8] [27] σ s3 ∧ s3 0 27 = s2 0 27 ∧ (∀ q : Nat, (q : Int) < i2 → s3 8 (580 * (s2 0 27).toNat + q) = σ 2 (4 + q)) ∧ (∀ q : Nat, (q : Int) < 580 * s2 0 27 → s3 8 q = s2 8 q) ∧ (0 ≤ i2 ∧ i2 ≤ 580)) → X 48 [xvr 0, xvi i2] s3 := by
      intro m48
      induction m48 using Nat.strongRecOn with
      | _ m48 ih_48 =>
      intro i2 s3 hm_48 hv_48
      obtain ⟨hF, h27b, hC, hO, hv_48⟩ := hv_48
      have h32 : s3 2 = σ 2 := hF.1 2 (by decide) (by decide)
      refine hX 400 48 _ _ ?_
      refine And.intro (fun c4 => ?_) (fun c4 => ?_)
      · intro v5 e5 l5 h5
        have e5 : v5 = s3 0 27 := e5
        intro z6 t6 e6 l6 h6
        try have w6 : t6 = 0 := by omega
        have hF := hF.p (j := 27) (v := z6) (by decide)
        refine And.intro rfl (And.intro rfl ?_)
        exact hQ _ hF (by
          show KPT (σ 0 27) z6 (σ 8) (s3 8) (σ 2)
          rcases hK with ⟨a, b, c⟩ | ⟨a, b, c⟩
          · exact Or.inl ⟨a, by omega, (fun q hq => by rw [hO q (by omega), c]), fun q hq => by rw [← b]; exact hC q (by omega)⟩
          · refine Or.inr ⟨a, by omega, (fun q hq => by rw [hO q (by omega)]; exact c q hq), fun q hq => ?_⟩
            have z := hC q (by omega)
            rw [b] at z
            exact z)
      · intro v8 e8 l8 h8
        have e8 : v8 = s3 0 27 := e8
        intro z9 t9 e9 l9 h9
        try have w9 : t9 = 0 := by omega
        intro z10 t10 e10 l10 h10
        try have w10 : t10 = 0 := by omega
        intro z11 t11 e11 l11 h11
        try have w11 : t11 = 0 := by omega
        refine And.intro (rfl) (And.intro (⟨by omega, by omega⟩) ?_)
        intro v12 e12 l12 h12
        have e12 : v12 = s3 2 z11.toNat := e12
        have g12 : v12 = σ 2 (4 + i2.toNat) := by rw [e12, h32, show z11.toNat = 4 + i2.toNat from by omega]
        refine And.intro (rfl) (And.intro (⟨by omega, by omega⟩) ?_)
        have hF := hF.pt (t := 8) (j := z10.toNat) (v := v12) (by decide) (by decide)
        intro z14 t14 e14 l14 h14
        try have w14 : t14 = 0 := by omega
        show xw _ _ _ _ _ _ _ _ _ _ [xvr 0, xvi z14] _ _
        exact ih_48 _ (show (580 - z14).toNat < m48 from by omega) z14 (xput s3 8 z10.toNat v12) rfl ⟨hF, h27b, (fun q hq => by
                  by_cases e : q = i2.toNat
                  · rw [show 580 * (s2 0 27).toNat + q = z10.toNat from by omega, xput_s, g12, e]
                  · rw [xput_o (by omega)]; exact hC q (by omega)), (fun q hq => by rw [xput_o (by omega)]; exact hO q hq), by omega⟩
    exact lp_48 _ 0 s2 rfl ⟨hF, rfl, (fun q hq => by omega), (fun _ _ => rfl), by omega⟩
  refine And.intro (fun c15 => ?_) (fun c15 => ?_)
  · exact lp_46 (xvu) σ ⟨hF, Or.inl ⟨by omega, rfl, rfl⟩⟩
  · refine And.intro (Nat.le_of_ble_eq_true rfl) ?_
    show xw _ _ _ _ _ _ _ _ _ _ [xvr 0, xvi 0] _ _
    have lp_11 : ∀ (m11 : Nat) (i : Int) (s1 : xS), ((4060 - i).toNat) = m11 → (Fr [8] [27] σ s1 ∧ s1 0 27 = σ 0 27 ∧ (∀ q : Nat, (q : Int) < i → s1 8 q = σ 8 (q + 580)) ∧ (∀ q : Nat, i ≤ q → s1 8 q = σ 8 q) ∧ (0 ≤ i ∧ i ≤ 4060)) → X 11 [xvr 0, xvi i] s1 := by
      intro m11
      induction m11 using Nat.strongRecOn with
      | _ m11 ih_11 =>
      intro i s1 hm_11 hv_11
      obtain ⟨hF, h27, hlo, hhi, hv_11⟩ := hv_11
      refine hX 400 11 _ _ ?_
      refine And.intro (fun c17 => ?_) (fun c17 => ?_)
      · have hF := hF.p (j := 27) (v := 7) (by decide)
        exact lp_46 (xvi i) (xput s1 0 27 7) ⟨hF, Or.inr ⟨by omega, rfl, fun q hq => hlo q (by omega)⟩⟩
      · intro z19 t19 e19 l19 h19
        try have w19 : t19 = 0 := by omega
        refine And.intro (rfl) (And.intro (⟨by omega, by omega⟩) ?_)
        intro v20 e20 l20 h20
        have e20 : v20 = s1 8 z19.toNat := e20
        have g20 : v20 = σ 8 (i.toNat + 580) := by rw [e20, show z19.toNat = i.toNat + 580 from by omega]; exact hhi _ (by omega)
        refine And.intro (rfl) (And.intro (⟨by omega, by omega⟩) ?_)
        have hF := hF.pt (t := 8) (j := i.toNat) (v := v20) (by decide) (by decide)
        intro z22 t22 e22 l22 h22
        try have w22 : t22 = 0 := by omega
        show xw _ _ _ _ _ _ _ _ _ _ [xvr 0, xvi z22] _ _
        exact ih_11 _ (show (4060 - z22).toNat < m11 from by omega) z22 (xput s1 8 i.toNat v20) rfl ⟨hF, h27, (fun q hq => by
                  by_cases e : q = i.toNat
                  · rw [show q = i.toNat from by omega, xput_s, g20, show i.toNat = i.toNat from by omega]
                  · rw [xput_o (by omega)]; exact hlo q (by omega)), (fun q hq => by rw [xput_o (by omega)]; exact hhi q (by omega)), by omega⟩
    exact lp_11 _ 0 σ rfl ⟨hF, rfl, (fun q hq => by omega), (fun _ _ => rfl), by omega⟩
set_option maxHeartbeats 4000000 in
set_option maxRecDepth 100000 in
theorem s_undoF {σ : xS} {Q : Option xV → xS → Prop} (hp0 : 0 ≤ σ 0 27 ∧ σ 0 27 ≤ 8) (hQ : ∀ r : Int, ∀ σ' : xS, Fr [2] [0, 27] σ σ' → ((σ 0 27 = 0 ∧ r = -1 ∧ σ' 0 27 = σ 0 27 ∧ σ' 2 = σ 2) ∨ (¬ σ 0 27 = 0 ∧ r = σ 0 27 - 1 ∧ σ' 0 27 = σ 0 27 - 1 ∧ (∀ q : Nat, q < 4 ∨ 584 ≤ q → σ' 2 q = σ 2 q) ∧ ∀ q : Nat, q < 580 → σ' 2 (4 + q) = bkj (σ 8) (σ 0 27 - 1).toNat q)) → Q (some (xvi r)) σ') : xT kX11_undo [xvr 0] σ Q := by
  refine ⟨Nat.le_of_ble_eq_true rfl, fun X hX => ?_⟩
  show X 0 [xvr 0, xvu] σ
  have hF : Fr [2] [0, 27] σ σ := Fr.rf
  refine hX 400 0 _ _ ?_
  have hF := hF.p (j := 0) (v := 0) (by decide)
  intro v2 e2 l2 h2
  have e2 : v2 = σ 0 27 := e2
  refine And.intro (fun c3 => ?_) (fun c3 => ?_)
  · intro v4 e4 l4 h4
    have e4 : v4 = σ 0 27 := e4
    intro z5 t5 e5 l5 h5
    try have w5 : t5 = 0 := by omega
    have hF := hF.p (j := 27) (v := z5) (by decide)
    refine And.intro (Nat.le_of_ble_eq_true rfl) ?_
    show xw _ _ _ _ _ _ _ _ _ _ [xvr 0, xvi 0] _ _
    have lp_26 : ∀ (m26 : Nat) (i : Int) (s1 : xS), ((580 - i).toNat) = m26 → (Fr [2] [0, 27] σ s1 ∧ s1 0 27 = σ 0 27 - 1 ∧ (∀ q : Nat, (q : Int) < i → s1 2 (4 + q) = bkj (σ 8) (σ 0 27 - 1).toNat q) ∧ (∀ q : Nat, q < 4 ∨ 584 ≤ q → s1 2 q = σ 2 q) ∧ (0 ≤ i ∧ i ≤ 580)) → X 26 [xvr 0, xvi i] s1 := by
      intro m26
      induction m26 using Nat.strongRecOn with
      | _ m26 ih_26 =>
      intro i s1 hm_26 hv_26
      obtain ⟨hF, hum, hC, hO, hv_26⟩ := hv_26
      have h8 : s1 8 = σ 8 := hF.1 8 (by decide) (by decide)
      refine hX 400 26 _ _ ?_
      refine And.intro (fun c8 => ?_) (fun c8 => ?_)
      · intro v9 e9 l9 h9
        have e9 : v9 = s1 0 27 := e9
        refine And.intro rfl ?_
        exact hQ _ _ hF (Or.inr ⟨by omega, (by omega), (by omega), hO, (fun q hq => hC q (by omega))⟩)
      · intro z10 t10 e10 l10 h10
        try have w10 : t10 = 0 := by omega
        intro v11 e11 l11 h11
        have e11 : v11 = s1 0 27 := e11
        intro z12 t12 e12 l12 h12
        try have w12 : t12 = 0 := by omega
        intro z13 t13 e13 l13 h13
        try have w13 : t13 = 0 := by omega
        refine And.intro (rfl) (And.intro (⟨by omega, by omega⟩) ?_)
        intro v14 e14 l14 h14
        have e14 : v14 = s1 8 z13.toNat := e14
        have g14 : v14 = bkj (σ 8) (σ 0 27 - 1).toNat i.toNat := by rw [e14, h8, show z13.toNat = 580 * (σ 0 27 - 1).toNat + i.toNat from by omega]; rfl
        refine And.intro (rfl) (And.intro (⟨by omega, by omega⟩) ?_)
        have hF := hF.pt (t := 2) (j := z10.toNat) (v := v14) (by decide) (by decide)
        intro z16 t16 e16 l16 h16
        try have w16 : t16 = 0 := by omega
        show xw _ _ _ _ _ _ _ _ _ _ [xvr 0, xvi z16] _ _
        exact ih_26 _ (show (580 - z16).toNat < m26 from by omega) z16 (xput s1 2 z10.toNat v14) rfl ⟨hF, hum, (fun q hq => by
                  by_cases e : q = i.toNat
                  · rw [show 4 + q = z10.toNat from by omega, xput_s, g14, e]
                  · rw [xput_o (by omega)]; exact hC q (by omega)), (fun q hq => by rw [xput_o (by omega)]; exact hO q (by omega)), by omega⟩
    exact lp_26 _ 0 (xput (xput σ 0 0 0) 0 27 z5) rfl ⟨hF, (show z5 = σ 0 27 - 1 from by omega), (fun q hq => by omega), (fun _ _ => rfl), by omega⟩
  · refine And.intro rfl ?_
    exact hQ _ _ hF (Or.inl ⟨by omega, rfl, (by show σ 0 27 = σ 0 27; rfl), rfl⟩)

