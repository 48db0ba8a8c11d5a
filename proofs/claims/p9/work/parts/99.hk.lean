/-! How many of a person's others can be of a kind: by the row of all and by the person's own. -/
def cntN (h : Nat → Int) (p kind : Int) : Nat → Int
  | 0 => 0
  | i + 1 => cntN h p kind i + (if ow (h i) = p ∧ bF (h i) kind = 0 then 1 else 0)
theorem OTR.cnt {h f : Nat → Int} {n : Int} {p : Nat} {kind : Int} (H : OTR h n f) (hp : p < 6) (hk : 0 ≤ kind ∧ kind ≤ 12) : ∀ i : Nat, (i : Int) ≤ n → cntN h p kind i = canN f p kind (rk h p i).toNat
  | 0, _ => rfl
  | i + 1, hi => by
    have ih := OTR.cnt H hp hk i (by omega)
    have r0 := (rk_nn (h := h) (p := p) i).1
    show cntN h p kind i + (if ow (h i) = p ∧ bF (h i) kind = 0 then 1 else 0) = _
    rw [rk_s]
    by_cases c : ow (h i) = p
    · obtain ⟨q, hq, a, b⟩ := H.2.2 i (by omega)
      have e : q = p := by omega
      subst e
      rw [if_pos c, show (rk h q i + 1).toNat = (rk h q i).toNat + 1 from by omega, ih]
      show _ = canN f q kind (rk h q i).toNat + (if bF (f (235 + 52 * q + (rk h q i).toNat)) kind = 0 then 1 else 0)
      rw [← b, bF_o hk]
      by_cases d : bF (h i) kind = 0
      · rw [if_pos ⟨c, d⟩, if_pos d]
      · rw [if_neg (fun z => d z.2), if_neg d]
    · rw [if_neg c, if_neg (fun z => c z.1), Int.add_zero, Int.add_zero, ih]
theorem cnt_nn {h : Nat → Int} {p kind : Int} : ∀ i : Nat, 0 ≤ cntN h p kind i ∧ cntN h p kind i ≤ i
  | 0 => ⟨Int.le_refl 0, Int.le_refl 0⟩
  | i + 1 => by
    have z := cnt_nn (h := h) (p := p) (kind := kind) i
    show 0 ≤ cntN h p kind i + (if ow (h i) = p ∧ bF (h i) kind = 0 then 1 else 0) ∧ cntN h p kind i + (if ow (h i) = p ∧ bF (h i) kind = 0 then 1 else 0) ≤ ((i + 1 : Nat) : Int)
    split <;> omega
theorem GR.can {σ : xS} {f : Nat → Int} {p kind : Int} (H : GR σ f) (hp : 0 ≤ p ∧ p ≤ 5) (hk : 0 ≤ kind ∧ kind ≤ 12) : cntN (σ 11) p kind (σ 9 2).toNat = canF f p.toNat kind := by
  have hO := H.2.2.2.1.1
  have z := hO.cnt (p := p.toNat) (kind := kind) (by omega) hk (σ 9 2).toNat (by have := hO.1; omega)
  rw [show ((p.toNat : Nat) : Int) = p from by omega] at z
  have y := hO.2.1 p.toNat (by omega)
  rw [show ((p.toNat : Nat) : Int) = p from by omega] at y
  rw [z, y]
  rfl
/-- one of a kind of a person is caught -/
theorem GR.caught {σ : xS} {f : Nat → Int} {p v : Int} (H : GR σ f) (hp : 0 ≤ p ∧ p ≤ 5) (hv : v = wr (f (547 + p.toNat) + 1)) : GR (xput σ 12 p.toNat v) (up f (547 + p.toNat) (wr (f (547 + p.toNat) + 1))) := H.num (mp_ca (j := p.toNat) (by omega)) (by omega) (by decide) (by omega)
set_option maxHeartbeats 4000000 in
set_option maxRecDepth 100000 in
theorem sX3_mayBeG {f : Nat → Int} {σ : xS} {p kind : Int} {Q : Option xV → xS → Prop} (hp0 : GR σ f) (hp1 : 0 ≤ p ∧ p ≤ 5) (hp2 : 0 ≤ kind ∧ kind ≤ 12) (hQ : ∀ r : Int, (r = canF f p.toNat kind) → Q (some (xvi r)) σ) : xT kX3_mayBe [xvr 9, xvi p, xvi kind] σ Q := by
  refine ⟨Nat.le_of_ble_eq_true rfl, fun X hX => ?_⟩
  show X 0 [xvr 9, xvi p, xvi kind, xvu, xvu] σ
  refine hX 400 0 _ _ ?_
  have hK := hp0.ko
  have h9 := hp0.n9
  refine And.intro (Nat.le_of_ble_eq_true rfl) ?_
  show xw _ _ _ _ _ _ _ _ _ _ [xvr 9, xvi p, xvi kind, xvi 0, xvu] _ _
  refine And.intro (Nat.le_of_ble_eq_true rfl) ?_
  show xw _ _ _ _ _ _ _ _ _ _ [xvr 9, xvi p, xvi kind, xvi 0, xvi 0] _ _
  have lp_5 : ∀ (m5 : Nat) (n : Int) (i : Int), ((52 - i).toNat) = m5 → ((0 ≤ i ∧ i ≤ σ 9 2) ∧ n = cntN (σ 11) p kind i.toNat) → X 5 [xvr 9, xvi p, xvi kind, xvi n, xvi i] σ := by
    intro m5
    induction m5 using Nat.strongRecOn with
    | _ m5 ih_5 =>
    intro n i hm_5 hv_5
    obtain ⟨hv_5, hn⟩ := hv_5
    have hnn := cnt_nn (h := σ 11) (p := p) (kind := kind) i.toNat
    refine hX 400 5 _ _ ?_
    intro v2 e2 l2 h2
    have e2 : v2 = σ 9 2 := e2
    refine And.intro (fun c3 => ?_) (fun c3 => ?_)
    · refine And.intro rfl ?_
      exact hQ _ (by rw [hn, show i.toNat = (σ 9 2).toNat from by omega]; exact hp0.can hp1 hp2)
    · refine And.intro (rfl) (And.intro (⟨by omega, by omega⟩) ?_)
      intro v4 e4 l4 h4
      have e4 : v4 = σ 11 i.toNat := e4
      have hb1 : 0 ≤ v4 ∧ v4 < 49152 := by rw [e4]; exact hK _ (by omega)
      intro z5 e5 l5 h5
      have ho : z5 = ow (σ 11 i.toNat) := by rw [← e4]; exact xown (by omega) e5
      refine And.intro (fun c6 => ?_) (fun c6 => ?_)
      · refine hX 400 45 _ _ ?_
        intro z7 t7 e7 l7 h7
        try have w7 : t7 = 0 := by omega
        show xw _ _ _ _ _ _ _ _ _ _ [xvr 9, xvi p, xvi kind, xvi n, xvi z7] _ _
        exact ih_5 _ (show (52 - z7).toNat < m5 from by omega) n z7 rfl ⟨by omega, by
              rw [show z7.toNat = i.toNat + 1 from by omega]
              show n = cntN (σ 11) p kind i.toNat + (if ow (σ 11 i.toNat) = p ∧ bF (σ 11 i.toNat) kind = 0 then 1 else 0)
              first | (rw [if_pos (by omega)]; omega) | (rw [if_neg (by omega)]; omega)⟩
      · refine And.intro (rfl) (And.intro (⟨by omega, by omega⟩) ?_)
        intro v8 e8 l8 h8
        have e8 : v8 = σ 11 i.toNat := e8
        have hb2 : 0 ≤ v8 ∧ v8 < 49152 := by rw [e8]; exact hK _ (by omega)
        intro z9 e9 l9 h9
        -- bit
        intro z10 e10 l10 h10
        have q10 := x1b z9; rw [← e10] at q10
        have hbf : z10 = bF (σ 11 i.toNat) kind := by rw [← e8]; exact xbit (by omega) (by omega) e9 e10
        refine And.intro (fun c11 => ?_) (fun c11 => ?_)
        · refine hX 400 45 _ _ ?_
          intro z12 t12 e12 l12 h12
          try have w12 : t12 = 0 := by omega
          show xw _ _ _ _ _ _ _ _ _ _ [xvr 9, xvi p, xvi kind, xvi n, xvi z12] _ _
          exact ih_5 _ (show (52 - z12).toNat < m5 from by omega) n z12 rfl ⟨by omega, by
                rw [show z12.toNat = i.toNat + 1 from by omega]
                show n = cntN (σ 11) p kind i.toNat + (if ow (σ 11 i.toNat) = p ∧ bF (σ 11 i.toNat) kind = 0 then 1 else 0)
                first | (rw [if_pos (by omega)]; omega) | (rw [if_neg (by omega)]; omega)⟩
        · intro z13 t13 e13 l13 h13
          try have w13 : t13 = 0 := by omega
          show xw _ _ _ _ _ _ _ _ _ _ [xvr 9, xvi p, xvi kind, xvi z13, xvi i] _ _
          refine hX 400 45 _ _ ?_
          intro z14 t14 e14 l14 h14
          try have w14 : t14 = 0 := by omega
          show xw _ _ _ _ _ _ _ _ _ _ [xvr 9, xvi p, xvi kind, xvi z13, xvi z14] _ _
          exact ih_5 _ (show (52 - z14).toNat < m5 from by omega) z13 z14 rfl ⟨by omega, by
                rw [show z14.toNat = i.toNat + 1 from by omega]
                show z13 = cntN (σ 11) p kind i.toNat + (if ow (σ 11 i.toNat) = p ∧ bF (σ 11 i.toNat) kind = 0 then 1 else 0)
                first | (rw [if_pos (by omega)]; omega) | (rw [if_neg (by omega)]; omega)⟩
  exact lp_5 _ 0 0 rfl ⟨by omega, rfl⟩
set_option maxHeartbeats 4000000 in
set_option maxRecDepth 100000 in
theorem sX3_deniesG {f : Nat → Int} {σ : xS} {p kind : Int} {Q : Option xV → xS → Prop} (hp0 : GR σ f) (hp1 : VX f) (hp2 : 0 ≤ p ∧ p ≤ 5) (hp3 : 0 ≤ kind ∧ kind ≤ 12) (hQ : ∀ σ' : xS, Fr [9, 10, 11, 12] [] σ σ' → (GR σ' (denF f p.toNat kind.toNat)) → Q none σ') : xT kX3_denies [xvr 9, xvi p, xvi kind] σ Q := by
  refine ⟨Nat.le_of_ble_eq_true rfl, fun X hX => ?_⟩
  show X 0 [xvr 9, xvi p, xvi kind, xvu, xvu] σ
  have hF : Fr [9, 10, 11, 12] [] σ σ := Fr.rf
  refine hX 400 0 _ _ ?_
  have hu := hp0.vk hp2 hp3
  have hnk := hp0.nk hp1.1 (k := p.toNat) (kind := kind.toNat) (by omega) (by omega)
  obtain ⟨hk, h4⟩ := kn_r hp1.1 (p := p.toNat) (k := kind.toNat) (by omega) (by omega)
  refine sX3_sureOf (σ := σ) (p := p) (kind := kind) (show 0 ≤ p ∧ p ≤ 5 from by omega) (show 0 ≤ kind ∧ kind ≤ 12 from by omega) (fun r1 p1 => ?_)
  have p1 : r1 = σ 10 (13 * p + kind).toNat := p1
  refine And.intro (Nat.le_of_ble_eq_true rfl) ?_
  show xw _ _ _ _ _ _ _ _ _ _ [xvr 9, xvi p, xvi kind, xvi r1, xvu] _ _
  have lp_28 : ∀ (s1 : xS), (Fr [9, 10, 11, 12] [] σ s1 ∧ s1 9 2 = σ 9 2 ∧ GR s1 (up (cgF f p.toNat kind.toNat) (151 + 13 * p.toNat + kind.toNat) 0)) → X 28 [xvr 9, xvi p, xvi kind, xvi r1, xvu] s1 := by
    intro s1 hv_28
    obtain ⟨hF, h92, hG1⟩ := hv_28
    refine hX 400 28 _ _ ?_
    refine And.intro (Nat.le_of_ble_eq_true rfl) ?_
    show xw _ _ _ _ _ _ _ _ _ _ [xvr 9, xvi p, xvi kind, xvi r1, xvi 0] _ _
    have lp_31 : ∀ (m31 : Nat) (i : Int) (s2 : xS), ((60 - i).toNat) = m31 → (Fr [9, 10, 11, 12] [] σ s2 ∧ s2 9 2 = σ 9 2 + i ∧ GR s2 (adN (up (cgF f p.toNat kind.toNat) (151 + 13 * p.toNat + kind.toNat) 0) p.toNat i.toNat) ∧ (0 ≤ i ∧ i ≤ f (151 + 13 * p.toNat + kind.toNat))) → X 31 [xvr 9, xvi p, xvi kind, xvi r1, xvi i] s2 := by
      intro m31
      induction m31 using Nat.strongRecOn with
      | _ m31 ih_31 =>
      intro i s2 hm_31 hv_31
      obtain ⟨hF, h92, hG, hv_31⟩ := hv_31
      refine hX 400 31 _ _ ?_
      refine And.intro (fun c4 => ?_) (fun c4 => ?_)
      · refine sX3_barAllG (σ := s2) (p := p) (kind := kind) hp2 hp3 hG (fun σ5 f5 hG3 => ?_)
        have hF := hF.tr f5 (by decide) (by decide)
        refine And.intro rfl (And.intro rfl ?_)
        exact hQ _ hF (by
          have e : dnI (cgF f p.toNat kind.toNat) p.toNat kind.toNat (f (151 + 13 * p.toNat + kind.toNat)).toNat = adN (up (cgF f p.toNat kind.toNat) (151 + 13 * p.toNat + kind.toNat) 0) p.toNat i.toNat := by
            unfold dnI
            rw [adN_up (by omega), show i.toNat = (f (151 + 13 * p.toNat + kind.toNat)).toNat from by omega, ((hp1.cg (kind := kind.toNat) (by omega)).2 _ (by omega) : cgF f p.toNat kind.toNat (151 + 13 * p.toNat + kind.toNat) = f (151 + 13 * p.toNat + kind.toNat))]
            congr 1
            omega
          unfold denF
          rw [e, show ((kind.toNat : Nat) : Int) = kind from by omega]
          exact hG3)
      · refine sX3_addOtherG (σ := s2) (p := p) hp2 (by omega) hG (fun σ6 f6 p6 => ?_)
        have hF := hF.tr f6 (by decide) (by decide)
        intro z7 t7 e7 l7 h7
        try have w7 : t7 = 0 := by omega
        show xw _ _ _ _ _ _ _ _ _ _ [xvr 9, xvi p, xvi kind, xvi r1, xvi z7] _ _
        exact ih_31 _ (show (60 - z7).toNat < m31 from by omega) z7 σ6 rfl ⟨hF, by omega, by rw [show z7.toNat = i.toNat + 1 from by omega]; exact p6.1, by omega⟩
    exact lp_31 _ 0 s1 rfl ⟨hF, by omega, hG1, by omega⟩
  refine And.intro (fun c8 => ?_) (fun c8 => ?_)
  · exact lp_28 σ ⟨hF, rfl, by
          unfold cgF
          rw [if_neg (by omega)]
          have e : up f (151 + 13 * p.toNat + kind.toNat) 0 = f := by
            funext x
            by_cases c : x = (151 + 13 * p.toNat + kind.toNat)
            · rw [c, up_s]; omega
            · exact up_n c
          rw [e]; exact hp0⟩
  · refine And.intro (rfl) (And.intro (⟨by omega, by omega⟩) ?_)
    intro v9 e9 l9 h9
    have e9 : v9 = σ 12 p.toNat := e9
    have hca : v9 = f (547 + p.toNat) := by
      have z := hp0.1 _ _ _ _ (mp_ca (j := p.toNat) (by omega))
      omega
    intro z10 t10 e10 l10 h10
    try have w10 : t10 = 0 := by omega
    refine And.intro (rfl) (And.intro (⟨by omega, by omega⟩) ?_)
    have hF := hF.pt (t := 12) (j := p.toNat) (v := z10) (by decide) (by decide)
    have hG1 := hp0.caught (v := z10) hp2 (by unfold wr; omega)
    refine sX3_setSureG (σ := (xput σ 12 p.toNat z10)) (p := p) (kind := kind) (cards := 0) hp2 hp3 hG1 (fun σ12 f12 hG2 => ?_)
    have hF := hF.tr f12 (by decide) (by decide)
    have k92 : σ12 9 2 = σ 9 2 := congrFun (f12.1 9 (by decide) (by decide)) 2
    exact lp_28 σ12 ⟨hF, k92, by
          unfold cgF
          rw [if_pos (by omega)]; exact hG2⟩
def lyX (o : Int) (g : Nat → Int) (k kind : Nat) : Int := if g (60 + 13 * k + kind) < 4 then o else kind
