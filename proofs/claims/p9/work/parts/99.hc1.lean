set_option maxHeartbeats 4000000 in
set_option maxRecDepth 100000 in
theorem sX3_revealF {σ : xS} {p kind : Int} {Q : Option xV → xS → Prop} (hp0 : 0 ≤ p ∧ p ≤ 5) (hp1 : 0 ≤ kind ∧ kind ≤ 12) (hp2 : 0 ≤ σ 9 2 ∧ σ 9 2 ≤ 52) (hp3 : ∀ i : Nat, (i : Int) < σ 9 2 → 0 ≤ σ 11 i ∧ σ 11 i < 49152) (hp4 : -1000 ≤ σ 10 (13 * p + kind).toNat ∧ σ 10 (13 * p + kind).toNat ≤ 1000) (hQ : ∀ σ' : xS, Fr [9, 10, 11, 12] [] σ σ' → (RVX σ σ' p kind) → Q none σ') : xT kX3_reveal [xvr 9, xvi p, xvi kind] σ Q := by
  refine ⟨Nat.le_of_ble_eq_true rfl, fun X hX => ?_⟩
  show X 0 [xvr 9, xvi p, xvi kind, xvu, xvu, xvu] σ
  have hF : Fr [9, 10, 11, 12] [] σ σ := Fr.rf
  refine hX 400 0 _ _ ?_
  have hK := hp3
  refine And.intro (Nat.le_of_ble_eq_true rfl) ?_
  show xw _ _ _ _ _ _ _ _ _ _ [xvr 9, xvi p, xvi kind, xvi (-1), xvu, xvu] _ _
  refine And.intro (Nat.le_of_ble_eq_true rfl) ?_
  show xw _ _ _ _ _ _ _ _ _ _ [xvr 9, xvi p, xvi kind, xvi (-1), xvi (-1), xvu] _ _
  intro v1 e1 l1 h1
  have e1 : v1 = σ 9 2 := e1
  intro z2 t2 e2 l2 h2
  try have w2 : t2 = 0 := by omega
  refine And.intro (Nat.le_of_ble_eq_true rfl) ?_
  show xw _ _ _ _ _ _ _ _ _ _ [xvr 9, xvi p, xvi kind, xvi (-1), xvi (-1), xvi z2] _ _
  have lp_13 : ∀ (m13 : Nat) (any : Int) (fit : Int) (i : Int), ((i + 1).toNat) = m13 → ((-1 ≤ i ∧ i < σ 9 2) ∧ ANY (σ 11) (σ 9 2) p i any ∧ FIT (σ 11) (σ 9 2) p kind i fit) → X 13 [xvr 9, xvi p, xvi kind, xvi any, xvi fit, xvi i] σ := by
    intro m13
    induction m13 using Nat.strongRecOn with
    | _ m13 ih_13 =>
    intro any fit i hm_13 hv_13
    obtain ⟨hv_13, hA, hFt⟩ := hv_13
    refine hX 400 13 _ _ ?_
    refine And.intro (fun c4 => ?_) (fun c4 => ?_)
    · have hi1 : i = -1 := by omega
      refine And.intro (fun c5 => ?_) (fun c5 => ?_)
      · have lp_89 : ∀ (q : Int) (s1 : xS), (Fr [9, 10, 11, 12] [] σ s1 ∧ s1 9 = σ 9 ∧ s1 10 = σ 10 ∧ s1 11 = σ 11 ∧ (0 ≤ q ∧ q < σ 9 2) ∧ WHX (σ 11) (σ 9 2) p kind (σ 12) (s1 12) q.toNat) → X 89 [xvr 9, xvi p, xvi kind, xvi any, xvi q, xvi i] s1 := by
          intro q s1 hv_89
          obtain ⟨hF, h19, h110, h111, hq, hW⟩ := hv_89
          have h192 : s1 9 2 = σ 9 2 := congrFun h19 2
          refine hX 400 89 _ _ ?_
          refine And.intro (Nat.le_of_ble_eq_true rfl) ?_
          show xw _ _ _ _ _ _ _ _ _ _ [xvr 9, xvi p, xvi kind, xvi any, xvi q, xvi q] _ _
          have lp_93 : ∀ (m93 : Nat) (i2 : Int) (s2 : xS), ((52 - i2).toNat) = m93 → (Fr [9, 10, 11, 12] [] σ s2 ∧ s2 9 = σ 9 ∧ s2 10 = σ 10 ∧ s2 12 = s1 12 ∧ (q ≤ i2 ∧ i2 ≤ σ 9 2 - 1) ∧ (∀ j : Nat, (j : Int) < i2 → s2 11 j = cut (σ 11) q.toNat j) ∧ (∀ j : Nat, i2 ≤ (j : Int) → s2 11 j = σ 11 j)) → X 93 [xvr 9, xvi p, xvi kind, xvi any, xvi q, xvi i2] s2 := by
            intro m93
            induction m93 using Nat.strongRecOn with
            | _ m93 ih_93 =>
            intro i2 s2 hm_93 hv_93
            obtain ⟨hF, h29, h210, h212, hi2, hlo, hhi⟩ := hv_93
            have h292 : s2 9 2 = σ 9 2 := congrFun h29 2
            refine hX 400 93 _ _ ?_
            intro z8 t8 e8 l8 h8
            try have w8 : t8 = 0 := by omega
            intro v9 e9 l9 h9
            have e9 : v9 = s2 9 2 := e9
            refine And.intro (fun c10 => ?_) (fun c10 => ?_)
            · intro v11 e11 l11 h11
              have e11 : v11 = s2 9 2 := e11
              intro z12 t12 e12 l12 h12
              try have w12 : t12 = 0 := by omega
              have hF := hF.pt (t := 9) (j := 2) (v := z12) (by decide) (by decide)
              intro z14 t14 e14 l14 h14
              try have w14 : t14 = 0 := by omega
              intro z15 t15 e15 l15 h15
              try have w15 : t15 = 0 := by omega
              refine And.intro (rfl) (And.intro (⟨by omega, by omega⟩) ?_)
              intro v16 e16 l16 h16
              have e16 : v16 = s2 10 z15.toNat := e16
              rw [h210, show z15.toNat = (13 * p + kind).toNat from by omega] at e16
              intro z17 t17 e17 l17 h17
              try have w17 : t17 = 0 := by omega
              refine And.intro (rfl) (And.intro (⟨by omega, by omega⟩) ?_)
              have hF := hF.pt (t := 10) (j := z15.toNat) (v := z17) (by decide) (by decide)
              refine And.intro rfl (And.intro rfl ?_)
              refine hQ _ hF (Or.inr ⟨q.toNat, ?_, (show z12 = σ 9 2 - 1 from by omega), ?_, fun j hj => ?_⟩)
              · show WHX (σ 11) (σ 9 2) p kind (σ 12) (s2 12) q.toNat
                rw [h212]; exact hW
              · show xput s2 10 z15.toNat z17 10 = _
                rw [xput_up, h210, show z15.toNat = (13 * p + kind).toNat from by omega, show z17 = σ 10 (13 * p + kind).toNat + 1 from by omega]
              · exact hlo j (by omega)
            · intro z19 t19 e19 l19 h19
              try have w19 : t19 = 0 := by omega
              refine And.intro (rfl) (And.intro (⟨by omega, by omega⟩) ?_)
              intro v20 e20 l20 h20
              have e20 : v20 = s2 11 z19.toNat := e20
              refine And.intro (rfl) (And.intro (⟨by omega, by omega⟩) ?_)
              have hF := hF.pt (t := 11) (j := i2.toNat) (v := v20) (by decide) (by decide)
              intro z22 t22 e22 l22 h22
              try have w22 : t22 = 0 := by omega
              show xw _ _ _ _ _ _ _ _ _ _ [xvr 9, xvi p, xvi kind, xvi any, xvi q, xvi z22] _ _
              exact ih_93 _ (show (52 - z22).toNat < m93 from by omega) z22 (xput s2 11 i2.toNat v20) rfl ⟨hF, h29, h210, h212, by omega, (fun k hk => by
                        show xput s2 11 i2.toNat v20 11 k = _
                        by_cases e : (k : Int) = i2
                        · rw [show k = i2.toNat from by omega, xput_s, cut_hi (by omega), e20, hhi _ (by omega)]
                          congr 1; omega
                        · rw [xput_o (by omega)]; exact hlo k (by omega)), (fun k hk => by
                        show xput s2 11 i2.toNat v20 11 k = _
                        rw [xput_o (by omega)]; exact hhi k (by omega))⟩
          exact lp_93 _ q s1 rfl ⟨hF, h19, h110, rfl, by omega, (fun j hj => by rw [h111, cut_lo (by omega)]), (fun j hj => by rw [h111])⟩
        refine And.intro (fun c23 => ?_) (fun c23 => ?_)
        · exact lp_89 fit σ ⟨hF, rfl, rfl, rfl, (by rcases hFt with ⟨h, _⟩ | ⟨h1, _⟩ <;> omega), by
            rcases hFt with ⟨h, _⟩ | ⟨h1, h2, h3, h4⟩
            · omega
            · exact ⟨by omega, h2, Or.inl ⟨h3, fun j hj => h4 j (by omega) (by omega), rfl⟩⟩⟩
        · refine And.intro (rfl) (And.intro (⟨by omega, by omega⟩) ?_)
          intro v24 e24 l24 h24
          have e24 : v24 = σ 12 p.toNat := e24
          intro z25 t25 e25 l25 h25
          try have w25 : t25 = 0 := by omega
          refine And.intro (rfl) (And.intro (⟨by omega, by omega⟩) ?_)
          have hF := hF.pt (t := 12) (j := p.toNat) (v := z25) (by decide) (by decide)
          refine And.intro (Nat.le_of_ble_eq_true rfl) ?_
          show xw _ _ _ _ _ _ _ _ _ _ [xvr 9, xvi p, xvi kind, xvi any, xvi any, xvi i] _ _
          exact lp_89 any (xput σ 12 p.toNat z25) ⟨hF, rfl, rfl, rfl, (by rcases hA with ⟨h, _⟩ | ⟨h1, _⟩ <;> omega), by
            have hfx : ∀ j : Nat, (j : Int) < σ 9 2 → ow (σ 11 j) = p → ¬ bF (σ 11 j) kind = 0 := by
              rcases hFt with ⟨_, h⟩ | ⟨h, _⟩
              · exact fun j hj => h j (by omega) hj
              · omega
            rcases hA with ⟨h, _⟩ | ⟨h1, h2, h3⟩
            · omega
            · refine ⟨by omega, h2, Or.inr ⟨hfx, fun j hj => h3 j (by omega) (by omega), ?_⟩⟩
              show xput σ 12 p.toNat z25 12 = _
              rw [xput_up, show z25 = wr (σ 12 p.toNat + 1) from by unfold wr; omega]⟩
      · refine And.intro rfl (And.intro rfl ?_)
        refine hQ _ hF (Or.inl ⟨?_, rfl, rfl, rfl, rfl⟩)
        rcases hA with ⟨_, h⟩ | ⟨h, _⟩
        · exact fun j hj => h j (by omega) hj
        · omega
    · have lp_58 : ∀ (any2 : Int) (fit2 : Int), (ANY (σ 11) (σ 9 2) p (i - 1) any2 ∧ FIT (σ 11) (σ 9 2) p kind (i - 1) fit2) → X 58 [xvr 9, xvi p, xvi kind, xvi any2, xvi fit2, xvi i] σ := by
        intro any2 fit2 hv_58
        refine hX 400 58 _ _ ?_
        intro z28 t28 e28 l28 h28
        try have w28 : t28 = 0 := by omega
        show xw _ _ _ _ _ _ _ _ _ _ [xvr 9, xvi p, xvi kind, xvi any2, xvi fit2, xvi z28] _ _
        exact ih_13 _ (show (z28 + 1).toNat < m13 from by omega) any2 fit2 z28 rfl ⟨by omega, by rw [show z28 = i - 1 from by omega]; exact hv_58.1, by rw [show z28 = i - 1 from by omega]; exact hv_58.2⟩
      refine And.intro (rfl) (And.intro (⟨by omega, by omega⟩) ?_)
      intro v29 e29 l29 h29
      have e29 : v29 = σ 11 i.toNat := e29
      have hb_1 : 0 ≤ v29 ∧ v29 < 49152 := by rw [e29]; exact hK _ (by omega)
      intro z30 e30 l30 h30
      have ho : z30 = ow (σ 11 i.toNat) := by rw [← e29]; exact xown (by omega) e30
      refine And.intro (fun c31 => ?_) (fun c31 => ?_)
      · exact lp_58 any fit ⟨hA.miss (by omega) rfl (fun h => by omega), hFt.miss (by omega) rfl (fun h => by omega)⟩
      · refine And.intro (Nat.le_of_ble_eq_true rfl) ?_
        show xw _ _ _ _ _ _ _ _ _ _ [xvr 9, xvi p, xvi kind, xvi i, xvi fit, xvi i] _ _
        refine And.intro (rfl) (And.intro (⟨by omega, by omega⟩) ?_)
        intro v32 e32 l32 h32
        have e32 : v32 = σ 11 i.toNat := e32
        have hb_2 : 0 ≤ v32 ∧ v32 < 49152 := by rw [e32]; exact hK _ (by omega)
        intro z33 e33 l33 h33
        -- bit
        intro z34 e34 l34 h34
        have q34 := x1b z33; rw [← e34] at q34
        have hbf : z34 = bF (σ 11 i.toNat) kind := by rw [← e32]; exact xbit (by omega) (by omega) e33 e34
        refine And.intro (fun c35 => ?_) (fun c35 => ?_)
        · refine And.intro (Nat.le_of_ble_eq_true rfl) ?_
          show xw _ _ _ _ _ _ _ _ _ _ [xvr 9, xvi p, xvi kind, xvi i, xvi fit, xvi i] _ _
          exact lp_58 i fit ⟨ANY.hit (by omega) (by omega) rfl (by omega), hFt.miss (by omega) rfl (fun _ => by omega)⟩
        · refine And.intro (Nat.le_of_ble_eq_true rfl) ?_
          show xw _ _ _ _ _ _ _ _ _ _ [xvr 9, xvi p, xvi kind, xvi i, xvi i, xvi i] _ _
          exact lp_58 i i ⟨ANY.hit (by omega) (by omega) rfl (by omega), FIT.hit (by omega) (by omega) rfl (by omega) (by omega)⟩
  exact lp_13 _ (-1) (-1) z2 rfl ⟨by omega, ANY.z (by omega), FIT.z (by omega)⟩
