set_option maxHeartbeats 4000000 in
set_option maxRecDepth 100000 in
theorem sX0_settle {σ : xS} {p : Int} {Q : Option xV → xS → Prop} (hp0 : 0 ≤ p ∧ p ≤ 1) (hp1 : 0 ≤ σ 0 8 ∧ σ 0 8 ≤ 4) (hp2 : 0 ≤ σ 0 3 ∧ σ 0 3 ≤ 4) (hp3 : ∀ i : Nat, (i : Int) < σ 0 3 → 0 ≤ σ 3 i ∧ σ 3 i ≤ 2) (hQ : ∀ r : Int, ∀ σ' : xS, Fr [4] [8, 9, 11] σ σ' → ((0 ≤ σ' 0 8 ∧ σ' 0 8 ≤ 4) ∧ (r = 0 ∨ r = 1)) → Q (some (xvi r)) σ') : xT kX0_settle [xvr 0, xvi p] σ Q := by
  refine ⟨Nat.le_of_ble_eq_true rfl, fun X hX => ?_⟩
  show X 0 [xvr 0, xvi p, xvu, xvu] σ
  have hF : Fr [4] [8, 9, 11] σ σ := Fr.rf
  refine hX 400 0 _ _ ?_
  have hF := hF.p (j := 9) (v := p) (by decide)
  refine And.intro (Nat.le_of_ble_eq_true rfl) ?_
  show xw _ _ _ _ _ _ _ _ _ _ [xvr 0, xvi p, xvi 0, xvu] _ _
  have lp_7 : ∀ (m7 : Nat) (ro : Int) (u2_3 : xV) (s1 : xS), ((4 - ro).toNat) = m7 → (Fr [4] [8, 9, 11] σ s1 ∧ (0 ≤ s1 0 8 ∧ s1 0 8 ≤ 4) ∧ (0 ≤ ro ∧ ro ≤ 4)) → X 7 [xvr 0, xvi p, xvi ro, u2_3] s1 := by
    intro m7
    induction m7 using Nat.strongRecOn with
    | _ m7 ih_7 =>
    intro ro u2_3 s1 hm_7 hv_7
    obtain ⟨hF, h18, hv_7⟩ := hv_7
    have h13 : s1 0 3 = σ 0 3 := hF.2 3 (by decide)
    refine hX 400 7 _ _ ?_
    have lp_58 : ∀ (_ : Unit), (True) → X 58 [xvr 0, xvi p, xvi ro, u2_3] s1 := by
      intro _ hv_58
      refine hX 400 58 _ _ ?_
      refine sX0_cardsOf (σ := s1) (p := p) (show 0 ≤ p ∧ p ≤ 1 from by omega) (fun r4 => ?_)
      refine And.intro (fun c5 => ?_) (fun c5 => ?_)
      · refine And.intro rfl ?_
        refine And.intro (by omega) ?_
        exact hQ _ _ hF ⟨(show 0 ≤ s1 0 8 ∧ s1 0 8 ≤ 4 from by omega), by omega⟩
      · refine And.intro rfl ?_
        refine And.intro (by omega) ?_
        exact hQ _ _ hF ⟨(show 0 ≤ s1 0 8 ∧ s1 0 8 ≤ 4 from by omega), by omega⟩
    refine And.intro (fun c6 => ?_) (fun c6 => ?_)
    · exact lp_58 () (show True from by first | trivial | omega | (refine ⟨by assumption, ?_⟩; omega) | (refine ⟨?_, ?_⟩ <;> omega))
    · refine sX0_cardsOf (σ := s1) (p := p) (show 0 ≤ p ∧ p ≤ 1 from by omega) (fun r7 => ?_)
      refine And.intro (fun c8 => ?_) (fun c8 => ?_)
      · exact lp_58 () (show True from by first | trivial | omega | (refine ⟨by assumption, ?_⟩; omega) | (refine ⟨?_, ?_⟩ <;> omega))
      · refine And.intro (Nat.le_of_ble_eq_true rfl) ?_
        show xw _ _ _ _ _ _ _ _ _ _ [xvr 0, xvi p, xvi ro, xvi 0] _ _
        have lp_22 : ∀ (m22 : Nat) (i : Int) (s2 : xS), ((4 - s2 0 8).toNat) = m22 → (Fr [4] [8, 9, 11] σ s2 ∧ (0 ≤ s2 0 8 ∧ s2 0 8 ≤ 4) ∧ 0 ≤ i) → X 22 [xvr 0, xvi p, xvi ro, xvi i] s2 := by
          intro m22
          induction m22 using Nat.strongRecOn with
          | _ m22 ih_22 =>
          intro i s2 hm_22 hv_22
          obtain ⟨hF, h28, hv_22⟩ := hv_22
          have h23 : s2 0 3 = σ 0 3 := hF.2 3 (by decide)
          refine hX 400 22 _ _ ?_
          have lp_52 : ∀ (_ : Unit), (True) → X 52 [xvr 0, xvi p, xvi ro, xvi i] s2 := by
            intro _ hv_52
            refine hX 400 52 _ _ ?_
            intro z11 t11 e11 l11 h11
            try have w11 : t11 = 0 := by omega
            show xw _ _ _ _ _ _ _ _ _ _ [xvr 0, xvi p, xvi z11, xvi i] _ _
            exact ih_7 _ (show (4 - z11).toNat < m7 from by omega) z11 (xvi i) s2 rfl ⟨hF, (show 0 ≤ s2 0 8 ∧ s2 0 8 ≤ 4 from by omega), by omega⟩
          intro v12 e12 l12 h12
          have e12 : v12 = s2 0 6 := e12
          refine And.intro (fun c13 => ?_) (fun c13 => ?_)
          · exact lp_52 () (show True from by first | trivial | omega | (refine ⟨by assumption, ?_⟩; omega) | (refine ⟨?_, ?_⟩ <;> omega))
          · intro v14 e14 l14 h14
            have e14 : v14 = s2 0 8 := e14
            intro v15 e15 l15 h15
            have e15 : v15 = s2 0 3 := e15
            refine And.intro (fun c16 => ?_) (fun c16 => ?_)
            · exact lp_52 () (show True from by first | trivial | omega | (refine ⟨by assumption, ?_⟩; omega) | (refine ⟨?_, ?_⟩ <;> omega))
            · refine sX0_drawCard (σ := s2) (p := p) (show 0 ≤ p ∧ p ≤ 1 from by omega) (show 0 ≤ (s2 0 8) ∧ (s2 0 8) ≤ 3 from by omega) (show 0 ≤ s2 3 ((s2 0 8)).toNat ∧ s2 3 ((s2 0 8)).toNat ≤ 2 from by rw [hF.1 3 (by decide) (by decide)]; exact hp3 _ (by omega)) (fun σ17 f17 p17 => ?_)
              have hF := hF.tr f17 (by decide) (by decide)
              have p17 : σ17 0 8 = (s2 0 8) + 1 := p17
              intro z18 t18 e18 l18 h18
              try have w18 : t18 = 0 := by omega
              show xw _ _ _ _ _ _ _ _ _ _ [xvr 0, xvi p, xvi ro, xvi z18] _ _
              exact ih_22 _ (show (4 - (σ17 0 8)).toNat < m22 from by omega) z18 σ17 rfl ⟨hF, (show 0 ≤ σ17 0 8 ∧ σ17 0 8 ≤ 4 from by omega), by omega⟩
        exact lp_22 _ 0 s1 rfl ⟨hF, (show 0 ≤ s1 0 8 ∧ s1 0 8 ≤ 4 from by omega), by omega⟩
  exact lp_7 _ 0 (xvu) (xput σ 0 9 p) rfl ⟨hF, (show 0 ≤ σ 0 8 ∧ σ 0 8 ≤ 4 from by omega), by omega⟩
