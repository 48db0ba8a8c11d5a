set_option maxHeartbeats 4000000 in
set_option maxRecDepth 100000 in
theorem s_sentenceK {σ : xS} {Q : Option xV → xS → Prop} (hp0 : RI σ) (hQ : ∀ r : Int, ∀ σ' : xS, RZS σ σ' → Q (some (xvi r)) σ') : xT kX11_sentence [xvr 0] σ Q := by
  refine ⟨Nat.le_of_ble_eq_true rfl, fun X hX => ?_⟩
  show X 0 [xvr 0, xvu, xvu] σ
  have hF : Fr [2, 4, 23] [0, 2, 3, 4, 5, 11, 12, 13, 14, 15, 16, 17, 56, 57, 58, 59, 60] σ σ := Fr.rf
  refine hX 400 0 _ _ ?_
  have hl := hp0.len
  have hF := hF.p (j := 0) (v := 0) (by decide)
  refine s_taken (σ := (xput σ 0 0 0)) (most := 200) (fun σ2 f2 p2 => ?_)
  have p2 : σ2 0 3 = (σ 0 2) ∧ σ2 0 2 = 0 ∧ σ2 0 4 = 0 ∧ σ2 0 5 = 200 := p2
  have hF := hF.tr f2 (by decide) (by decide)
  have hS2 : σ2 2 = σ 2 := f2.1 2 (by decide) (by decide)
  have hS0 : σ2 0 2 = 0 := p2.2.1
  have hF := hF.p (j := 15) (v := 0) (by decide)
  have hF := hF.p (j := 56) (v := 0) (by decide)
  have hF := hF.p (j := 57) (v := 0) (by decide)
  have hF := hF.p (j := 58) (v := 0) (by decide)
  have hF := hF.p (j := 59) (v := 1) (by decide)
  refine And.intro (by omega) ?_
  have hF := hF.p (j := 60) (v := 0) (by decide)
  refine s_next (σ := (xput (xput (xput (xput (xput (xput σ2 0 15 0) 0 56 0) 0 57 0) 0 58 0) 0 59 1) 0 60 0))  (show 0 ≤ σ2 0 4 ∧ σ2 0 4 ≤ σ2 0 3 ∧ σ2 0 3 ≤ 940 from by omega) (fun σ9 f9 p9 => ?_)
  have p9 : σ9 0 3 = (σ2 0 3) ∧ (σ2 0 4) ≤ σ9 0 4 ∧ σ9 0 4 ≤ σ9 0 3 ∧ (0 ≤ σ9 0 11 ∧ σ9 0 11 ≤ 4) ∧ (1 ≤ σ9 0 11 ∧ σ9 0 11 ≤ 3 → (σ2 0 4) < σ9 0 4 ∧ 0 ≤ σ9 0 14) := p9
  have hF := hF.tr f9 (by decide) (by decide)
  have hS2 : σ9 2 = σ 2 := (f9.1 2 (by decide) (by decide)).trans hS2
  have hS0 : σ9 0 2 = 0 := (f9.2 2 (by decide)).trans hS0
  have kt4_9 : σ9 4 = σ2 4 := f9.1 4 (by decide) (by decide)
  have kt23_9 : σ9 23 = σ2 23 := f9.1 23 (by decide) (by decide)
  have kf56_9 : σ9 0 56 = 0 := f9.2 56 (by decide)
  have kf57_9 : σ9 0 57 = 0 := f9.2 57 (by decide)
  have kf58_9 : σ9 0 58 = 0 := f9.2 58 (by decide)
  have kf60_9 : σ9 0 60 = 0 := f9.2 60 (by decide)
  refine And.intro (Nat.le_of_ble_eq_true rfl) ?_
  show xw _ _ _ _ _ _ _ _ _ _ [xvr 0, xvi 1, xvu] _ _
  have lp_48 : ∀ (m48 : Nat) (goes : Int) (s1 : xS), ((3 * (940 - s1 0 4) + (if 1 ≤ s1 0 11 ∧ s1 0 11 ≤ 3 then 1 else 0) + goes).toNat) = m48 → (Fr [2, 4, 23] [0, 2, 3, 4, 5, 11, 12, 13, 14, 15, 16, 17, 56, 57, 58, 59, 60] σ s1 ∧ s1 2 = σ 2 ∧ s1 0 2 = 0 ∧ CR (s1 4) (s1 0 56) (bn (s1 23) (s1 0 58) + s1 0 60) ∧ ((s1 0 60 = 0 ∨ s1 0 60 = 1) ∧ 0 ≤ s1 0 56 ∧ 0 ≤ s1 0 58 ∧ s1 0 56 + s1 0 58 ≤ 2 * s1 0 57 - s1 0 60 ∧ 0 ≤ s1 0 57 ∧ s1 0 57 ≤ 20) ∧ (0 ≤ s1 0 4 ∧ s1 0 4 ≤ s1 0 3 ∧ s1 0 3 ≤ 940) ∧ (goes = 0 ∨ goes = 1)) → X 48 [xvr 0, xvi goes, xvu] s1 := by
    intro m48
    induction m48 using Nat.strongRecOn with
    | _ m48 ih_48 =>
    intro goes s1 hm_48 hv_48
    obtain ⟨hF, hS2, hS0, hC, hsi, hpi, hgo⟩ := hv_48
    refine hX 400 48 _ _ ?_
    refine And.intro (fun c11 => ?_) (fun c11 => ?_)
    · intro v12 e12 l12 h12
      have e12 : v12 = s1 0 56 := e12
      refine And.intro (rfl) (And.intro (⟨by omega, by omega⟩) ?_)
      have hF := hF.pt (t := 2) (j := 584) (v := v12) (by decide) (by decide)
      refine And.intro (Nat.le_of_ble_eq_true rfl) ?_
      show xw _ _ _ _ _ _ _ _ _ _ [xvr 0, xvi goes, xvi 0] _ _
      have lp_146 : ∀ (m146 : Nat) (i : Int) (s2 : xS), ((120 - i).toNat) = m146 → (Fr [2, 4, 23] [0, 2, 3, 4, 5, 11, 12, 13, 14, 15, 16, 17, 56, 57, 58, 59, 60] σ s2 ∧ s2 0 2 = 0 ∧ s2 4 = s1 4 ∧ s2 0 56 = s1 0 56 ∧ s2 2 584 = s1 0 56 ∧ (∀ j : Nat, (j : Int) < i → s2 2 (585 + j) = s1 4 j) ∧ (∀ j : Nat, j < 584 → s2 2 j = σ 2 j) ∧ (0 ≤ i ∧ i ≤ 3 * s1 0 56)) → X 146 [xvr 0, xvi goes, xvi i] s2 := by
        intro m146
        induction m146 using Nat.strongRecOn with
        | _ m146 ih_146 =>
        intro i s2 hm_146 hv_146
        obtain ⟨hF, hS0, h4, h56, h584, hB, hO, hv_146⟩ := hv_146
        refine hX 400 146 _ _ ?_
        intro v15 e15 l15 h15
        have e15 : v15 = s2 0 56 := e15
        intro z16 t16 e16 l16 h16
        try have w16 : t16 = 0 := by omega
        refine And.intro (fun c17 => ?_) (fun c17 => ?_)
        · intro v18 e18 l18 h18
          have e18 : v18 = s2 0 57 := e18
          refine And.intro rfl ?_
          exact hQ _ _ (RZS.co hp0 hF hO (hC.co (by omega) h584 (fun q hq => hB q (by omega))) (by decide) (by decide) (by decide) (by decide) (by decide) hS0)
        · intro z19 t19 e19 l19 h19
          try have w19 : t19 = 0 := by omega
          refine And.intro (rfl) (And.intro (⟨by omega, by omega⟩) ?_)
          intro v20 e20 l20 h20
          have e20 : v20 = s2 4 i.toNat := e20
          refine And.intro (rfl) (And.intro (⟨by omega, by omega⟩) ?_)
          have hF := hF.pt (t := 2) (j := z19.toNat) (v := v20) (by decide) (by decide)
          intro z22 t22 e22 l22 h22
          try have w22 : t22 = 0 := by omega
          show xw _ _ _ _ _ _ _ _ _ _ [xvr 0, xvi goes, xvi z22] _ _
          exact ih_146 _ (show (120 - z22).toNat < m146 from by omega) z22 (xput s2 2 z19.toNat v20) rfl ⟨hF, hS0, h4, h56, (by rw [xput_o (by omega)]; exact h584), (fun q hq => by
                    by_cases e : q = i.toNat
                    · rw [show 585 + q = z19.toNat from by omega, xput_s, e20, h4]; rw [show i.toNat = q from by omega]
                    · rw [xput_o (by omega)]; exact hB q (by omega)), (fun q hq => by rw [xput_o (by omega)]; exact hO q hq), by omega⟩
      exact lp_146 _ 0 (xput s1 2 584 v12) rfl ⟨hF, hS0, rfl, rfl, (by rw [xput_s]; omega), (fun q hq => by omega), (fun q hq => by rw [xput_o (by omega), hS2]), by omega⟩
    · intro v23 e23 l23 h23
      have e23 : v23 = s1 0 60 := e23
      refine And.intro (fun c24 => ?_) (fun c24 => ?_)
      · refine hX 400 101 _ _ ?_
        intro v25 e25 l25 h25
        have e25 : v25 = s1 0 60 := e25
        refine And.intro (fun c26 => ?_) (fun c26 => ?_)
        · refine s_operand (σ := s1) (show 0 ≤ s1 0 4 ∧ s1 0 4 ≤ s1 0 3 ∧ s1 0 3 ≤ 940 from by omega) (by rw [hS2]; exact hp0.persons) hC (by omega) (by omega) (fun r27 σ27 f27 p27 => ?_)
          have p27 : (r27 = 1 ∧ CR (σ27 4) (σ27 0 56) (bn (σ27 23) (σ27 0 58) + σ27 0 60) ∧ ((σ27 0 60 = 0 ∨ σ27 0 60 = 1) ∧ 0 ≤ σ27 0 56 ∧ 0 ≤ σ27 0 58 ∧ σ27 0 56 + σ27 0 58 ≤ 2 * σ27 0 57 - σ27 0 60 ∧ 0 ≤ σ27 0 57 ∧ σ27 0 57 ≤ 20) ∧ σ27 0 3 = (s1 0 3) ∧ (s1 0 4) ≤ σ27 0 4 ∧ σ27 0 4 ≤ σ27 0 3 ∧ (1 ≤ σ27 0 11 ∧ σ27 0 11 ≤ 3 → (s1 0 4) < σ27 0 4) ∧ (1 ≤ (s1 0 11) ∧ (s1 0 11) ≤ 3)) ∨ (r27 = 0 ∧ (0 : Int) ≤ 0) := by
            rcases p27 with q | q
            · exact Or.inl q
            · exact Or.inr ⟨q, by omega⟩
          have hF := hF.tr f27 (by decide) (by decide)
          have hS2 : σ27 2 = σ 2 := (f27.1 2 (by decide) (by decide)).trans hS2
          have hS0 : σ27 0 2 = 0 := (f27.2 2 (by decide)).trans hS0
          refine And.intro (fun c28 => ?_) (fun c28 => ?_)
          · replace p27 : CR (σ27 4) (σ27 0 56) (bn (σ27 23) (σ27 0 58) + σ27 0 60) ∧ ((σ27 0 60 = 0 ∨ σ27 0 60 = 1) ∧ 0 ≤ σ27 0 56 ∧ 0 ≤ σ27 0 58 ∧ σ27 0 56 + σ27 0 58 ≤ 2 * σ27 0 57 - σ27 0 60 ∧ 0 ≤ σ27 0 57 ∧ σ27 0 57 ≤ 20) ∧ σ27 0 3 = (s1 0 3) ∧ (s1 0 4) ≤ σ27 0 4 ∧ σ27 0 4 ≤ σ27 0 3 ∧ (1 ≤ σ27 0 11 ∧ σ27 0 11 ≤ 3 → (s1 0 4) < σ27 0 4) ∧ (1 ≤ (s1 0 11) ∧ (s1 0 11) ≤ 3) := by
              rcases p27 with q | q
              · exact q.2
              · exact absurd q.1 (by omega)
            exact ih_48 _ (show (3 * (940 - (σ27 0 4)) + (if 1 ≤ (σ27 0 11) ∧ (σ27 0 11) ≤ 3 then 1 else 0) + goes).toNat < m48 from by have z := p27.2.2; split <;> split at hm_48 <;> omega) goes σ27 rfl ⟨hF, hS2, hS0, p27.1, p27.2.1, (by have := p27.2.2; omega), by omega⟩
          · replace p27 : (0 : Int) ≤ 0 := by
              rcases p27 with q | q
              · exact absurd q.1 (by omega)
              · exact q.2
            refine hX 400 125 _ _ ?_
            intro v29 e29 l29 h29
            have e29 : v29 = σ27 0 16 := e29
            intro z30 t30 e30 l30 h30
            try have w30 : t30 = 0 := by omega
            refine And.intro rfl ?_
            exact hQ _ _ (RZS.co hp0 hF (fun j _ => by rw [hS2]) (by rw [hS2]; exact hp0.2.1) (by decide) (by decide) (by decide) (by decide) (by decide) hS0)
        · refine s_behind (σ := s1) (show 0 ≤ s1 0 4 ∧ s1 0 4 ≤ s1 0 3 ∧ s1 0 3 ≤ 940 from by omega) (by rw [hS2]; exact hp0.persons) hC (by omega) (by omega) (fun r31 σ31 f31 p31 => ?_)
          have p31 : (r31 = 1 ∧ CR (σ31 4) (σ31 0 56) (bn (σ31 23) (σ31 0 58) + σ31 0 60) ∧ ((σ31 0 60 = 0 ∨ σ31 0 60 = 1) ∧ 0 ≤ σ31 0 56 ∧ 0 ≤ σ31 0 58 ∧ σ31 0 56 + σ31 0 58 ≤ 2 * σ31 0 57 - σ31 0 60 ∧ 0 ≤ σ31 0 57 ∧ σ31 0 57 ≤ 20) ∧ σ31 0 3 = (s1 0 3) ∧ (s1 0 4) ≤ σ31 0 4 ∧ σ31 0 4 ≤ σ31 0 3 ∧ (1 ≤ σ31 0 11 ∧ σ31 0 11 ≤ 3 → (s1 0 4) < σ31 0 4) ∧ (1 ≤ (s1 0 11) ∧ (s1 0 11) ≤ 3)) ∨ (r31 = 0 ∧ (0 : Int) ≤ 0) := by
            rcases p31 with q | q
            · exact Or.inl q
            · exact Or.inr ⟨q, by omega⟩
          have hF := hF.tr f31 (by decide) (by decide)
          have hS2 : σ31 2 = σ 2 := (f31.1 2 (by decide) (by decide)).trans hS2
          have hS0 : σ31 0 2 = 0 := (f31.2 2 (by decide)).trans hS0
          refine And.intro (fun c32 => ?_) (fun c32 => ?_)
          · replace p31 : CR (σ31 4) (σ31 0 56) (bn (σ31 23) (σ31 0 58) + σ31 0 60) ∧ ((σ31 0 60 = 0 ∨ σ31 0 60 = 1) ∧ 0 ≤ σ31 0 56 ∧ 0 ≤ σ31 0 58 ∧ σ31 0 56 + σ31 0 58 ≤ 2 * σ31 0 57 - σ31 0 60 ∧ 0 ≤ σ31 0 57 ∧ σ31 0 57 ≤ 20) ∧ σ31 0 3 = (s1 0 3) ∧ (s1 0 4) ≤ σ31 0 4 ∧ σ31 0 4 ≤ σ31 0 3 ∧ (1 ≤ σ31 0 11 ∧ σ31 0 11 ≤ 3 → (s1 0 4) < σ31 0 4) ∧ (1 ≤ (s1 0 11) ∧ (s1 0 11) ≤ 3) := by
              rcases p31 with q | q
              · exact q.2
              · exact absurd q.1 (by omega)
            exact ih_48 _ (show (3 * (940 - (σ31 0 4)) + (if 1 ≤ (σ31 0 11) ∧ (σ31 0 11) ≤ 3 then 1 else 0) + goes).toNat < m48 from by have z := p31.2.2; split <;> split at hm_48 <;> omega) goes σ31 rfl ⟨hF, hS2, hS0, p31.1, p31.2.1, (by have := p31.2.2; omega), by omega⟩
          · replace p31 : (0 : Int) ≤ 0 := by
              rcases p31 with q | q
              · exact absurd q.1 (by omega)
              · exact q.2
            refine hX 400 125 _ _ ?_
            intro v33 e33 l33 h33
            have e33 : v33 = σ31 0 16 := e33
            intro z34 t34 e34 l34 h34
            try have w34 : t34 = 0 := by omega
            refine And.intro rfl ?_
            exact hQ _ _ (RZS.co hp0 hF (fun j _ => by rw [hS2]) (by rw [hS2]; exact hp0.2.1) (by decide) (by decide) (by decide) (by decide) (by decide) hS0)
      · intro v35 e35 l35 h35
        have e35 : v35 = s1 0 11 := e35
        refine And.intro (fun c36 => ?_) (fun c36 => ?_)
        · refine hX 400 101 _ _ ?_
          intro v37 e37 l37 h37
          have e37 : v37 = s1 0 60 := e37
          refine And.intro (fun c38 => ?_) (fun c38 => ?_)
          · refine s_operand (σ := s1) (show 0 ≤ s1 0 4 ∧ s1 0 4 ≤ s1 0 3 ∧ s1 0 3 ≤ 940 from by omega) (by rw [hS2]; exact hp0.persons) hC (by omega) (by omega) (fun r39 σ39 f39 p39 => ?_)
            have p39 : (r39 = 1 ∧ CR (σ39 4) (σ39 0 56) (bn (σ39 23) (σ39 0 58) + σ39 0 60) ∧ ((σ39 0 60 = 0 ∨ σ39 0 60 = 1) ∧ 0 ≤ σ39 0 56 ∧ 0 ≤ σ39 0 58 ∧ σ39 0 56 + σ39 0 58 ≤ 2 * σ39 0 57 - σ39 0 60 ∧ 0 ≤ σ39 0 57 ∧ σ39 0 57 ≤ 20) ∧ σ39 0 3 = (s1 0 3) ∧ (s1 0 4) ≤ σ39 0 4 ∧ σ39 0 4 ≤ σ39 0 3 ∧ (1 ≤ σ39 0 11 ∧ σ39 0 11 ≤ 3 → (s1 0 4) < σ39 0 4) ∧ (1 ≤ (s1 0 11) ∧ (s1 0 11) ≤ 3)) ∨ (r39 = 0 ∧ (0 : Int) ≤ 0) := by
              rcases p39 with q | q
              · exact Or.inl q
              · exact Or.inr ⟨q, by omega⟩
            have hF := hF.tr f39 (by decide) (by decide)
            have hS2 : σ39 2 = σ 2 := (f39.1 2 (by decide) (by decide)).trans hS2
            have hS0 : σ39 0 2 = 0 := (f39.2 2 (by decide)).trans hS0
            refine And.intro (fun c40 => ?_) (fun c40 => ?_)
            · replace p39 : CR (σ39 4) (σ39 0 56) (bn (σ39 23) (σ39 0 58) + σ39 0 60) ∧ ((σ39 0 60 = 0 ∨ σ39 0 60 = 1) ∧ 0 ≤ σ39 0 56 ∧ 0 ≤ σ39 0 58 ∧ σ39 0 56 + σ39 0 58 ≤ 2 * σ39 0 57 - σ39 0 60 ∧ 0 ≤ σ39 0 57 ∧ σ39 0 57 ≤ 20) ∧ σ39 0 3 = (s1 0 3) ∧ (s1 0 4) ≤ σ39 0 4 ∧ σ39 0 4 ≤ σ39 0 3 ∧ (1 ≤ σ39 0 11 ∧ σ39 0 11 ≤ 3 → (s1 0 4) < σ39 0 4) ∧ (1 ≤ (s1 0 11) ∧ (s1 0 11) ≤ 3) := by
                rcases p39 with q | q
                · exact q.2
                · exact absurd q.1 (by omega)
              exact ih_48 _ (show (3 * (940 - (σ39 0 4)) + (if 1 ≤ (σ39 0 11) ∧ (σ39 0 11) ≤ 3 then 1 else 0) + goes).toNat < m48 from by have z := p39.2.2; split <;> split at hm_48 <;> omega) goes σ39 rfl ⟨hF, hS2, hS0, p39.1, p39.2.1, (by have := p39.2.2; omega), by omega⟩
            · replace p39 : (0 : Int) ≤ 0 := by
                rcases p39 with q | q
                · exact absurd q.1 (by omega)
                · exact q.2
              refine hX 400 125 _ _ ?_
              intro v41 e41 l41 h41
              have e41 : v41 = σ39 0 16 := e41
              intro z42 t42 e42 l42 h42
              try have w42 : t42 = 0 := by omega
              refine And.intro rfl ?_
              exact hQ _ _ (RZS.co hp0 hF (fun j _ => by rw [hS2]) (by rw [hS2]; exact hp0.2.1) (by decide) (by decide) (by decide) (by decide) (by decide) hS0)
          · refine s_behind (σ := s1) (show 0 ≤ s1 0 4 ∧ s1 0 4 ≤ s1 0 3 ∧ s1 0 3 ≤ 940 from by omega) (by rw [hS2]; exact hp0.persons) hC (by omega) (by omega) (fun r43 σ43 f43 p43 => ?_)
            have p43 : (r43 = 1 ∧ CR (σ43 4) (σ43 0 56) (bn (σ43 23) (σ43 0 58) + σ43 0 60) ∧ ((σ43 0 60 = 0 ∨ σ43 0 60 = 1) ∧ 0 ≤ σ43 0 56 ∧ 0 ≤ σ43 0 58 ∧ σ43 0 56 + σ43 0 58 ≤ 2 * σ43 0 57 - σ43 0 60 ∧ 0 ≤ σ43 0 57 ∧ σ43 0 57 ≤ 20) ∧ σ43 0 3 = (s1 0 3) ∧ (s1 0 4) ≤ σ43 0 4 ∧ σ43 0 4 ≤ σ43 0 3 ∧ (1 ≤ σ43 0 11 ∧ σ43 0 11 ≤ 3 → (s1 0 4) < σ43 0 4) ∧ (1 ≤ (s1 0 11) ∧ (s1 0 11) ≤ 3)) ∨ (r43 = 0 ∧ (0 : Int) ≤ 0) := by
              rcases p43 with q | q
              · exact Or.inl q
              · exact Or.inr ⟨q, by omega⟩
            have hF := hF.tr f43 (by decide) (by decide)
            have hS2 : σ43 2 = σ 2 := (f43.1 2 (by decide) (by decide)).trans hS2
            have hS0 : σ43 0 2 = 0 := (f43.2 2 (by decide)).trans hS0
            refine And.intro (fun c44 => ?_) (fun c44 => ?_)
            · replace p43 : CR (σ43 4) (σ43 0 56) (bn (σ43 23) (σ43 0 58) + σ43 0 60) ∧ ((σ43 0 60 = 0 ∨ σ43 0 60 = 1) ∧ 0 ≤ σ43 0 56 ∧ 0 ≤ σ43 0 58 ∧ σ43 0 56 + σ43 0 58 ≤ 2 * σ43 0 57 - σ43 0 60 ∧ 0 ≤ σ43 0 57 ∧ σ43 0 57 ≤ 20) ∧ σ43 0 3 = (s1 0 3) ∧ (s1 0 4) ≤ σ43 0 4 ∧ σ43 0 4 ≤ σ43 0 3 ∧ (1 ≤ σ43 0 11 ∧ σ43 0 11 ≤ 3 → (s1 0 4) < σ43 0 4) ∧ (1 ≤ (s1 0 11) ∧ (s1 0 11) ≤ 3) := by
                rcases p43 with q | q
                · exact q.2
                · exact absurd q.1 (by omega)
              exact ih_48 _ (show (3 * (940 - (σ43 0 4)) + (if 1 ≤ (σ43 0 11) ∧ (σ43 0 11) ≤ 3 then 1 else 0) + goes).toNat < m48 from by have z := p43.2.2; split <;> split at hm_48 <;> omega) goes σ43 rfl ⟨hF, hS2, hS0, p43.1, p43.2.1, (by have := p43.2.2; omega), by omega⟩
            · replace p43 : (0 : Int) ≤ 0 := by
                rcases p43 with q | q
                · exact absurd q.1 (by omega)
                · exact q.2
              refine hX 400 125 _ _ ?_
              intro v45 e45 l45 h45
              have e45 : v45 = σ43 0 16 := e45
              intro z46 t46 e46 l46 h46
              try have w46 : t46 = 0 := by omega
              refine And.intro rfl ?_
              exact hQ _ _ (RZS.co hp0 hF (fun j _ => by rw [hS2]) (by rw [hS2]; exact hp0.2.1) (by decide) (by decide) (by decide) (by decide) (by decide) hS0)
        · have hC1 : CR (s1 4) (s1 0 56) (bn (s1 23) (s1 0 58) + 1) := hC.eq rfl (by omega)
          refine s_nots (σ := s1)  hC1 (show 0 ≤ s1 0 56 ∧ 0 ≤ s1 0 58 ∧ s1 0 56 + s1 0 58 ≤ 40 from by omega) (fun σ47 f47 p47 => ?_)
          have hF := hF.tr f47 (by decide) (by decide)
          have kt2_47 : σ47 2 = s1 2 := f47.1 2 (by decide) (by decide)
          have kt23_47 : σ47 23 = s1 23 := f47.1 23 (by decide) (by decide)
          have kp2_1_47 : σ47 2 1 = s1 2 1 := congrFun kt2_47 1
          have kf57_47 : σ47 0 57 = s1 0 57 := f47.2 57 (by decide)
          have kf60_47 : σ47 0 60 = s1 0 60 := f47.2 60 (by decide)
          have kf11_47 : σ47 0 11 = s1 0 11 := f47.2 11 (by decide)
          have kf4_47 : σ47 0 4 = s1 0 4 := f47.2 4 (by decide)
          have kf3_47 : σ47 0 3 = s1 0 3 := f47.2 3 (by decide)
          have kf14_47 : σ47 0 14 = s1 0 14 := f47.2 14 (by decide)
          have hC : CR (σ47 4) (σ47 0 56) (bn (σ47 23) (σ47 0 58) + σ47 0 60) := by rw [kt23_47]; exact p47.1.eq rfl (by omega)
          have y47 : 0 ≤ σ47 0 56 ∧ 0 ≤ σ47 0 58 ∧ σ47 0 56 + σ47 0 58 = s1 0 56 + s1 0 58 := p47.2
          have hS2 : σ47 2 = σ 2 := (f47.1 2 (by decide) (by decide)).trans hS2
          have hS0 : σ47 0 2 = 0 := (f47.2 2 (by decide)).trans hS0
          have hC1 : CR (σ47 4) (σ47 0 56) (bn (σ47 23) (σ47 0 58) + 1) := hC.eq rfl (by omega)
          refine s_joins (σ := σ47) (till := 12) hC1 (show 0 ≤ σ47 0 56 ∧ 0 ≤ σ47 0 58 ∧ σ47 0 56 + σ47 0 58 ≤ 40 from by omega) (fun σ48 f48 p48 => ?_)
          have hF := hF.tr f48 (by decide) (by decide)
          have kt2_48 : σ48 2 = σ47 2 := f48.1 2 (by decide) (by decide)
          have kt23_48 : σ48 23 = σ47 23 := f48.1 23 (by decide) (by decide)
          have kp2_1_48 : σ48 2 1 = σ47 2 1 := congrFun kt2_48 1
          have kf57_48 : σ48 0 57 = σ47 0 57 := f48.2 57 (by decide)
          have kf60_48 : σ48 0 60 = σ47 0 60 := f48.2 60 (by decide)
          have kf11_48 : σ48 0 11 = σ47 0 11 := f48.2 11 (by decide)
          have kf4_48 : σ48 0 4 = σ47 0 4 := f48.2 4 (by decide)
          have kf3_48 : σ48 0 3 = σ47 0 3 := f48.2 3 (by decide)
          have kf14_48 : σ48 0 14 = σ47 0 14 := f48.2 14 (by decide)
          have hC : CR (σ48 4) (σ48 0 56) (bn (σ48 23) (σ48 0 58) + σ48 0 60) := by rw [kt23_48]; exact p48.1.eq rfl (by omega)
          have y48 : 0 ≤ σ48 0 56 ∧ 0 ≤ σ48 0 58 ∧ σ48 0 56 + σ48 0 58 = σ47 0 56 + σ47 0 58 := p48.2.1
          have u48 := p48.2.2; rw [← kt23_48] at u48
          have hS2 : σ48 2 = σ 2 := (f48.1 2 (by decide) (by decide)).trans hS2
          have hS0 : σ48 0 2 = 0 := (f48.2 2 (by decide)).trans hS0
          intro v49 e49 l49 h49
          have e49 : v49 = σ48 0 58 := e49
          refine And.intro (fun c50 => ?_) (fun c50 => ?_)
          · refine And.intro (Nat.le_of_ble_eq_true rfl) ?_
            show xw _ _ _ _ _ _ _ _ _ _ [xvr 0, xvi 0, xvu] _ _
            exact ih_48 _ (show (3 * (940 - (σ48 0 4)) + (if 1 ≤ (σ48 0 11) ∧ (σ48 0 11) ≤ 3 then 1 else 0) + 0).toNat < m48 from by split <;> split at hm_48 <;> omega) 0 σ48 rfl ⟨hF, hS2, hS0, hC, by omega, by omega, by omega⟩
          · refine s_badF (σ := σ48) (kind := 1) (fun r51 σ51 f51 p51 => ?_)
            have p51 : r51 = 0 := p51
            have hF := hF.tr f51 (by decide) (by decide)
            have hS2 : σ51 2 = σ 2 := (f51.1 2 (by decide) (by decide)).trans hS2
            have hS0 : σ51 0 2 = 0 := (f51.2 2 (by decide)).trans hS0
            intro v52 e52 l52 h52
            have e52 : v52 = σ51 0 16 := e52
            intro z53 t53 e53 l53 h53
            try have w53 : t53 = 0 := by omega
            refine And.intro rfl ?_
            exact hQ _ _ (RZS.co hp0 hF (fun j _ => by rw [hS2]) (by rw [hS2]; exact hp0.2.1) (by decide) (by decide) (by decide) (by decide) (by decide) hS0)
  exact lp_48 _ 1 σ9 rfl ⟨hF, hS2, hS0, CR.z (by omega) (by rw [show σ9 0 58 = 0 from by omega, show σ9 0 60 = 0 from by omega]; rfl), by omega, by omega, by omega⟩

