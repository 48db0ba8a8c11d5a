set_option maxHeartbeats 4000000 in
set_option maxRecDepth 100000 in
theorem sX2_settleG {f : Nat → Int} {σ : xS} {fr : Int} {Q : Option xV → xS → Prop} (hp0 : GR σ f) (hp1 : VX f) (hp2 : 0 ≤ fr ∧ fr ≤ 5) (hp3 : 0 < f 1 → fr < f 1) (hQ : ∀ σ' : xS, Fr [2, 3, 5, 8, 9, 10, 11, 12] [8, 14] σ σ' → (GR σ' (stF f fr) ∧ σ' 0 14 = stF f fr 4) → Q none σ') : xT kX2_settle [xvr 0, xvi fr] σ Q := by
  refine ⟨Nat.le_of_ble_eq_true rfl, fun X hX => ?_⟩
  show X 0 [xvr 0, xvi fr, xvu, xvu] σ
  have hF : Fr [2, 3, 5, 8, 9, 10, 11, 12] [8, 14] σ σ := Fr.rf
  refine hX 400 0 _ _ ?_
  have hF := hF.p (j := 14) (v := (-1)) (by decide)
  refine And.intro (Nat.le_of_ble_eq_true rfl) ?_
  show xw _ _ _ _ _ _ _ _ _ _ [xvr 0, xvi fr, xvi fr, xvu] _ _
  refine And.intro (Nat.le_of_ble_eq_true rfl) ?_
  show xw _ _ _ _ _ _ _ _ _ _ [xvr 0, xvi fr, xvi fr, xvi 0] _ _
  have lp_9 : ∀ (m9 : Nat) (p : Int) (i : Int) (s1 : xS), ((6 - i).toNat) = m9 → (Fr [2, 3, 5, 8, 9, 10, 11, 12] [8, 14] σ s1 ∧ (0 ≤ i ∧ (i ≤ f 1 ∨ i = 0)) ∧ ∃ g : Nat → Int, GR s1 g ∧ VX g ∧ L4x f g ∧ s1 0 14 = g 4 ∧ ((g 4 = -1 ∧ stN g p (f 1 - i).toNat = stF f fr ∧ (0 ≤ p ∧ (0 < f 1 → p < f 1))) ∨ (¬ g 4 = -1 ∧ g = stF f fr))) → X 9 [xvr 0, xvi fr, xvi p, xvi i] s1 := by
    intro m9
    induction m9 using Nat.strongRecOn with
    | _ m9 ih_9 =>
    intro p i s1 hm_9 hv_9
    obtain ⟨hF, hv_9, g, hG, hV, hl, g4, hS⟩ := hv_9
    have g1 := hG.n0 (i := 1) (by decide)
    have hl1 := hl 1 (by omega) (by omega)
    have m1 := hp1.1.1.2.1
    refine hX 400 9 _ _ ?_
    intro v3 e3 l3 h3
    have e3 : v3 = s1 0 1 := e3
    refine And.intro (fun c4 => ?_) (fun c4 => ?_)
    · refine hX 400 56 _ _ ?_
      refine And.intro rfl (And.intro rfl ?_)
      exact hQ _ hF (by
        rcases hS with ⟨q1, q2, q3⟩ | ⟨q1, q2⟩
        · rw [← q2, show (f 1 - i).toNat = 0 from by omega]; exact ⟨hG, g4⟩
        · rw [← q2]; exact ⟨hG, g4⟩)
    · intro v5 e5 l5 h5
      have e5 : v5 = s1 0 14 := e5
      refine And.intro (fun c6 => ?_) (fun c6 => ?_)
      · refine hX 400 56 _ _ ?_
        refine And.intro rfl (And.intro rfl ?_)
        exact hQ _ hF (by
          rcases hS with ⟨q1, q2, q3⟩ | ⟨q1, q2⟩
          · rw [← q2, show (f 1 - i).toNat = 0 from by omega]; exact ⟨hG, g4⟩
          · rw [← q2]; exact ⟨hG, g4⟩)
      · obtain ⟨h41, hS, hpr⟩ : g 4 = -1 ∧ stN g p (f 1 - i).toNat = stF f fr ∧ (0 ≤ p ∧ (0 < f 1 → p < f 1)) := by
          rcases hS with q | q
          · exact q
          · exact absurd (by omega) q.1
        have hpr : 0 ≤ p ∧ p < f 1 := ⟨hpr.1, hpr.2 (by omega)⟩
        have hq1 := hl 1 (by omega) (by omega)
        refine sX2_takeRefillG (σ := s1) (f := g) (p := p) hG hV (by omega) (by omega) (fun σ7 f7 hG2 => ?_)
        have hF := hF.tr f7 (by decide) (by decide)
        obtain ⟨hV2, hQ2⟩ := hV.rf (p := p.toNat) (by omega) (by omega)
        have q1 : σ7 0 1 = s1 0 1 := f7.2 1 (by decide)
        have q14 : σ7 0 14 = s1 0 14 := f7.2 14 (by decide)
        have q3 := hG2.vc (p := p) (by omega)
        have hq41 := hQ2 1 (by omega)
        have hq44 := hQ2 4 (by omega)
        refine And.intro (rfl) (And.intro (⟨by omega, by omega⟩) ?_)
        intro v8 e8 l8 h8
        have e8 : v8 = σ7 3 p.toNat := e8
        refine And.intro (fun c9 => ?_) (fun c9 => ?_)
        · refine hX 400 44 _ _ ?_
          refine sX2_afterG (σ := σ7) (p := p) (by omega) (show 0 ≤ σ7 0 1 ∧ σ7 0 1 ≤ 6 from by omega) (fun r10 p10 => ?_)
          have p10 : r10 = aft (σ7 0 1) p := p10
          rw [show σ7 0 1 = f 1 from by omega] at p10
          have har := aft_r (n := f 1) (p := p) (by omega) (by omega)
          refine And.intro (Nat.le_of_ble_eq_true rfl) ?_
          show xw _ _ _ _ _ _ _ _ _ _ [xvr 0, xvi fr, xvi r10, xvi i] _ _
          intro z11 t11 e11 l11 h11
          try have w11 : t11 = 0 := by omega
          show xw _ _ _ _ _ _ _ _ _ _ [xvr 0, xvi fr, xvi r10, xvi z11] _ _
          exact ih_9 _ (show (6 - z11).toNat < m9 from by omega) r10 z11 σ7 rfl ⟨hF, by omega, rfF g p.toNat, hG2, hV2, (fun i hi h4 => by rw [hQ2 i hi]; exact hl i hi h4), (show σ7 0 14 = rfF g p.toNat 4 from by omega), Or.inl ⟨by omega, by
                    rw [← hS, show (f 1 - i).toNat = (f 1 - z11).toNat + 1 from by omega, stN_s, if_neg (by omega), p10, show f 1 = g 1 from by omega], by omega⟩⟩
        · have hF := hF.p (j := 14) (v := p) (by decide)
          refine hX 400 44 _ _ ?_
          refine sX2_afterG (σ := (xput σ7 0 14 p)) (p := p) (by omega) (show 0 ≤ σ7 0 1 ∧ σ7 0 1 ≤ 6 from by omega) (fun r13 p13 => ?_)
          have p13 : r13 = aft (σ7 0 1) p := p13
          rw [show σ7 0 1 = f 1 from by omega] at p13
          have har := aft_r (n := f 1) (p := p) (by omega) (by omega)
          refine And.intro (Nat.le_of_ble_eq_true rfl) ?_
          show xw _ _ _ _ _ _ _ _ _ _ [xvr 0, xvi fr, xvi r13, xvi i] _ _
          intro z14 t14 e14 l14 h14
          try have w14 : t14 = 0 := by omega
          show xw _ _ _ _ _ _ _ _ _ _ [xvr 0, xvi fr, xvi r13, xvi z14] _ _
          exact ih_9 _ (show (6 - z14).toNat < m9 from by omega) r13 z14 (xput σ7 0 14 p) rfl ⟨hF, by omega, up (rfF g p.toNat) 4 p, (hG2.fr (ts := []) (js := [14]) (Fr.rf.p (by decide))).f4, hV2.t (Or.inl rfl), (fun i hi h4 => by rw [up_n h4, hQ2 i hi]; exact hl i hi h4), (by rw [up_s]; rfl), Or.inr ⟨by rw [up_s]; omega, by
                    rw [← hS, show (f 1 - i).toNat = (f 1 - z14).toNat + 1 from by omega, stN_s, if_pos (by omega)]⟩⟩
  exact lp_9 _ fr 0 (xput σ 0 14 (-1)) rfl ⟨hF, by omega, up f 4 (-1), (hp0.fr (ts := []) (js := [14]) (Fr.rf.p (by decide))).f4, hp1.t (Or.inl rfl), (fun i hi h4 => up_n h4), (by rw [up_s]; rfl), Or.inl ⟨up_s, by rw [show f 1 - 0 = f 1 from by omega]; rfl, by omega⟩⟩

