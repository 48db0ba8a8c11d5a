theorem RZ.co {ts js : List Nat} {σ σ' : xS} (h : RI σ) (h2 : Fr ts js σ σ') (e2 : ∀ j, j < 584 → σ' 2 j = σ 2 j) (hC : CO (σ' 2)) (t8 : 8 ∉ ts) (t25 : 25 ∉ ts) (t27 : 27 ∉ ts) (b : 27 ∉ js) (c : 37 ∉ js) (hz : σ' 0 2 = 0) (t1 : 1 ∉ ts := by decide) (t6 : 6 ∉ ts := by decide) : RZ σ σ' := by
  obtain ⟨g1, g2, g3, g4, g5, g6, g7⟩ := h
  refine ⟨⟨g1.ag8 (fun i hi _ => e2 i hi), hC, by omega, by rw [h2.2 27 b]; exact g4, fun j hj => ?_, by rw [h2.2 37 c]; exact g6, by rw [h2.1 25 (by decide) t25, h2.1 27 (by decide) t27]; exact g7⟩, hz, h2.1 27 (by decide) t27, h2.1 1 (by decide) t1, h2.1 6 (by decide) t6⟩
  rw [h2.2 27 b] at hj
  rw [h2.1 8 (by decide) t8]
  exact (g5 j hj).ag8 (blk_ag (fun i h1 _ => e2 i (by omega)))
theorem xboolb (z : Int) : 0 ≤ xbool z ∧ xbool z ≤ 1 := x1b z
theorem CO.d {f : Nat → Int} (h : CO f) : ∃ d : Nat → Int, d 0 = 0 ∧ (∀ i : Nat, (i : Int) < f 584 → CC (f (585 + 3 * i)) (f (587 + 3 * i)) (d i) (d (i + 1))) ∧ ∀ i : Nat, (i : Int) ≤ f 584 → 0 ≤ d i ∧ d i ≤ i := by
  obtain ⟨h1, d, h2, h3⟩ := h
  refine ⟨d, h2, h3, fun i hi => ?_⟩
  induction i with
  | zero => rw [h2]; omega
  | succ i ih =>
    have a := ih (by omega)
    have b := h3 i (by omega)
    omega
set_option maxHeartbeats 4000000 in
set_option maxRecDepth 100000 in
theorem s_sentence {σ : xS} {Q : Option xV → xS → Prop} (hp0 : RI σ) (hQ : ∀ r : Int, ∀ σ' : xS, RZ σ σ' → Q (some (xvi r)) σ') : xT kX11_sentence [xvr 0] σ Q := by
  refine ⟨Nat.le_of_ble_eq_true rfl, fun X hX => ?_⟩
  show X 0 [xvr 0, xvu, xvu] σ
  have hF : Fr [2, 4, 23] [0, 2, 3, 4, 5, 11, 12, 13, 14, 15, 16, 17, 56, 57, 58, 59, 60] σ σ := Fr.rf
  refine hX 400 0 _ _ ?_
  have hl := hp0.len
  have hF := hF.p (j := 0) (v := 0) (by decide)
  refine s_taken (σ := (xput σ 0 0 0)) (most := 200) (fun σ2 f2 p2 => ?_)
  have p2 : σ2 0 3 = (σ 0 2) ∧ σ2 0 2 = 0 ∧ σ2 0 4 = 0 ∧ σ2 0 5 = 200 := p2
  have hF := hF.tr f2 (by decide) (by decide)
  have hS2 : σ2 2 = σ 2 := f2.1 2 (by decide) (by decide)
  have hS0 : σ2 0 2 = 0 := p2.2.1
  have hF := hF.p (j := 15) (v := 0) (by decide)
  have hF := hF.p (j := 56) (v := 0) (by decide)
  have hF := hF.p (j := 57) (v := 0) (by decide)
  have hF := hF.p (j := 58) (v := 0) (by decide)
  have hF := hF.p (j := 59) (v := 1) (by decide)
  refine And.intro (by omega) ?_
  have hF := hF.p (j := 60) (v := 0) (by decide)
  refine s_next (σ := (xput (xput (xput (xput (xput (xput σ2 0 15 0) 0 56 0) 0 57 0) 0 58 0) 0 59 1) 0 60 0))  (show 0 ≤ σ2 0 4 ∧ σ2 0 4 ≤ σ2 0 3 ∧ σ2 0 3 ≤ 940 from by omega) (fun σ9 f9 p9 => ?_)
  have p9 : σ9 0 3 = (σ2 0 3) ∧ (σ2 0 4) ≤ σ9 0 4 ∧ σ9 0 4 ≤ σ9 0 3 ∧ (0 ≤ σ9 0 11 ∧ σ9 0 11 ≤ 4) ∧ (1 ≤ σ9 0 11 ∧ σ9 0 11 ≤ 3 → (σ2 0 4) < σ9 0 4 ∧ 0 ≤ σ9 0 14) := p9
  have hF := hF.tr f9 (by decide) (by decide)
  have hS2 : σ9 2 = σ 2 := (f9.1 2 (by decide) (by decide)).trans hS2
  have hS0 : σ9 0 2 = 0 := (f9.2 2 (by decide)).trans hS0
  have kt4_9 : σ9 4 = σ2 4 := f9.1 4 (by decide) (by decide)
  have kt23_9 : σ9 23 = σ2 23 := f9.1 23 (by decide) (by decide)
  have kf56_9 : σ9 0 56 = 0 := f9.2 56 (by decide)
  have kf57_9 : σ9 0 57 = 0 := f9.2 57 (by decide)
  have kf58_9 : σ9 0 58 = 0 := f9.2 58 (by decide)
  have kf60_9 : σ9 0 60 = 0 := f9.2 60 (by decide)
  refine And.intro (Nat.le_of_ble_eq_true rfl) ?_
  show xw _ _ _ _ _ _ _ _ _ _ [xvr 0, xvi 1, xvu] _ _
  have lp_48 : ∀ (m48 : Nat) (goes : Int) (s1 : xS), ((3 * (940 - s1 0 4) + (if 1 ≤ s1 0 11 ∧ s1 0 11 ≤ 3 then 1 else 0) + goes).toNat) = m48 → (Fr [2, 4, 23] [0, 2, 3, 4, 5, 11, 12, 13, 14, 15, 16, 17, 56, 57, 58, 59, 60] σ s1 ∧ s1 2 = σ 2 ∧ s1 0 2 = 0 ∧ CR (s1 4) (s1 0 56) (bn (s1 23) (s1 0 58) + s1 0 60) ∧ ((s1 0 60 = 0 ∨ s1 0 60 = 1) ∧ 0 ≤ s1 0 56 ∧ 0 ≤ s1 0 58 ∧ s1 0 56 + s1 0 58 ≤ 2 * s1 0 57 - s1 0 60 ∧ 0 ≤ s1 0 57 ∧ s1 0 57 ≤ 20) ∧ (0 ≤ s1 0 4 ∧ s1 0 4 ≤ s1 0 3 ∧ s1 0 3 ≤ 940) ∧ (goes = 0 ∨ goes = 1)) → X 48 [xvr 0, xvi goes, xvu] s1 := by
    intro m48
    induction m48 using Nat.strongRecOn with
    | _ m48 ih_48 =>
    intro goes s1 hm_48 hv_48
    obtain ⟨hF, hS2, hS0, hC, hsi, hpi, hgo⟩ := hv_48
    refine hX 400 48 _ _ ?_
    refine And.intro (fun c11 => ?_) (fun c11 => ?_)
    · intro v12 e12 l12 h12
      have e12 : v12 = s1 0 56 := e12
      refine And.intro (rfl) (And.intro (⟨by omega, by omega⟩) ?_)
      have hF := hF.pt (t := 2) (j := 584) (v := v12) (by decide) (by decide)
      refine And.intro (Nat.le_of_ble_eq_true rfl) ?_
      show xw _ _ _ _ _ _ _ _ _ _ [xvr 0, xvi goes, xvi 0] _ _
      have lp_146 : ∀ (m146 : Nat) (i : Int) (s2 : xS), ((120 - i).toNat) = m146 → (Fr [2, 4, 23] [0, 2, 3, 4, 5, 11, 12, 13, 14, 15, 16, 17, 56, 57, 58, 59, 60] σ s2 ∧ s2 0 2 = 0 ∧ s2 4 = s1 4 ∧ s2 0 56 = s1 0 56 ∧ s2 2 584 = s1 0 56 ∧ (∀ j : Nat, (j : Int) < i → s2 2 (585 + j) = s1 4 j) ∧ (∀ j : Nat, j < 584 → s2 2 j = σ 2 j) ∧ (0 ≤ i ∧ i ≤ 3 * s1 0 56)) → X 146 [xvr 0, xvi goes, xvi i] s2 := by
        intro m146
        induction m146 using Nat.strongRecOn with
        | _ m146 ih_146 =>
        intro i s2 hm_146 hv_146
        obtain ⟨hF, hS0, h4, h56, h584, hB, hO, hv_146⟩ := hv_146
        refine hX 400 146 _ _ ?_
        intro v15 e15 l15 h15
        have e15 : v15 = s2 0 56 := e15
        intro z16 t16 e16 l16 h16
        try have w16 : t16 = 0 := by omega
        refine And.intro (fun c17 => ?_) (fun c17 => ?_)
        · intro v18 e18 l18 h18
          have e18 : v18 = s2 0 57 := e18
          refine And.intro rfl ?_
          exact hQ _ _ (RZ.co hp0 hF hO (hC.co (by omega) h584 (fun q hq => hB q (by omega))) (by decide) (by decide) (by decide) (by decide) (by decide) hS0)
        · intro z19 t19 e19 l19 h19
          try have w19 : t19 = 0 := by omega
          refine And.intro (rfl) (And.intro (⟨by omega, by omega⟩) ?_)
          intro v20 e20 l20 h20
          have e20 : v20 = s2 4 i.toNat := e20
          refine And.intro (rfl) (And.intro (⟨by omega, by omega⟩) ?_)
          have hF := hF.pt (t := 2) (j := z19.toNat) (v := v20) (by decide) (by decide)
          intro z22 t22 e22 l22 h22
          try have w22 : t22 = 0 := by omega
          show xw _ _ _ _ _ _ _ _ _ _ [xvr 0, xvi goes, xvi z22] _ _
          exact ih_146 _ (show (120 - z22).toNat < m146 from by omega) z22 (xput s2 2 z19.toNat v20) rfl ⟨hF, hS0, h4, h56, (by rw [xput_o (by omega)]; exact h584), (fun q hq => by
                    by_cases e : q = i.toNat
                    · rw [show 585 + q = z19.toNat from by omega, xput_s, e20, h4]; rw [show i.toNat = q from by omega]
                    · rw [xput_o (by omega)]; exact hB q (by omega)), (fun q hq => by rw [xput_o (by omega)]; exact hO q hq), by omega⟩
      exact lp_146 _ 0 (xput s1 2 584 v12) rfl ⟨hF, hS0, rfl, rfl, (by rw [xput_s]; omega), (fun q hq => by omega), (fun q hq => by rw [xput_o (by omega), hS2]), by omega⟩
    · intro v23 e23 l23 h23
      have e23 : v23 = s1 0 60 := e23
      refine And.intro (fun c24 => ?_) (fun c24 => ?_)
      · refine hX 400 101 _ _ ?_
        intro v25 e25 l25 h25
        have e25 : v25 = s1 0 60 := e25
        refine And.intro (fun c26 => ?_) (fun c26 => ?_)
        · refine s_operand (σ := s1) (show 0 ≤ s1 0 4 ∧ s1 0 4 ≤ s1 0 3 ∧ s1 0 3 ≤ 940 from by omega) (by rw [hS2]; exact hp0.persons) hC (by omega) (by omega) (fun r27 σ27 f27 p27 => ?_)
          have p27 : (r27 = 1 ∧ CR (σ27 4) (σ27 0 56) (bn (σ27 23) (σ27 0 58) + σ27 0 60) ∧ ((σ27 0 60 = 0 ∨ σ27 0 60 = 1) ∧ 0 ≤ σ27 0 56 ∧ 0 ≤ σ27 0 58 ∧ σ27 0 56 + σ27 0 58 ≤ 2 * σ27 0 57 - σ27 0 60 ∧ 0 ≤ σ27 0 57 ∧ σ27 0 57 ≤ 20) ∧ σ27 0 3 = (s1 0 3) ∧ (s1 0 4) ≤ σ27 0 4 ∧ σ27 0 4 ≤ σ27 0 3 ∧ (1 ≤ σ27 0 11 ∧ σ27 0 11 ≤ 3 → (s1 0 4) < σ27 0 4) ∧ (1 ≤ (s1 0 11) ∧ (s1 0 11) ≤ 3)) ∨ (r27 = 0 ∧ (0 : Int) ≤ 0) := by
            rcases p27 with q | q
            · exact Or.inl q
            · exact Or.inr ⟨q, by omega⟩
          have hF := hF.tr f27 (by decide) (by decide)
          have hS2 : σ27 2 = σ 2 := (f27.1 2 (by decide) (by decide)).trans hS2
          have hS0 : σ27 0 2 = 0 := (f27.2 2 (by decide)).trans hS0
          refine And.intro (fun c28 => ?_) (fun c28 => ?_)
          · replace p27 : CR (σ27 4) (σ27 0 56) (bn (σ27 23) (σ27 0 58) + σ27 0 60) ∧ ((σ27 0 60 = 0 ∨ σ27 0 60 = 1) ∧ 0 ≤ σ27 0 56 ∧ 0 ≤ σ27 0 58 ∧ σ27 0 56 + σ27 0 58 ≤ 2 * σ27 0 57 - σ27 0 60 ∧ 0 ≤ σ27 0 57 ∧ σ27 0 57 ≤ 20) ∧ σ27 0 3 = (s1 0 3) ∧ (s1 0 4) ≤ σ27 0 4 ∧ σ27 0 4 ≤ σ27 0 3 ∧ (1 ≤ σ27 0 11 ∧ σ27 0 11 ≤ 3 → (s1 0 4) < σ27 0 4) ∧ (1 ≤ (s1 0 11) ∧ (s1 0 11) ≤ 3) := by
              rcases p27 with q | q
              · exact q.2
              · exact absurd q.1 (by omega)
            exact ih_48 _ (show (3 * (940 - (σ27 0 4)) + (if 1 ≤ (σ27 0 11) ∧ (σ27 0 11) ≤ 3 then 1 else 0) + goes).toNat < m48 from by have z := p27.2.2; split <;> split at hm_48 <;> omega) goes σ27 rfl ⟨hF, hS2, hS0, p27.1, p27.2.1, (by have := p27.2.2; omega), by omega⟩
          · replace p27 : (0 : Int) ≤ 0 := by
              rcases p27 with q | q
              · exact absurd q.1 (by omega)
              · exact q.2
            refine hX 400 125 _ _ ?_
            intro v29 e29 l29 h29
            have e29 : v29 = σ27 0 16 := e29
            intro z30 t30 e30 l30 h30
            try have w30 : t30 = 0 := by omega
            refine And.intro rfl ?_
            exact hQ _ _ (RZ.co hp0 hF (fun j _ => by rw [hS2]) (by rw [hS2]; exact hp0.2.1) (by decide) (by decide) (by decide) (by decide) (by decide) hS0)
        · refine s_behind (σ := s1) (show 0 ≤ s1 0 4 ∧ s1 0 4 ≤ s1 0 3 ∧ s1 0 3 ≤ 940 from by omega) (by rw [hS2]; exact hp0.persons) hC (by omega) (by omega) (fun r31 σ31 f31 p31 => ?_)
          have p31 : (r31 = 1 ∧ CR (σ31 4) (σ31 0 56) (bn (σ31 23) (σ31 0 58) + σ31 0 60) ∧ ((σ31 0 60 = 0 ∨ σ31 0 60 = 1) ∧ 0 ≤ σ31 0 56 ∧ 0 ≤ σ31 0 58 ∧ σ31 0 56 + σ31 0 58 ≤ 2 * σ31 0 57 - σ31 0 60 ∧ 0 ≤ σ31 0 57 ∧ σ31 0 57 ≤ 20) ∧ σ31 0 3 = (s1 0 3) ∧ (s1 0 4) ≤ σ31 0 4 ∧ σ31 0 4 ≤ σ31 0 3 ∧ (1 ≤ σ31 0 11 ∧ σ31 0 11 ≤ 3 → (s1 0 4) < σ31 0 4) ∧ (1 ≤ (s1 0 11) ∧ (s1 0 11) ≤ 3)) ∨ (r31 = 0 ∧ (0 : Int) ≤ 0) := by
            rcases p31 with q | q
            · exact Or.inl q
            · exact Or.inr ⟨q, by omega⟩
          have hF := hF.tr f31 (by decide) (by decide)
          have hS2 : σ31 2 = σ 2 := (f31.1 2 (by decide) (by decide)).trans hS2
          have hS0 : σ31 0 2 = 0 := (f31.2 2 (by decide)).trans hS0
          refine And.intro (fun c32 => ?_) (fun c32 => ?_)
          · replace p31 : CR (σ31 4) (σ31 0 56) (bn (σ31 23) (σ31 0 58) + σ31 0 60) ∧ ((σ31 0 60 = 0 ∨ σ31 0 60 = 1) ∧ 0 ≤ σ31 0 56 ∧ 0 ≤ σ31 0 58 ∧ σ31 0 56 + σ31 0 58 ≤ 2 * σ31 0 57 - σ31 0 60 ∧ 0 ≤ σ31 0 57 ∧ σ31 0 57 ≤ 20) ∧ σ31 0 3 = (s1 0 3) ∧ (s1 0 4) ≤ σ31 0 4 ∧ σ31 0 4 ≤ σ31 0 3 ∧ (1 ≤ σ31 0 11 ∧ σ31 0 11 ≤ 3 → (s1 0 4) < σ31 0 4) ∧ (1 ≤ (s1 0 11) ∧ (s1 0 11) ≤ 3) := by
              rcases p31 with q | q
              · exact q.2
              · exact absurd q.1 (by omega)
            exact ih_48 _ (show (3 * (940 - (σ31 0 4)) + (if 1 ≤ (σ31 0 11) ∧ (σ31 0 11) ≤ 3 then 1 else 0) + goes).toNat < m48 from by have z := p31.2.2; split <;> split at hm_48 <;> omega) goes σ31 rfl ⟨hF, hS2, hS0, p31.1, p31.2.1, (by have := p31.2.2; omega), by omega⟩
          · replace p31 : (0 : Int) ≤ 0 := by
              rcases p31 with q | q
              · exact absurd q.1 (by omega)
              · exact q.2
            refine hX 400 125 _ _ ?_
            intro v33 e33 l33 h33
            have e33 : v33 = σ31 0 16 := e33
            intro z34 t34 e34 l34 h34
            try have w34 : t34 = 0 := by omega
            refine And.intro rfl ?_
            exact hQ _ _ (RZ.co hp0 hF (fun j _ => by rw [hS2]) (by rw [hS2]; exact hp0.2.1) (by decide) (by decide) (by decide) (by decide) (by decide) hS0)
      · intro v35 e35 l35 h35
        have e35 : v35 = s1 0 11 := e35
        refine And.intro (fun c36 => ?_) (fun c36 => ?_)
        · refine hX 400 101 _ _ ?_
          intro v37 e37 l37 h37
          have e37 : v37 = s1 0 60 := e37
          refine And.intro (fun c38 => ?_) (fun c38 => ?_)
          · refine s_operand (σ := s1) (show 0 ≤ s1 0 4 ∧ s1 0 4 ≤ s1 0 3 ∧ s1 0 3 ≤ 940 from by omega) (by rw [hS2]; exact hp0.persons) hC (by omega) (by omega) (fun r39 σ39 f39 p39 => ?_)
            have p39 : (r39 = 1 ∧ CR (σ39 4) (σ39 0 56) (bn (σ39 23) (σ39 0 58) + σ39 0 60) ∧ ((σ39 0 60 = 0 ∨ σ39 0 60 = 1) ∧ 0 ≤ σ39 0 56 ∧ 0 ≤ σ39 0 58 ∧ σ39 0 56 + σ39 0 58 ≤ 2 * σ39 0 57 - σ39 0 60 ∧ 0 ≤ σ39 0 57 ∧ σ39 0 57 ≤ 20) ∧ σ39 0 3 = (s1 0 3) ∧ (s1 0 4) ≤ σ39 0 4 ∧ σ39 0 4 ≤ σ39 0 3 ∧ (1 ≤ σ39 0 11 ∧ σ39 0 11 ≤ 3 → (s1 0 4) < σ39 0 4) ∧ (1 ≤ (s1 0 11) ∧ (s1 0 11) ≤ 3)) ∨ (r39 = 0 ∧ (0 : Int) ≤ 0) := by
              rcases p39 with q | q
              · exact Or.inl q
              · exact Or.inr ⟨q, by omega⟩
            have hF := hF.tr f39 (by decide) (by decide)
            have hS2 : σ39 2 = σ 2 := (f39.1 2 (by decide) (by decide)).trans hS2
            have hS0 : σ39 0 2 = 0 := (f39.2 2 (by decide)).trans hS0
            refine And.intro (fun c40 => ?_) (fun c40 => ?_)
            · replace p39 : CR (σ39 4) (σ39 0 56) (bn (σ39 23) (σ39 0 58) + σ39 0 60) ∧ ((σ39 0 60 = 0 ∨ σ39 0 60 = 1) ∧ 0 ≤ σ39 0 56 ∧ 0 ≤ σ39 0 58 ∧ σ39 0 56 + σ39 0 58 ≤ 2 * σ39 0 57 - σ39 0 60 ∧ 0 ≤ σ39 0 57 ∧ σ39 0 57 ≤ 20) ∧ σ39 0 3 = (s1 0 3) ∧ (s1 0 4) ≤ σ39 0 4 ∧ σ39 0 4 ≤ σ39 0 3 ∧ (1 ≤ σ39 0 11 ∧ σ39 0 11 ≤ 3 → (s1 0 4) < σ39 0 4) ∧ (1 ≤ (s1 0 11) ∧ (s1 0 11) ≤ 3) := by
                rcases p39 with q | q
                · exact q.2
                · exact absurd q.1 (by omega)
              exact ih_48 _ (show (3 * (940 - (σ39 0 4)) + (if 1 ≤ (σ39 0 11) ∧ (σ39 0 11) ≤ 3 then 1 else 0) + goes).toNat < m48 from by have z := p39.2.2; split <;> split at hm_48 <;> omega) goes σ39 rfl ⟨hF, hS2, hS0, p39.1, p39.2.1, (by have := p39.2.2; omega), by omega⟩
            · replace p39 : (0 : Int) ≤ 0 := by
                rcases p39 with q | q
                · exact absurd q.1 (by omega)
                · exact q.2
              refine hX 400 125 _ _ ?_
              intro v41 e41 l41 h41
              have e41 : v41 = σ39 0 16 := e41
              intro z42 t42 e42 l42 h42
              try have w42 : t42 = 0 := by omega
              refine And.intro rfl ?_
              exact hQ _ _ (RZ.co hp0 hF (fun j _ => by rw [hS2]) (by rw [hS2]; exact hp0.2.1) (by decide) (by decide) (by decide) (by decide) (by decide) hS0)
          · refine s_behind (σ := s1) (show 0 ≤ s1 0 4 ∧ s1 0 4 ≤ s1 0 3 ∧ s1 0 3 ≤ 940 from by omega) (by rw [hS2]; exact hp0.persons) hC (by omega) (by omega) (fun r43 σ43 f43 p43 => ?_)
            have p43 : (r43 = 1 ∧ CR (σ43 4) (σ43 0 56) (bn (σ43 23) (σ43 0 58) + σ43 0 60) ∧ ((σ43 0 60 = 0 ∨ σ43 0 60 = 1) ∧ 0 ≤ σ43 0 56 ∧ 0 ≤ σ43 0 58 ∧ σ43 0 56 + σ43 0 58 ≤ 2 * σ43 0 57 - σ43 0 60 ∧ 0 ≤ σ43 0 57 ∧ σ43 0 57 ≤ 20) ∧ σ43 0 3 = (s1 0 3) ∧ (s1 0 4) ≤ σ43 0 4 ∧ σ43 0 4 ≤ σ43 0 3 ∧ (1 ≤ σ43 0 11 ∧ σ43 0 11 ≤ 3 → (s1 0 4) < σ43 0 4) ∧ (1 ≤ (s1 0 11) ∧ (s1 0 11) ≤ 3)) ∨ (r43 = 0 ∧ (0 : Int) ≤ 0) := by
              rcases p43 with q | q
              · exact Or.inl q
              · exact Or.inr ⟨q, by omega⟩
            have hF := hF.tr f43 (by decide) (by decide)
            have hS2 : σ43 2 = σ 2 := (f43.1 2 (by decide) (by decide)).trans hS2
            have hS0 : σ43 0 2 = 0 := (f43.2 2 (by decide)).trans hS0
            refine And.intro (fun c44 => ?_) (fun c44 => ?_)
            · replace p43 : CR (σ43 4) (σ43 0 56) (bn (σ43 23) (σ43 0 58) + σ43 0 60) ∧ ((σ43 0 60 = 0 ∨ σ43 0 60 = 1) ∧ 0 ≤ σ43 0 56 ∧ 0 ≤ σ43 0 58 ∧ σ43 0 56 + σ43 0 58 ≤ 2 * σ43 0 57 - σ43 0 60 ∧ 0 ≤ σ43 0 57 ∧ σ43 0 57 ≤ 20) ∧ σ43 0 3 = (s1 0 3) ∧ (s1 0 4) ≤ σ43 0 4 ∧ σ43 0 4 ≤ σ43 0 3 ∧ (1 ≤ σ43 0 11 ∧ σ43 0 11 ≤ 3 → (s1 0 4) < σ43 0 4) ∧ (1 ≤ (s1 0 11) ∧ (s1 0 11) ≤ 3) := by
                rcases p43 with q | q
                · exact q.2
                · exact absurd q.1 (by omega)
              exact ih_48 _ (show (3 * (940 - (σ43 0 4)) + (if 1 ≤ (σ43 0 11) ∧ (σ43 0 11) ≤ 3 then 1 else 0) + goes).toNat < m48 from by have z := p43.2.2; split <;> split at hm_48 <;> omega) goes σ43 rfl ⟨hF, hS2, hS0, p43.1, p43.2.1, (by have := p43.2.2; omega), by omega⟩
            · replace p43 : (0 : Int) ≤ 0 := by
                rcases p43 with q | q
                · exact absurd q.1 (by omega)
                · exact q.2
              refine hX 400 125 _ _ ?_
              intro v45 e45 l45 h45
              have e45 : v45 = σ43 0 16 := e45
              intro z46 t46 e46 l46 h46
              try have w46 : t46 = 0 := by omega
              refine And.intro rfl ?_
              exact hQ _ _ (RZ.co hp0 hF (fun j _ => by rw [hS2]) (by rw [hS2]; exact hp0.2.1) (by decide) (by decide) (by decide) (by decide) (by decide) hS0)
        · have hC1 : CR (s1 4) (s1 0 56) (bn (s1 23) (s1 0 58) + 1) := hC.eq rfl (by omega)
          refine s_nots (σ := s1)  hC1 (show 0 ≤ s1 0 56 ∧ 0 ≤ s1 0 58 ∧ s1 0 56 + s1 0 58 ≤ 40 from by omega) (fun σ47 f47 p47 => ?_)
          have hF := hF.tr f47 (by decide) (by decide)
          have kt2_47 : σ47 2 = s1 2 := f47.1 2 (by decide) (by decide)
          have kt23_47 : σ47 23 = s1 23 := f47.1 23 (by decide) (by decide)
          have kp2_1_47 : σ47 2 1 = s1 2 1 := congrFun kt2_47 1
          have kf57_47 : σ47 0 57 = s1 0 57 := f47.2 57 (by decide)
          have kf60_47 : σ47 0 60 = s1 0 60 := f47.2 60 (by decide)
          have kf11_47 : σ47 0 11 = s1 0 11 := f47.2 11 (by decide)
          have kf4_47 : σ47 0 4 = s1 0 4 := f47.2 4 (by decide)
          have kf3_47 : σ47 0 3 = s1 0 3 := f47.2 3 (by decide)
          have kf14_47 : σ47 0 14 = s1 0 14 := f47.2 14 (by decide)
          have hC : CR (σ47 4) (σ47 0 56) (bn (σ47 23) (σ47 0 58) + σ47 0 60) := by rw [kt23_47]; exact p47.1.eq rfl (by omega)
          have y47 : 0 ≤ σ47 0 56 ∧ 0 ≤ σ47 0 58 ∧ σ47 0 56 + σ47 0 58 = s1 0 56 + s1 0 58 := p47.2
          have hS2 : σ47 2 = σ 2 := (f47.1 2 (by decide) (by decide)).trans hS2
          have hS0 : σ47 0 2 = 0 := (f47.2 2 (by decide)).trans hS0
          have hC1 : CR (σ47 4) (σ47 0 56) (bn (σ47 23) (σ47 0 58) + 1) := hC.eq rfl (by omega)
          refine s_joins (σ := σ47) (till := 12) hC1 (show 0 ≤ σ47 0 56 ∧ 0 ≤ σ47 0 58 ∧ σ47 0 56 + σ47 0 58 ≤ 40 from by omega) (fun σ48 f48 p48 => ?_)
          have hF := hF.tr f48 (by decide) (by decide)
          have kt2_48 : σ48 2 = σ47 2 := f48.1 2 (by decide) (by decide)
          have kt23_48 : σ48 23 = σ47 23 := f48.1 23 (by decide) (by decide)
          have kp2_1_48 : σ48 2 1 = σ47 2 1 := congrFun kt2_48 1
          have kf57_48 : σ48 0 57 = σ47 0 57 := f48.2 57 (by decide)
          have kf60_48 : σ48 0 60 = σ47 0 60 := f48.2 60 (by decide)
          have kf11_48 : σ48 0 11 = σ47 0 11 := f48.2 11 (by decide)
          have kf4_48 : σ48 0 4 = σ47 0 4 := f48.2 4 (by decide)
          have kf3_48 : σ48 0 3 = σ47 0 3 := f48.2 3 (by decide)
          have kf14_48 : σ48 0 14 = σ47 0 14 := f48.2 14 (by decide)
          have hC : CR (σ48 4) (σ48 0 56) (bn (σ48 23) (σ48 0 58) + σ48 0 60) := by rw [kt23_48]; exact p48.1.eq rfl (by omega)
          have y48 : 0 ≤ σ48 0 56 ∧ 0 ≤ σ48 0 58 ∧ σ48 0 56 + σ48 0 58 = σ47 0 56 + σ47 0 58 := p48.2.1
          have u48 := p48.2.2; rw [← kt23_48] at u48
          have hS2 : σ48 2 = σ 2 := (f48.1 2 (by decide) (by decide)).trans hS2
          have hS0 : σ48 0 2 = 0 := (f48.2 2 (by decide)).trans hS0
          intro v49 e49 l49 h49
          have e49 : v49 = σ48 0 58 := e49
          refine And.intro (fun c50 => ?_) (fun c50 => ?_)
          · refine And.intro (Nat.le_of_ble_eq_true rfl) ?_
            show xw _ _ _ _ _ _ _ _ _ _ [xvr 0, xvi 0, xvu] _ _
            exact ih_48 _ (show (3 * (940 - (σ48 0 4)) + (if 1 ≤ (σ48 0 11) ∧ (σ48 0 11) ≤ 3 then 1 else 0) + 0).toNat < m48 from by split <;> split at hm_48 <;> omega) 0 σ48 rfl ⟨hF, hS2, hS0, hC, by omega, by omega, by omega⟩
          · refine s_badF (σ := σ48) (kind := 1) (fun r51 σ51 f51 p51 => ?_)
            have p51 : r51 = 0 := p51
            have hF := hF.tr f51 (by decide) (by decide)
            have hS2 : σ51 2 = σ 2 := (f51.1 2 (by decide) (by decide)).trans hS2
            have hS0 : σ51 0 2 = 0 := (f51.2 2 (by decide)).trans hS0
            intro v52 e52 l52 h52
            have e52 : v52 = σ51 0 16 := e52
            intro z53 t53 e53 l53 h53
            try have w53 : t53 = 0 := by omega
            refine And.intro rfl ?_
            exact hQ _ _ (RZ.co hp0 hF (fun j _ => by rw [hS2]) (by rw [hS2]; exact hp0.2.1) (by decide) (by decide) (by decide) (by decide) (by decide) hS0)
  exact lp_48 _ 1 σ9 rfl ⟨hF, hS2, hS0, CR.z (by omega) (by rw [show σ9 0 58 = 0 from by omega, show σ9 0 60 = 0 from by omega]; rfl), by omega, by omega, by omega⟩
set_option maxHeartbeats 4000000 in
set_option maxRecDepth 100000 in
theorem s_isLeaf {σ : xS} {kind what sign0 n : Int} {Q : Option xV → xS → Prop} (hI : RI σ) (hp0 : 0 ≤ kind ∧ kind ≤ 12) (hp1 : what = 1 ∨ what = 2 → 0 ≤ n ∧ n ≤ 5) (hQ : ∀ r : Int, (r = 0 ∨ r = 1) → Q (some (xvi r)) σ) : xT kX11_isLeaf [xvr 0, xvi kind, xvi what, xvi sign0, xvi n] σ Q := by
  refine ⟨Nat.le_of_ble_eq_true rfl, fun X hX => ?_⟩
  show X 0 [xvr 0, xvi kind, xvi what, xvi sign0, xvi n, xvu, xvu, xvu] σ
  have hI : RK σ σ := RK.rf hI
  have hb0 := hI.1.kinds; have hb1 := hI.1.persons
  refine hX 400 0 _ _ ?_
  refine And.intro (fun c1 => ?_) (fun c1 => ?_)
  · refine And.intro (fun c2 => ?_) (fun c2 => ?_)
    · refine And.intro (fun c3 => ?_) (fun c3 => ?_)
      · refine And.intro (Nat.le_of_ble_eq_true rfl) ?_
        show xw _ _ _ _ _ _ _ _ _ _ [xvr 0, xvi kind, xvi what, xvi sign0, xvi n, xvi 0, xvu, xvu] _ _
        refine And.intro (Nat.le_of_ble_eq_true rfl) ?_
        show xw _ _ _ _ _ _ _ _ _ _ [xvr 0, xvi kind, xvi what, xvi sign0, xvi n, xvi 0, xvi 0, xvu] _ _
        have lp_81 : ∀ (m81 : Nat) (hp : Int) (i : Int), ((52 - i).toNat) = m81 → (0 ≤ i ∧ i ≤ 52) → X 81 [xvr 0, xvi kind, xvi what, xvi sign0, xvi n, xvi hp, xvi i, xvu] σ := by
          intro m81
          induction m81 using Nat.strongRecOn with
          | _ m81 ih_81 =>
          intro hp i hm_81 hv_81
          refine hX 400 81 _ _ ?_
          refine And.intro (rfl) (And.intro (⟨by omega, by omega⟩) ?_)
          intro v5 e5 l5 h5
          have e5 : v5 = σ 2 7 := e5
          have rv5 : 0 ≤ (σ 2 7) ∧ (σ 2 7) ≤ 52 := hI.1.heaped
          refine And.intro (fun c6 => ?_) (fun c6 => ?_)
          · refine And.intro (Nat.le_of_ble_eq_true rfl) ?_
            show xw _ _ _ _ _ _ _ _ _ _ [xvr 0, xvi kind, xvi what, xvi sign0, xvi n, xvi hp, xvi 0, xvu] _ _
            refine And.intro (Nat.le_of_ble_eq_true rfl) ?_
            show xw _ _ _ _ _ _ _ _ _ _ [xvr 0, xvi kind, xvi what, xvi sign0, xvi n, xvi hp, xvi 0, xvi 0] _ _
            have lp_129 : ∀ (m129 : Nat) (mo : Int) (k : Int), ((6 - k).toNat) = m129 → (0 ≤ k ∧ k ≤ 6) → X 129 [xvr 0, xvi kind, xvi what, xvi sign0, xvi n, xvi hp, xvi mo, xvi k] σ := by
              intro m129
              induction m129 using Nat.strongRecOn with
              | _ m129 ih_129 =>
              intro mo k hm_129 hv_129
              refine hX 400 129 _ _ ?_
              refine And.intro (rfl) (And.intro (⟨by omega, by omega⟩) ?_)
              intro v8 e8 l8 h8
              have e8 : v8 = σ 2 1 := e8
              have rv8 : 0 ≤ (σ 2 1) ∧ (σ 2 1) ≤ 6 := hI.1.persons
              refine And.intro (fun c9 => ?_) (fun c9 => ?_)
              · refine And.intro (fun c10 => ?_) (fun c10 => ?_)
                · refine And.intro (fun c11 => ?_) (fun c11 => ?_)
                  · refine And.intro (fun c12 => ?_) (fun c12 => ?_)
                    · refine And.intro (Nat.le_of_ble_eq_true rfl) ?_
                      show xw _ _ _ _ _ _ _ _ _ _ [xvr 0, xvi kind, xvi what, xvi sign0, xvi n, xvi hp, xvi mo, xvi kind] _ _
                      refine And.intro (fun c13 => ?_) (fun c13 => ?_)
                      · refine And.intro (fun c14 => ?_) (fun c14 => ?_)
                        · refine And.intro (fun c15 => ?_) (fun c15 => ?_)
                          · refine And.intro rfl ?_
                            refine And.intro (by omega) ?_
                            exact hQ _ (show 0 = 0 ∨ 0 = 1 from by first | trivial | omega)
                          · refine And.intro rfl ?_
                            refine And.intro (by omega) ?_
                            exact hQ _ (show 1 = 0 ∨ 1 = 1 from by first | trivial | omega)
                        · refine And.intro (fun c16 => ?_) (fun c16 => ?_)
                          · refine And.intro rfl ?_
                            refine And.intro (by omega) ?_
                            exact hQ _ (show 0 = 0 ∨ 0 = 1 from by first | trivial | omega)
                          · refine And.intro rfl ?_
                            refine And.intro (by omega) ?_
                            exact hQ _ (show 1 = 0 ∨ 1 = 1 from by first | trivial | omega)
                      · refine And.intro (fun c17 => ?_) (fun c17 => ?_)
                        · refine And.intro rfl ?_
                          refine And.intro (by omega) ?_
                          exact hQ _ (show 0 = 0 ∨ 0 = 1 from by first | trivial | omega)
                        · refine And.intro rfl ?_
                          refine And.intro (by omega) ?_
                          exact hQ _ (show 1 = 0 ∨ 1 = 1 from by first | trivial | omega)
                    · refine And.intro (Nat.le_of_ble_eq_true rfl) ?_
                      show xw _ _ _ _ _ _ _ _ _ _ [xvr 0, xvi kind, xvi what, xvi sign0, xvi n, xvi hp, xvi mo, xvi mo] _ _
                      refine And.intro (fun c18 => ?_) (fun c18 => ?_)
                      · refine And.intro (fun c19 => ?_) (fun c19 => ?_)
                        · refine And.intro (fun c20 => ?_) (fun c20 => ?_)
                          · refine And.intro rfl ?_
                            refine And.intro (by omega) ?_
                            exact hQ _ (show 0 = 0 ∨ 0 = 1 from by first | trivial | omega)
                          · refine And.intro rfl ?_
                            refine And.intro (by omega) ?_
                            exact hQ _ (show 1 = 0 ∨ 1 = 1 from by first | trivial | omega)
                        · refine And.intro (fun c21 => ?_) (fun c21 => ?_)
                          · refine And.intro rfl ?_
                            refine And.intro (by omega) ?_
                            exact hQ _ (show 0 = 0 ∨ 0 = 1 from by first | trivial | omega)
                          · refine And.intro rfl ?_
                            refine And.intro (by omega) ?_
                            exact hQ _ (show 1 = 0 ∨ 1 = 1 from by first | trivial | omega)
                      · refine And.intro (fun c22 => ?_) (fun c22 => ?_)
                        · refine And.intro rfl ?_
                          refine And.intro (by omega) ?_
                          exact hQ _ (show 0 = 0 ∨ 0 = 1 from by first | trivial | omega)
                        · refine And.intro rfl ?_
                          refine And.intro (by omega) ?_
                          exact hQ _ (show 1 = 0 ∨ 1 = 1 from by first | trivial | omega)
                  · refine And.intro (Nat.le_of_ble_eq_true rfl) ?_
                    show xw _ _ _ _ _ _ _ _ _ _ [xvr 0, xvi kind, xvi what, xvi sign0, xvi n, xvi hp, xvi mo, xvi hp] _ _
                    refine And.intro (fun c23 => ?_) (fun c23 => ?_)
                    · refine And.intro (fun c24 => ?_) (fun c24 => ?_)
                      · refine And.intro (fun c25 => ?_) (fun c25 => ?_)
                        · refine And.intro rfl ?_
                          refine And.intro (by omega) ?_
                          exact hQ _ (show 0 = 0 ∨ 0 = 1 from by first | trivial | omega)
                        · refine And.intro rfl ?_
                          refine And.intro (by omega) ?_
                          exact hQ _ (show 1 = 0 ∨ 1 = 1 from by first | trivial | omega)
                      · refine And.intro (fun c26 => ?_) (fun c26 => ?_)
                        · refine And.intro rfl ?_
                          refine And.intro (by omega) ?_
                          exact hQ _ (show 0 = 0 ∨ 0 = 1 from by first | trivial | omega)
                        · refine And.intro rfl ?_
                          refine And.intro (by omega) ?_
                          exact hQ _ (show 1 = 0 ∨ 1 = 1 from by first | trivial | omega)
                    · refine And.intro (fun c27 => ?_) (fun c27 => ?_)
                      · refine And.intro rfl ?_
                        refine And.intro (by omega) ?_
                        exact hQ _ (show 0 = 0 ∨ 0 = 1 from by first | trivial | omega)
                      · refine And.intro rfl ?_
                        refine And.intro (by omega) ?_
                        exact hQ _ (show 1 = 0 ∨ 1 = 1 from by first | trivial | omega)
                · refine s_inHands (σ := σ) (kind := kind) hI.1 (show 0 ≤ kind ∧ kind ≤ 12 from by omega) (fun r28 => ?_)
                  refine And.intro (Nat.le_of_ble_eq_true rfl) ?_
                  show xw _ _ _ _ _ _ _ _ _ _ [xvr 0, xvi kind, xvi what, xvi sign0, xvi n, xvi hp, xvi mo, xvi r28] _ _
                  refine And.intro (fun c29 => ?_) (fun c29 => ?_)
                  · refine And.intro (fun c30 => ?_) (fun c30 => ?_)
                    · refine And.intro (fun c31 => ?_) (fun c31 => ?_)
                      · refine And.intro rfl ?_
                        refine And.intro (by omega) ?_
                        exact hQ _ (show 0 = 0 ∨ 0 = 1 from by first | trivial | omega)
                      · refine And.intro rfl ?_
                        refine And.intro (by omega) ?_
                        exact hQ _ (show 1 = 0 ∨ 1 = 1 from by first | trivial | omega)
                    · refine And.intro (fun c32 => ?_) (fun c32 => ?_)
                      · refine And.intro rfl ?_
                        refine And.intro (by omega) ?_
                        exact hQ _ (show 0 = 0 ∨ 0 = 1 from by first | trivial | omega)
                      · refine And.intro rfl ?_
                        refine And.intro (by omega) ?_
                        exact hQ _ (show 1 = 0 ∨ 1 = 1 from by first | trivial | omega)
                  · refine And.intro (fun c33 => ?_) (fun c33 => ?_)
                    · refine And.intro rfl ?_
                      refine And.intro (by omega) ?_
                      exact hQ _ (show 0 = 0 ∨ 0 = 1 from by first | trivial | omega)
                    · refine And.intro rfl ?_
                      refine And.intro (by omega) ?_
                      exact hQ _ (show 1 = 0 ∨ 1 = 1 from by first | trivial | omega)
              · refine s_hand0 (σ := σ) (k := k) (kind := kind) hI.1 (show 0 ≤ k ∧ k ≤ 5 from by omega) (show 0 ≤ kind ∧ kind ≤ 12 from by omega) (fun r34 p34 => ?_)
                have p34 : r34 = σ 2 (60 + 13 * k + kind).toNat ∧ 0 ≤ r34 ∧ r34 ≤ 4 := p34
                refine And.intro (fun c35 => ?_) (fun c35 => ?_)
                · refine And.intro (Nat.le_of_ble_eq_true rfl) ?_
                  show xw _ _ _ _ _ _ _ _ _ _ [xvr 0, xvi kind, xvi what, xvi sign0, xvi n, xvi hp, xvi mo, xvi k] _ _
                  intro z36 t36 e36 l36 h36
                  try have w36 : t36 = 0 := by omega
                  show xw _ _ _ _ _ _ _ _ _ _ [xvr 0, xvi kind, xvi what, xvi sign0, xvi n, xvi hp, xvi mo, xvi z36] _ _
                  exact ih_129 _ (show (6 - z36).toNat < m129 from by omega) mo z36 rfl (show 0 ≤ z36 ∧ z36 ≤ 6 from by first | trivial | omega | (refine ⟨by assumption, ?_⟩; omega) | (refine ⟨?_, ?_⟩ <;> omega))
                · refine s_hand0 (σ := σ) (k := k) (kind := kind) hI.1 (show 0 ≤ k ∧ k ≤ 5 from by omega) (show 0 ≤ kind ∧ kind ≤ 12 from by omega) (fun r37 p37 => ?_)
                  have p37 : r37 = σ 2 (60 + 13 * k + kind).toNat ∧ 0 ≤ r37 ∧ r37 ≤ 4 := p37
                  refine And.intro (Nat.le_of_ble_eq_true rfl) ?_
                  show xw _ _ _ _ _ _ _ _ _ _ [xvr 0, xvi kind, xvi what, xvi sign0, xvi n, xvi hp, xvi r37, xvi k] _ _
                  intro z38 t38 e38 l38 h38
                  try have w38 : t38 = 0 := by omega
                  show xw _ _ _ _ _ _ _ _ _ _ [xvr 0, xvi kind, xvi what, xvi sign0, xvi n, xvi hp, xvi r37, xvi z38] _ _
                  exact ih_129 _ (show (6 - z38).toNat < m129 from by omega) r37 z38 rfl (show 0 ≤ z38 ∧ z38 ≤ 6 from by first | trivial | omega | (refine ⟨by assumption, ?_⟩; omega) | (refine ⟨?_, ?_⟩ <;> omega))
            exact lp_129 _ 0 0 rfl (show 0 ≤ 0 ∧ 0 ≤ 6 from by first | trivial | omega | (refine ⟨by assumption, ?_⟩; omega) | (refine ⟨?_, ?_⟩ <;> omega))
          · intro z39 t39 e39 l39 h39
            try have w39 : t39 = 0 := by omega
            refine And.intro (rfl) (And.intro (⟨by omega, by omega⟩) ?_)
            intro v40 e40 l40 h40
            have e40 : v40 = σ 2 z39.toNat := e40
            have rv40 : 0 ≤ σ 2 z39.toNat ∧ σ 2 z39.toNat < σ 2 0 := hI.1.heapI (z := z39) (by omega) (show z39 < 8 + σ 2 7 from by omega)
            refine And.intro (fun c41 => ?_) (fun c41 => ?_)
            · intro z42 t42 e42 l42 h42
              try have w42 : t42 = 0 := by omega
              refine And.intro (Nat.le_of_ble_eq_true rfl) ?_
              show xw _ _ _ _ _ _ _ _ _ _ [xvr 0, xvi kind, xvi what, xvi sign0, xvi n, xvi z42, xvi i, xvu] _ _
              intro z43 t43 e43 l43 h43
              try have w43 : t43 = 0 := by omega
              show xw _ _ _ _ _ _ _ _ _ _ [xvr 0, xvi kind, xvi what, xvi sign0, xvi n, xvi z42, xvi z43, xvu] _ _
              exact ih_81 _ (show (52 - z43).toNat < m81 from by omega) z42 z43 rfl (show 0 ≤ z43 ∧ z43 ≤ 52 from by first | trivial | omega | (refine ⟨by assumption, ?_⟩; omega) | (refine ⟨?_, ?_⟩ <;> omega))
            · intro z44 t44 e44 l44 h44
              try have w44 : t44 = 0 := by omega
              refine And.intro (Nat.le_of_ble_eq_true rfl) ?_
              show xw _ _ _ _ _ _ _ _ _ _ [xvr 0, xvi kind, xvi what, xvi sign0, xvi n, xvi z44, xvi i, xvu] _ _
              intro z45 t45 e45 l45 h45
              try have w45 : t45 = 0 := by omega
              show xw _ _ _ _ _ _ _ _ _ _ [xvr 0, xvi kind, xvi what, xvi sign0, xvi n, xvi z44, xvi z45, xvu] _ _
              exact ih_81 _ (show (52 - z45).toNat < m81 from by omega) z44 z45 rfl (show 0 ≤ z45 ∧ z45 ≤ 52 from by first | trivial | omega | (refine ⟨by assumption, ?_⟩; omega) | (refine ⟨?_, ?_⟩ <;> omega))
        exact lp_81 _ 0 0 rfl (show 0 ≤ 0 ∧ 0 ≤ 52 from by first | trivial | omega | (refine ⟨by assumption, ?_⟩; omega) | (refine ⟨?_, ?_⟩ <;> omega))
      · refine s_hand0 (σ := σ) (k := n) (kind := kind) hI.1 (show 0 ≤ n ∧ n ≤ 5 from by omega) (show 0 ≤ kind ∧ kind ≤ 12 from by omega) (fun r46 p46 => ?_)
        have p46 : r46 = σ 2 (60 + 13 * n + kind).toNat ∧ 0 ≤ r46 ∧ r46 ≤ 4 := p46
        refine And.intro (fun c47 => ?_) (fun c47 => ?_)
        · refine And.intro rfl ?_
          refine And.intro (by omega) ?_
          exact hQ _ (show 0 = 0 ∨ 0 = 1 from by first | trivial | omega)
        · refine And.intro rfl ?_
          refine And.intro (by omega) ?_
          exact hQ _ (show 1 = 0 ∨ 1 = 1 from by first | trivial | omega)
    · intro z48 t48 e48 l48 h48
      try have w48 : t48 = 0 := by omega
      intro z49 t49 e49 l49 h49
      try have w49 : t49 = 0 := by omega
      intro z50 t50 e50 l50 h50
      try have w50 : t50 = 0 := by omega
      refine And.intro (rfl) (And.intro (⟨by omega, by omega⟩) ?_)
      intro v51 e51 l51 h51
      have e51 : v51 = σ 2 z50.toNat := e51
      have rv51 : 0 ≤ σ 2 z50.toNat ∧ σ 2 z50.toNat ≤ 4 := hI.1.knI (z := z50) (by omega) (by omega)
      refine And.intro (fun c52 => ?_) (fun c52 => ?_)
      · refine And.intro rfl ?_
        refine And.intro (by omega) ?_
        exact hQ _ (show 0 = 0 ∨ 0 = 1 from by first | trivial | omega)
      · refine And.intro rfl ?_
        refine And.intro (by omega) ?_
        exact hQ _ (show 1 = 0 ∨ 1 = 1 from by first | trivial | omega)
  · intro z53 t53 e53 l53 h53
    try have w53 : t53 = 0 := by omega
    refine And.intro (rfl) (And.intro (⟨by omega, by omega⟩) ?_)
    intro v54 e54 l54 h54
    have e54 : v54 = σ 2 z53.toNat := e54
    have rv54 : 0 ≤ σ 2 z53.toNat ∧ σ 2 z53.toNat ≤ 6 := hI.1.bookI (z := z53) (by omega) (by omega)
    refine And.intro (fun c55 => ?_) (fun c55 => ?_)
    · refine And.intro rfl ?_
      refine And.intro (by omega) ?_
      exact hQ _ (show 0 = 0 ∨ 0 = 1 from by first | trivial | omega)
    · refine And.intro rfl ?_
      refine And.intro (by omega) ?_
      exact hQ _ (show 1 = 0 ∨ 1 = 1 from by first | trivial | omega)
set_option maxHeartbeats 4000000 in
set_option maxRecDepth 100000 in
theorem s_isSaid {σ : xS} {k : Int} {Q : Option xV → xS → Prop} (hp0 : RI σ) (hp1 : 0 ≤ k ∧ k ≤ 12) (hp2 : 1 ≤ σ 2 584) (hQ : ∀ r : Int, ∀ σ' : xS, Fr [24] [] σ σ' → (r = 0 ∨ r = 1) → Q (some (xvi r)) σ') : xT kX11_isSaid [xvr 0, xvi k] σ Q := by
  refine ⟨Nat.le_of_ble_eq_true rfl, fun X hX => ?_⟩
  show X 0 [xvr 0, xvi k, xvu, xvu, xvu] σ
  have hF : Fr [24] [] σ σ := Fr.rf
  refine hX 400 0 _ _ ?_
  have hI : RK σ σ := RK.rf hp0
  obtain ⟨d, hD1, hD2, hD3⟩ := hp0.2.1.d
  have hl40 := hp0.2.1.1
  refine And.intro (Nat.le_of_ble_eq_true rfl) ?_
  show xw _ _ _ _ _ _ _ _ _ _ [xvr 0, xvi k, xvi 0, xvu, xvu] _ _
  refine And.intro (Nat.le_of_ble_eq_true rfl) ?_
  show xw _ _ _ _ _ _ _ _ _ _ [xvr 0, xvi k, xvi 0, xvi 0, xvu] _ _
  have lp_4 : ∀ (m4 : Nat) (n : Int) (i : Int) (u1_4 : xV) (s1 : xS), ((40 - i).toNat) = m4 → (Fr [24] [] σ s1 ∧ (0 ≤ i ∧ i ≤ σ 2 584) ∧ n = d i.toNat ∧ (0 ≤ n ∧ n ≤ i) ∧ (1 ≤ i → 0 ≤ s1 24 0 ∧ s1 24 0 ≤ 1)) → X 4 [xvr 0, xvi k, xvi n, xvi i, u1_4] s1 := by
    intro m4
    induction m4 using Nat.strongRecOn with
    | _ m4 ih_4 =>
    intro n i u1_4 s1 hm_4 hv_4
    obtain ⟨hF, hi, hn, hn2, hT⟩ := hv_4
    have hs2 : s1 2 = σ 2 := hF.1 2 (by decide) (by decide)
    have hI : RK σ s1 := (RK.rf hp0).fr hF (by decide) (by decide) (by decide) (by decide) (by decide) (by decide) (by decide)
    have h584 : s1 2 584 = σ 2 584 := by rw [hs2]
    refine hX 400 4 _ _ ?_
    refine And.intro (rfl) (And.intro (⟨by omega, by omega⟩) ?_)
    intro v2 e2 l2 h2
    have e2 : v2 = s1 2 584 := e2
    refine And.intro (fun c3 => ?_) (fun c3 => ?_)
    · refine And.intro (Or.inr rfl) (And.intro (⟨by omega, by omega⟩) ?_)
      intro v4 e4 l4 h4
      have e4 : v4 = s1 24 0 := e4
      refine And.intro rfl ?_
      refine And.intro (by omega) ?_
      exact hQ _ _ hF (by omega)
    · intro z5 t5 e5 l5 h5
      try have w5 : t5 = 0 := by omega
      intro z6 t6 e6 l6 h6
      try have w6 : t6 = 0 := by omega
      refine And.intro (Nat.le_of_ble_eq_true rfl) ?_
      show xw _ _ _ _ _ _ _ _ _ _ [xvr 0, xvi k, xvi n, xvi i, xvi z6] _ _
      have hc := hD2 i.toNat (by omega)
      have hc3 := hD3 i.toNat (by omega)
      unfold CC at hc
      rw [show 585 + 3 * i.toNat = z6.toNat from by omega, show 587 + 3 * i.toNat = (z6 + 2).toNat from by omega, ← hs2] at hc
      refine And.intro (rfl) (And.intro (⟨by omega, by omega⟩) ?_)
      intro v7 e7 l7 h7
      have e7 : v7 = s1 2 z6.toNat := e7
      refine And.intro (fun c8 => ?_) (fun c8 => ?_)
      · have lp_88 : ∀ (_ : Unit), (s1 2 z6.toNat = 11 ∨ s1 2 z6.toNat = 12) → X 88 [xvr 0, xvi k, xvi n, xvi i, xvi z6] s1 := by
          intro _ hv_88
          refine hX 400 88 _ _ ?_
          intro z10 t10 e10 l10 h10
          try have w10 : t10 = 0 := by omega
          show xw _ _ _ _ _ _ _ _ _ _ [xvr 0, xvi k, xvi z10, xvi i, xvi z6] _ _
          intro z11 t11 e11 l11 h11
          try have w11 : t11 = 0 := by omega
          refine And.intro (rfl) (And.intro (⟨by omega, by omega⟩) ?_)
          intro v12 e12 l12 h12
          have e12 : v12 = s1 2 z6.toNat := e12
          refine And.intro (fun c13 => ?_) (fun c13 => ?_)
          · intro z14 t14 e14 l14 h14
            try have w14 : t14 = 0 := by omega
            refine And.intro (Or.inr rfl) (And.intro (⟨by omega, by omega⟩) ?_)
            intro v15 e15 l15 h15
            have e15 : v15 = s1 24 z14.toNat := e15
            refine And.intro (fun c16 => ?_) (fun c16 => ?_)
            · refine And.intro (Or.inr rfl) (And.intro (⟨by omega, by omega⟩) ?_)
              have hF := hF.pt (t := 24) (j := z11.toNat) (v := xbool 1) (by decide) (by decide)
              refine hX 400 206 _ _ ?_
              intro z18 t18 e18 l18 h18
              try have w18 : t18 = 0 := by omega
              show xw _ _ _ _ _ _ _ _ _ _ [xvr 0, xvi k, xvi z10, xvi z18, xvi z6] _ _
              exact ih_4 _ (show (40 - z18).toNat < m4 from by omega) z10 z18 (xvi z6) (xput s1 24 z11.toNat (xbool 1)) rfl ⟨hF, (by omega), (by have z := hD3 (i.toNat + 1) (by omega); rw [show z18.toNat = i.toNat + 1 from by omega]; omega), (by omega), (fun _ => by
                        by_cases e : z11.toNat = 0
                        · rw [e, xput_s]; exact xboolb _
                        · rw [xput_o (by omega)]; exact hT (by omega))⟩
            · refine And.intro (Or.inr rfl) (And.intro (⟨by omega, by omega⟩) ?_)
              intro v19 e19 l19 h19
              have e19 : v19 = s1 24 z10.toNat := e19
              refine And.intro (fun c20 => ?_) (fun c20 => ?_)
              · refine And.intro (Or.inr rfl) (And.intro (⟨by omega, by omega⟩) ?_)
                have hF := hF.pt (t := 24) (j := z11.toNat) (v := xbool 0) (by decide) (by decide)
                refine hX 400 206 _ _ ?_
                intro z22 t22 e22 l22 h22
                try have w22 : t22 = 0 := by omega
                show xw _ _ _ _ _ _ _ _ _ _ [xvr 0, xvi k, xvi z10, xvi z22, xvi z6] _ _
                exact ih_4 _ (show (40 - z22).toNat < m4 from by omega) z10 z22 (xvi z6) (xput s1 24 z11.toNat (xbool 0)) rfl ⟨hF, (by omega), (by have z := hD3 (i.toNat + 1) (by omega); rw [show z22.toNat = i.toNat + 1 from by omega]; omega), (by omega), (fun _ => by
                          by_cases e : z11.toNat = 0
                          · rw [e, xput_s]; exact xboolb _
                          · rw [xput_o (by omega)]; exact hT (by omega))⟩
              · refine And.intro (Or.inr rfl) (And.intro (⟨by omega, by omega⟩) ?_)
                have hF := hF.pt (t := 24) (j := z11.toNat) (v := xbool 1) (by decide) (by decide)
                refine hX 400 206 _ _ ?_
                intro z24 t24 e24 l24 h24
                try have w24 : t24 = 0 := by omega
                show xw _ _ _ _ _ _ _ _ _ _ [xvr 0, xvi k, xvi z10, xvi z24, xvi z6] _ _
                exact ih_4 _ (show (40 - z24).toNat < m4 from by omega) z10 z24 (xvi z6) (xput s1 24 z11.toNat (xbool 1)) rfl ⟨hF, (by omega), (by have z := hD3 (i.toNat + 1) (by omega); rw [show z24.toNat = i.toNat + 1 from by omega]; omega), (by omega), (fun _ => by
                          by_cases e : z11.toNat = 0
                          · rw [e, xput_s]; exact xboolb _
                          · rw [xput_o (by omega)]; exact hT (by omega))⟩
          · intro z25 t25 e25 l25 h25
            try have w25 : t25 = 0 := by omega
            refine And.intro (Or.inr rfl) (And.intro (⟨by omega, by omega⟩) ?_)
            intro v26 e26 l26 h26
            have e26 : v26 = s1 24 z25.toNat := e26
            refine And.intro (fun c27 => ?_) (fun c27 => ?_)
            · refine And.intro (Or.inr rfl) (And.intro (⟨by omega, by omega⟩) ?_)
              have hF := hF.pt (t := 24) (j := z11.toNat) (v := xbool 0) (by decide) (by decide)
              refine hX 400 206 _ _ ?_
              intro z29 t29 e29 l29 h29
              try have w29 : t29 = 0 := by omega
              show xw _ _ _ _ _ _ _ _ _ _ [xvr 0, xvi k, xvi z10, xvi z29, xvi z6] _ _
              exact ih_4 _ (show (40 - z29).toNat < m4 from by omega) z10 z29 (xvi z6) (xput s1 24 z11.toNat (xbool 0)) rfl ⟨hF, (by omega), (by have z := hD3 (i.toNat + 1) (by omega); rw [show z29.toNat = i.toNat + 1 from by omega]; omega), (by omega), (fun _ => by
                        by_cases e : z11.toNat = 0
                        · rw [e, xput_s]; exact xboolb _
                        · rw [xput_o (by omega)]; exact hT (by omega))⟩
            · refine And.intro (Or.inr rfl) (And.intro (⟨by omega, by omega⟩) ?_)
              intro v30 e30 l30 h30
              have e30 : v30 = s1 24 z10.toNat := e30
              refine And.intro (fun c31 => ?_) (fun c31 => ?_)
              · refine And.intro (Or.inr rfl) (And.intro (⟨by omega, by omega⟩) ?_)
                have hF := hF.pt (t := 24) (j := z11.toNat) (v := xbool 0) (by decide) (by decide)
                refine hX 400 206 _ _ ?_
                intro z33 t33 e33 l33 h33
                try have w33 : t33 = 0 := by omega
                show xw _ _ _ _ _ _ _ _ _ _ [xvr 0, xvi k, xvi z10, xvi z33, xvi z6] _ _
                exact ih_4 _ (show (40 - z33).toNat < m4 from by omega) z10 z33 (xvi z6) (xput s1 24 z11.toNat (xbool 0)) rfl ⟨hF, (by omega), (by have z := hD3 (i.toNat + 1) (by omega); rw [show z33.toNat = i.toNat + 1 from by omega]; omega), (by omega), (fun _ => by
                          by_cases e : z11.toNat = 0
                          · rw [e, xput_s]; exact xboolb _
                          · rw [xput_o (by omega)]; exact hT (by omega))⟩
              · refine And.intro (Or.inr rfl) (And.intro (⟨by omega, by omega⟩) ?_)
                have hF := hF.pt (t := 24) (j := z11.toNat) (v := xbool 1) (by decide) (by decide)
                refine hX 400 206 _ _ ?_
                intro z35 t35 e35 l35 h35
                try have w35 : t35 = 0 := by omega
                show xw _ _ _ _ _ _ _ _ _ _ [xvr 0, xvi k, xvi z10, xvi z35, xvi z6] _ _
                exact ih_4 _ (show (40 - z35).toNat < m4 from by omega) z10 z35 (xvi z6) (xput s1 24 z11.toNat (xbool 1)) rfl ⟨hF, (by omega), (by have z := hD3 (i.toNat + 1) (by omega); rw [show z35.toNat = i.toNat + 1 from by omega]; omega), (by omega), (fun _ => by
                          by_cases e : z11.toNat = 0
                          · rw [e, xput_s]; exact xboolb _
                          · rw [xput_o (by omega)]; exact hT (by omega))⟩
        refine And.intro (rfl) (And.intro (⟨by omega, by omega⟩) ?_)
        intro v36 e36 l36 h36
        have e36 : v36 = s1 2 z6.toNat := e36
        refine And.intro (fun c37 => ?_) (fun c37 => ?_)
        · exact lp_88 () (show s1 2 z6.toNat = 11 ∨ s1 2 z6.toNat = 12 from by first | trivial | omega | (refine ⟨by assumption, ?_⟩; omega) | (refine ⟨?_, ?_⟩ <;> omega))
        · refine And.intro (rfl) (And.intro (⟨by omega, by omega⟩) ?_)
          intro v38 e38 l38 h38
          have e38 : v38 = s1 2 z6.toNat := e38
          refine And.intro (fun c39 => ?_) (fun c39 => ?_)
          · refine And.intro (rfl) (And.intro (⟨by omega, by omega⟩) ?_)
            intro v40 e40 l40 h40
            have e40 : v40 = s1 2 z6.toNat := e40
            intro z41 t41 e41 l41 h41
            try have w41 : t41 = 0 := by omega
            refine And.intro (rfl) (And.intro (⟨by omega, by omega⟩) ?_)
            intro v42 e42 l42 h42
            have e42 : v42 = s1 2 z41.toNat := e42
            intro z43 t43 e43 l43 h43
            try have w43 : t43 = 0 := by omega
            refine And.intro (rfl) (And.intro (⟨by omega, by omega⟩) ?_)
            intro v44 e44 l44 h44
            have e44 : v44 = s1 2 z43.toNat := e44
            have wv44 : v44 = s1 2 (z6 + 2).toNat := by rw [e44, show z43 = z6 + 2 from by omega]
            refine s_isLeaf (σ := s1) (kind := k) (what := v40) (sign0 := v42) (n := v44) hI.1 (by omega) (by omega) (fun r45 p45 => ?_)
            refine And.intro (Or.inr rfl) (And.intro (⟨by omega, by omega⟩) ?_)
            have hF := hF.pt (t := 24) (j := n.toNat) (v := xbool r45) (by decide) (by decide)
            intro z47 t47 e47 l47 h47
            try have w47 : t47 = 0 := by omega
            show xw _ _ _ _ _ _ _ _ _ _ [xvr 0, xvi k, xvi z47, xvi i, xvi z6] _ _
            refine hX 400 206 _ _ ?_
            intro z48 t48 e48 l48 h48
            try have w48 : t48 = 0 := by omega
            show xw _ _ _ _ _ _ _ _ _ _ [xvr 0, xvi k, xvi z47, xvi z48, xvi z6] _ _
            exact ih_4 _ (show (40 - z48).toNat < m4 from by omega) z47 z48 (xvi z6) (xput s1 24 n.toNat (xbool r45)) rfl ⟨hF, (by omega), (by have z := hD3 (i.toNat + 1) (by omega); rw [show z48.toNat = i.toNat + 1 from by omega]; omega), (by omega), (fun _ => by
                      by_cases e : n.toNat = 0
                      · rw [e, xput_s]; exact xboolb _
                      · rw [xput_o (by omega)]; exact hT (by omega))⟩
          · exact lp_88 () (show s1 2 z6.toNat = 11 ∨ s1 2 z6.toNat = 12 from by first | trivial | omega | (refine ⟨by assumption, ?_⟩; omega) | (refine ⟨?_, ?_⟩ <;> omega))
      · intro z49 t49 e49 l49 h49
        try have w49 : t49 = 0 := by omega
        intro z50 t50 e50 l50 h50
        try have w50 : t50 = 0 := by omega
        refine And.intro (Or.inr rfl) (And.intro (⟨by omega, by omega⟩) ?_)
        intro v51 e51 l51 h51
        have e51 : v51 = s1 24 z50.toNat := e51
        refine And.intro (fun c52 => ?_) (fun c52 => ?_)
        · refine And.intro (Or.inr rfl) (And.intro (⟨by omega, by omega⟩) ?_)
          have hF := hF.pt (t := 24) (j := z49.toNat) (v := xbool 0) (by decide) (by decide)
          refine hX 400 206 _ _ ?_
          intro z54 t54 e54 l54 h54
          try have w54 : t54 = 0 := by omega
          show xw _ _ _ _ _ _ _ _ _ _ [xvr 0, xvi k, xvi n, xvi z54, xvi z6] _ _
          exact ih_4 _ (show (40 - z54).toNat < m4 from by omega) n z54 (xvi z6) (xput s1 24 z49.toNat (xbool 0)) rfl ⟨hF, (by omega), (by have z := hD3 (i.toNat + 1) (by omega); rw [show z54.toNat = i.toNat + 1 from by omega]; omega), (by omega), (fun _ => by
                    by_cases e : z49.toNat = 0
                    · rw [e, xput_s]; exact xboolb _
                    · rw [xput_o (by omega)]; exact hT (by omega))⟩
        · refine And.intro (Or.inr rfl) (And.intro (⟨by omega, by omega⟩) ?_)
          have hF := hF.pt (t := 24) (j := z49.toNat) (v := xbool 1) (by decide) (by decide)
          refine hX 400 206 _ _ ?_
          intro z56 t56 e56 l56 h56
          try have w56 : t56 = 0 := by omega
          show xw _ _ _ _ _ _ _ _ _ _ [xvr 0, xvi k, xvi n, xvi z56, xvi z6] _ _
          exact ih_4 _ (show (40 - z56).toNat < m4 from by omega) n z56 (xvi z6) (xput s1 24 z49.toNat (xbool 1)) rfl ⟨hF, (by omega), (by have z := hD3 (i.toNat + 1) (by omega); rw [show z56.toNat = i.toNat + 1 from by omega]; omega), (by omega), (fun _ => by
                    by_cases e : z49.toNat = 0
                    · rw [e, xput_s]; exact xboolb _
                    · rw [xput_o (by omega)]; exact hT (by omega))⟩
  exact lp_4 _ 0 0 (xvu) σ rfl ⟨hF, by omega, by rw [show (0 : Int).toNat = 0 from rfl, hD1], by omega, by omega⟩
set_option maxHeartbeats 4000000 in
set_option maxRecDepth 100000 in
theorem s_said {σ : xS} {k : Int} {Q : Option xV → xS → Prop} (hI : RI σ) (hQ : ∀ r : Int, ∀ σ' : xS, RK σ σ' → Q (some (xvi r)) σ') : xT kX11_said [xvr 0, xvi k] σ Q := by
  refine ⟨Nat.le_of_ble_eq_true rfl, fun X hX => ?_⟩
  show X 0 [xvr 0, xvi k, xvu, xvu] σ
  have hI : RK σ σ := RK.rf hI
  have hb0 := hI.1.kinds; have hb1 := hI.1.persons
  refine hX 400 0 _ _ ?_
  have hco := hI.1.2.1.1
  have hI := hI.p0 (j := 0) (v := 0) (by decide) (by decide) (by decide)
  refine And.intro (rfl) (And.intro (⟨by omega, by omega⟩) ?_)
  intro v2 e2 l2 h2
  have e2 : v2 = σ 2 584 := e2
  refine And.intro (fun c3 => ?_) (fun c3 => ?_)
  · refine hX 400 21 _ _ ?_
    refine And.intro rfl ?_
    exact hQ _ _ hI 
  · refine And.intro (fun c4 => ?_) (fun c4 => ?_)
    · refine And.intro (Nat.le_of_ble_eq_true rfl) ?_
      show xw _ _ _ _ _ _ _ _ _ _ [xvr 0, xvi k, xvi 0, xvu] _ _
      refine And.intro (Nat.le_of_ble_eq_true rfl) ?_
      show xw _ _ _ _ _ _ _ _ _ _ [xvr 0, xvi k, xvi 0, xvi 0] _ _
      have lp_27 : ∀ (m27 : Nat) (n : Int) (i : Int) (s1 : xS), ((13 - i).toNat) = m27 → (RK σ s1 ∧ s1 2 584 = σ 2 584 ∧ (0 ≤ i ∧ i ≤ 13)) → X 27 [xvr 0, xvi k, xvi n, xvi i] s1 := by
        intro m27
        induction m27 using Nat.strongRecOn with
        | _ m27 ih_27 =>
        intro n i s1 hm_27 hv_27
        obtain ⟨hI, h584, hv_27⟩ := hv_27
        have hk0 := hI.1.kinds
        refine hX 400 27 _ _ ?_
        refine And.intro (rfl) (And.intro (⟨by omega, by omega⟩) ?_)
        intro v6 e6 l6 h6
        have e6 : v6 = s1 2 0 := e6
        have rv6 : 0 ≤ (s1 2 0) ∧ (s1 2 0) ≤ 13 := hI.1.kinds
        refine And.intro (fun c7 => ?_) (fun c7 => ?_)
        · refine And.intro (fun c8 => ?_) (fun c8 => ?_)
          · refine And.intro rfl ?_
            exact hQ _ _ hI 
          · refine And.intro rfl ?_
            exact hQ _ _ hI 
        · refine s_isSaid (σ := s1) (k := i) hI.1 (by omega) (by omega) (fun r9 σ9 f9 p9 => ?_)
          have hI := hI.fr f9 (by decide) (by decide) (by decide) (by decide) (by decide) (by decide) (by decide)
          have w584 : σ9 2 584 = σ 2 584 := (congrFun (f9.1 2 (by decide) (by decide)) 584).trans h584
          refine And.intro (fun c10 => ?_) (fun c10 => ?_)
          · refine And.intro (fun c11 => ?_) (fun c11 => ?_)
            · intro z12 t12 e12 l12 h12
              try have w12 : t12 = 0 := by omega
              show xw _ _ _ _ _ _ _ _ _ _ [xvr 0, xvi k, xvi z12, xvi i] _ _
              refine hX 400 58 _ _ ?_
              intro z13 t13 e13 l13 h13
              try have w13 : t13 = 0 := by omega
              show xw _ _ _ _ _ _ _ _ _ _ [xvr 0, xvi k, xvi z12, xvi z13] _ _
              exact ih_27 _ (show (13 - z13).toNat < m27 from by omega) z12 z13 σ9 rfl ⟨hI, w584, by omega⟩
            · refine And.intro rfl ?_
              exact hQ _ _ hI 
          · refine hX 400 58 _ _ ?_
            intro z14 t14 e14 l14 h14
            try have w14 : t14 = 0 := by omega
            show xw _ _ _ _ _ _ _ _ _ _ [xvr 0, xvi k, xvi n, xvi z14] _ _
            exact ih_27 _ (show (13 - z14).toNat < m27 from by omega) n z14 σ9 rfl ⟨hI, w584, by omega⟩
      exact lp_27 _ 0 0 (xput σ 0 0 0) rfl ⟨hI, rfl, by omega⟩
    · refine hX 400 21 _ _ ?_
      refine And.intro rfl ?_
      exact hQ _ _ hI 
