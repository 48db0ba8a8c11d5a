theorem CO.eq9 {f f' : Nat → Int} (h : CO f) (a : ∀ i, 584 ≤ i → i < 765 → f' i = f i) : CO f' := by
  obtain ⟨h1, d, h2, h3⟩ := h
  refine ⟨by rw [a 584 (by omega) (by omega)]; exact h1, d, h2, fun i hi => ?_⟩
  rw [a 584 (by omega) (by omega)] at hi
  rw [a _ (by omega) (by omega), a _ (by omega) (by omega)]
  exact h3 i hi
theorem xb1 : xbool 1 = 1 := by decide +kernel
set_option maxHeartbeats 4000000 in
set_option maxRecDepth 100000 in
theorem s_image {σ : xS} {k : Int} {Q : Option xV → xS → Prop} (hp0 : RI σ) (hQ : ∀ r : Int, ∀ σ' : xS, ((0 ≤ k ∧ k ≤ 1) ∧ r = 1 ∧ RI σ' ∧ σ' 0 2 = σ 0 2 ∧ σ' 27 = up (σ 27) k.toNat 1 ∧ σ' 1 = σ 1 ∧ σ' 6 = σ 6) ∨ ((k < 0 ∨ 1 < k) ∧ r = 0 ∧ RK σ σ') → Q (some (xvi r)) σ') : xT kX11_image [xvr 0, xvi k] σ Q := by
  refine ⟨Nat.le_of_ble_eq_true rfl, fun X hX => ?_⟩
  show X 0 [xvr 0, xvi k, xvu] σ
  have hF : Fr [25, 26, 27] [0] σ σ := Fr.rf
  refine hX 400 0 _ _ ?_
  have hF := hF.p (j := 0) (v := 0) (by decide)
  refine s_isIn (σ := (xput σ 0 0 0)) (v := k) (low := 0) (high := 1)  (fun r2 p2 => ?_)
  have p2 : (r2 = 1 ∧ 0 ≤ k ∧ k ≤ 1) ∨ (r2 = 0 ∧ (k < 0 ∨ 1 < k)) := p2
  refine And.intro (fun c3 => ?_) (fun c3 => ?_)
  · replace p2 : 0 ≤ k ∧ k ≤ 1 := by
      rcases p2 with q | q
      · exact q.2
      · exact absurd q.1 (by omega)
    refine And.intro (Nat.le_of_ble_eq_true rfl) ?_
    show xw _ _ _ _ _ _ _ _ _ _ [xvr 0, xvi k, xvi 0] _ _
    have lp_18 : ∀ (m18 : Nat) (i : Int) (s1 : xS), ((765 - i).toNat) = m18 → (Fr [25, 26, 27] [0] σ s1 ∧ s1 27 = σ 27 ∧ (∀ j : Nat, (j : Int) < i → s1 25 (765 * k.toNat + j) = σ 2 j) ∧ (∀ j : Nat, (j < 765 * k.toNat ∨ 765 * k.toNat + 765 ≤ j) → s1 25 j = σ 25 j) ∧ (0 ≤ i ∧ i ≤ 765)) → X 18 [xvr 0, xvi k, xvi i] s1 := by
      intro m18
      induction m18 using Nat.strongRecOn with
      | _ m18 ih_18 =>
      intro i s1 hm_18 hv_18
      obtain ⟨hF, h27, hC, hO, hv_18⟩ := hv_18
      have hs2 : s1 2 = σ 2 := hF.1 2 (by decide) (by decide)
      refine hX 400 18 _ _ ?_
      refine And.intro (fun c5 => ?_) (fun c5 => ?_)
      · refine And.intro (Nat.le_of_ble_eq_true rfl) ?_
        show xw _ _ _ _ _ _ _ _ _ _ [xvr 0, xvi k, xvi 0] _ _
        have lp_51 : ∀ (m51 : Nat) (i2 : Int) (s2 : xS), ((6 - i2).toNat) = m51 → (Fr [25, 26, 27] [0] σ s2 ∧ s2 27 = σ 27 ∧ s2 25 = s1 25 ∧ (0 ≤ i2 ∧ i2 ≤ 6)) → X 51 [xvr 0, xvi k, xvi i2] s2 := by
          intro m51
          induction m51 using Nat.strongRecOn with
          | _ m51 ih_51 =>
          intro i2 s2 hm_51 hv_51
          obtain ⟨hF, h27, h25, hv_51⟩ := hv_51
          have hs2 : s2 2 = σ 2 := hF.1 2 (by decide) (by decide)
          have hF0 := hF
          refine hX 400 51 _ _ ?_
          refine And.intro (fun c7 => ?_) (fun c7 => ?_)
          · refine And.intro (Or.inr rfl) (And.intro (⟨by omega, by omega⟩) ?_)
            have hF := hF.pt (t := 27) (j := k.toNat) (v := xbool 1) (by decide) (by decide)
            refine And.intro rfl ?_
            refine And.intro (by omega) ?_
            refine hQ _ _ (Or.inl ⟨by omega, by omega, ?_, hF.2 2 (by decide), (by rw [xput_up, show k.toNat = k.toNat from by omega, h27, xb1]), hF.1 1 (by decide) (by decide), hF.1 6 (by decide) (by decide)⟩)
            obtain ⟨g1, g2, g3, g4, g5, g6, g7⟩ := hp0
            refine ⟨(by show VG (s2 2); rw [hs2]; exact g1), (by show CO (s2 2); rw [hs2]; exact g2), (by show 0 ≤ s2 0 2 ∧ s2 0 2 ≤ 940; rw [hF0.2 2 (by decide)]; exact g3), (by show 0 ≤ s2 0 27 ∧ s2 0 27 ≤ 8; rw [hF0.2 27 (by decide)]; exact g4), (fun j hj => by
              have hj : (j : Int) < s2 0 27 := hj
              rw [hF0.2 27 (by decide)] at hj
              show VG (blk (s2 2) (s2 8) j)
              rw [hs2, hF0.1 8 (by decide) (by decide)]
              exact g5 j hj), (by show 0 ≤ s2 0 37 ∧ s2 0 37 ≤ 65; rw [hF0.2 37 (by decide)]; exact g6), (fun j hj hk => ?_)⟩
            show VG (fun i => s2 25 (765 * j + i)) ∧ CO (fun i => s2 25 (765 * j + i))
            by_cases e : j = k.toNat
            · subst e
              have a : ∀ i, i < 765 → s2 25 (765 * k.toNat + i) = σ 2 i := fun i hi => by rw [h25]; exact hC i (by omega)
              refine ⟨g1.ag8 (fun i hi _ => a i (by omega)), g2.eq9 (fun i h1 h2 => a i h2)⟩
            · have a : (fun i => s2 25 (765 * j + i)) = fun i => if i < 765 then σ 25 (765 * j + i) else s2 25 (765 * j + i) := by
                funext i
                by_cases c : i < 765
                · rw [if_pos c, h25, hO _ (by omega)]
                · rw [if_neg c]
              have hk2 : ¬ σ 27 j = 0 := by
                intro z
                apply hk
                show xput s2 27 k.toNat (xbool 1) 27 j = 0
                rw [xput_o (by omega), h27]; exact z
              have g := g7 j hj hk2
              refine ⟨g.1.ag8 (fun i hi _ => ?_), g.2.eq9 (fun i h1 h2 => ?_)⟩
              · show s2 25 (765 * j + i) = σ 25 (765 * j + i)
                rw [h25, hO _ (by omega)]
              · show s2 25 (765 * j + i) = σ 25 (765 * j + i)
                rw [h25, hO _ (by omega)]
          · intro z9 t9 e9 l9 h9
            try have w9 : t9 = 0 := by omega
            intro z10 t10 e10 l10 h10
            try have w10 : t10 = 0 := by omega
            refine And.intro (rfl) (And.intro (⟨by omega, by omega⟩) ?_)
            intro v11 e11 l11 h11
            have e11 : v11 = s2 5 i2.toNat := e11
            refine And.intro rfl (And.intro (⟨by omega, by omega⟩) ?_)
            have hF := hF.pt (t := 26) (j := z10.toNat) (v := v11) (by decide) (by decide)
            intro z13 t13 e13 l13 h13
            try have w13 : t13 = 0 := by omega
            show xw _ _ _ _ _ _ _ _ _ _ [xvr 0, xvi k, xvi z13] _ _
            exact ih_51 _ (show (6 - z13).toNat < m51 from by omega) z13 (xput s2 26 z10.toNat v11) rfl ⟨hF, h27, h25, by omega⟩
        exact lp_51 _ 0 s1 rfl ⟨hF, h27, rfl, by omega⟩
      · intro z14 t14 e14 l14 h14
        try have w14 : t14 = 0 := by omega
        intro z15 t15 e15 l15 h15
        try have w15 : t15 = 0 := by omega
        refine And.intro (rfl) (And.intro (⟨by omega, by omega⟩) ?_)
        intro v16 e16 l16 h16
        have e16 : v16 = s1 2 i.toNat := e16
        refine And.intro (rfl) (And.intro (⟨by omega, by omega⟩) ?_)
        have hF := hF.pt (t := 25) (j := z15.toNat) (v := v16) (by decide) (by decide)
        intro z18 t18 e18 l18 h18
        try have w18 : t18 = 0 := by omega
        show xw _ _ _ _ _ _ _ _ _ _ [xvr 0, xvi k, xvi z18] _ _
        exact ih_18 _ (show (765 - z18).toNat < m18 from by omega) z18 (xput s1 25 z15.toNat v16) rfl ⟨hF, h27, (fun q hq => by
                  by_cases e : q = i.toNat
                  · rw [show 765 * k.toNat + q = z15.toNat from by omega, xput_s, e16, hs2]; rw [show q = i.toNat from by omega]
                  · rw [xput_o (by omega)]; exact hC q (by omega)), (fun q hq => by rw [xput_o (by omega)]; exact hO q hq), by omega⟩
    exact lp_18 _ 0 (xput σ 0 0 0) rfl ⟨hF, rfl, (fun j hj => by omega), (fun j _ => rfl), by omega⟩
  · replace p2 : (k < 0 ∨ 1 < k) := by
      rcases p2 with q | q
      · exact absurd q.1 (by omega)
      · exact q.2
    refine And.intro rfl ?_
    refine And.intro (by omega) ?_
    exact hQ _ _ (Or.inr ⟨by omega, by omega, (RK.rf hp0).p0 (by decide) (by decide) (by decide)⟩)
set_option maxHeartbeats 4000000 in
set_option maxRecDepth 100000 in
theorem s_restore {σ : xS} {k : Int} {Q : Option xV → xS → Prop} (hp0 : RI σ) (hQ : ∀ r : Int, ∀ σ' : xS, ((0 ≤ k ∧ k ≤ 1) ∧ ¬ σ 27 k.toNat = 0 ∧ r = 1 ∧ RI σ' ∧ σ' 0 2 = σ 0 2 ∧ σ' 27 = σ 27 ∧ σ' 1 = σ 1 ∧ σ' 6 = σ 6) ∨ (((k < 0 ∨ 1 < k) ∨ σ 27 k.toNat = 0) ∧ r = 0 ∧ RK σ σ') → Q (some (xvi r)) σ') : xT kX11_restore [xvr 0, xvi k] σ Q := by
  refine ⟨Nat.le_of_ble_eq_true rfl, fun X hX => ?_⟩
  show X 0 [xvr 0, xvi k, xvu] σ
  have hF : Fr [2, 5] [0, 27] σ σ := Fr.rf
  refine hX 400 0 _ _ ?_
  have hF := hF.p (j := 0) (v := 0) (by decide)
  refine s_isIn (σ := (xput σ 0 0 0)) (v := k) (low := 0) (high := 1)  (fun r2 p2 => ?_)
  have p2 : (r2 = 1 ∧ 0 ≤ k ∧ k ≤ 1) ∨ (r2 = 0 ∧ (k < 0 ∨ 1 < k)) := p2
  refine And.intro (fun c3 => ?_) (fun c3 => ?_)
  · replace p2 : (k < 0 ∨ 1 < k) := by
      rcases p2 with q | q
      · exact absurd q.1 (by omega)
      · exact q.2
    refine hX 400 23 _ _ ?_
    refine And.intro rfl ?_
    refine And.intro (by omega) ?_
    exact hQ _ _ (Or.inr ⟨by omega, (by omega), (RK.rf hp0).p0 (by decide) (by decide) (by decide)⟩)
  · replace p2 : 0 ≤ k ∧ k ≤ 1 := by
      rcases p2 with q | q
      · exact q.2
      · exact absurd q.1 (by omega)
    refine And.intro (Or.inr rfl) (And.intro (⟨by omega, by omega⟩) ?_)
    intro v4 e4 l4 h4
    have e4 : v4 = σ 27 k.toNat := e4
    have w27 : v4 = σ 27 k.toNat := by rw [e4]
    refine And.intro (fun c5 => ?_) (fun c5 => ?_)
    · refine And.intro (Nat.le_of_ble_eq_true rfl) ?_
      show xw _ _ _ _ _ _ _ _ _ _ [xvr 0, xvi k, xvi 0] _ _
      have lp_27 : ∀ (m27 : Nat) (i : Int) (s1 : xS), ((765 - i).toNat) = m27 → (Fr [2, 5] [0, 27] σ s1 ∧ (∀ j : Nat, (j : Int) < i → s1 2 j = σ 25 (765 * k.toNat + j)) ∧ (0 ≤ i ∧ i ≤ 765)) → X 27 [xvr 0, xvi k, xvi i] s1 := by
        intro m27
        induction m27 using Nat.strongRecOn with
        | _ m27 ih_27 =>
        intro i s1 hm_27 hv_27
        obtain ⟨hF, hC, hv_27⟩ := hv_27
        have hs25 : s1 25 = σ 25 := hF.1 25 (by decide) (by decide)
        refine hX 400 27 _ _ ?_
        refine And.intro (fun c7 => ?_) (fun c7 => ?_)
        · refine And.intro (Nat.le_of_ble_eq_true rfl) ?_
          show xw _ _ _ _ _ _ _ _ _ _ [xvr 0, xvi k, xvi 0] _ _
          have lp_60 : ∀ (m60 : Nat) (i2 : Int) (s2 : xS), ((6 - i2).toNat) = m60 → (Fr [2, 5] [0, 27] σ s2 ∧ s2 2 = s1 2 ∧ (0 ≤ i2 ∧ i2 ≤ 6)) → X 60 [xvr 0, xvi k, xvi i2] s2 := by
            intro m60
            induction m60 using Nat.strongRecOn with
            | _ m60 ih_60 =>
            intro i2 s2 hm_60 hv_60
            obtain ⟨hF, hs2, hv_60⟩ := hv_60
            refine hX 400 60 _ _ ?_
            refine And.intro (fun c9 => ?_) (fun c9 => ?_)
            · have hF := hF.p (j := 27) (v := 0) (by decide)
              refine And.intro rfl ?_
              refine And.intro (by omega) ?_
              refine hQ _ _ (Or.inl ⟨by omega, (by omega), by omega, ?_, hF.2 2 (by decide), hF.1 27 (by decide) (by decide), hF.1 1 (by decide) (by decide), hF.1 6 (by decide) (by decide)⟩)
              obtain ⟨g1, g2, g3, g4, g5, g6, g7⟩ := hp0
              have g := g7 k.toNat (by omega) (by omega)
              refine ⟨g.1.ag8 (fun q hq _ => (by show s2 2 q = _; rw [hs2]; exact hC q (by omega))), g.2.eq9 (fun q h1 h2 => (by show s2 2 q = _; rw [hs2]; exact hC q (by omega))), (by rw [hF.2 2 (by decide)]; exact g3), (show (0 : Int) ≤ 0 ∧ (0 : Int) ≤ 8 from by omega), (fun j hj => by have hj : (j : Int) < 0 := hj; omega), (by rw [hF.2 37 (by decide)]; exact g6), (by rw [hF.1 25 (by decide) (by decide), hF.1 27 (by decide) (by decide)]; exact g7)⟩
            · intro z11 t11 e11 l11 h11
              try have w11 : t11 = 0 := by omega
              intro z12 t12 e12 l12 h12
              try have w12 : t12 = 0 := by omega
              refine And.intro (rfl) (And.intro (⟨by omega, by omega⟩) ?_)
              intro v13 e13 l13 h13
              have e13 : v13 = s2 26 z12.toNat := e13
              refine And.intro rfl (And.intro (⟨by omega, by omega⟩) ?_)
              have hF := hF.pt (t := 5) (j := i2.toNat) (v := v13) (by decide) (by decide)
              intro z15 t15 e15 l15 h15
              try have w15 : t15 = 0 := by omega
              show xw _ _ _ _ _ _ _ _ _ _ [xvr 0, xvi k, xvi z15] _ _
              exact ih_60 _ (show (6 - z15).toNat < m60 from by omega) z15 (xput s2 5 i2.toNat v13) rfl ⟨hF, hs2, by omega⟩
          exact lp_60 _ 0 s1 rfl ⟨hF, rfl, by omega⟩
        · intro z16 t16 e16 l16 h16
          try have w16 : t16 = 0 := by omega
          intro z17 t17 e17 l17 h17
          try have w17 : t17 = 0 := by omega
          refine And.intro (rfl) (And.intro (⟨by omega, by omega⟩) ?_)
          intro v18 e18 l18 h18
          have e18 : v18 = s1 25 z17.toNat := e18
          refine And.intro (rfl) (And.intro (⟨by omega, by omega⟩) ?_)
          have hF := hF.pt (t := 2) (j := i.toNat) (v := v18) (by decide) (by decide)
          intro z20 t20 e20 l20 h20
          try have w20 : t20 = 0 := by omega
          show xw _ _ _ _ _ _ _ _ _ _ [xvr 0, xvi k, xvi z20] _ _
          exact ih_27 _ (show (765 - z20).toNat < m27 from by omega) z20 (xput s1 2 i.toNat v18) rfl ⟨hF, (fun q hq => by
                    by_cases e : q = i.toNat
                    · rw [show q = i.toNat from by omega, xput_s, e18, hs25]; rw [show z17.toNat = 765 * k.toNat + i.toNat from by omega]
                    · rw [xput_o (by omega)]; exact hC q (by omega)), by omega⟩
      exact lp_27 _ 0 (xput σ 0 0 0) rfl ⟨hF, (fun j hj => by omega), by omega⟩
    · refine hX 400 23 _ _ ?_
      refine And.intro rfl ?_
      refine And.intro (by omega) ?_
      exact hQ _ _ (Or.inr ⟨by omega, (by omega), (RK.rf hp0).p0 (by decide) (by decide) (by decide)⟩)
