set_option maxHeartbeats 4000000 in
set_option maxRecDepth 100000 in
theorem sX0_take {σ : xS} {Q : Option xV → xS → Prop} (hp0 : CG (xsel [5, 6, 7, 8, 9, 10, 11, 12, 13, 14, 15, 16, 17] σ)) (hp1 : ∀ i : Nat, (i : Int) < σ 5 9 → σ 9 i ≤ 2) (hp2 : σ 5 2 = 0 ∨ σ 5 2 = 1) (hQ : ∀ r : Int, ∀ σ' : xS, Fr [1, 2, 3, 4] [3, 4, 5, 6, 8, 9, 10] σ σ' → ((0 ≤ σ' 0 3 ∧ σ' 0 3 ≤ 4) ∧ σ' 0 8 = 0 ∧ (0 ≤ σ' 0 4 ∧ σ' 0 4 ≤ 3) ∧ (∀ j : Nat, (j : Int) < σ' 0 3 → 0 ≤ σ' 3 j ∧ σ' 3 j ≤ 2)) → Q (some (xvi r)) σ') : xT kX0_take [xvr 0, xvr 5] σ Q := by
  refine ⟨Nat.le_of_ble_eq_true rfl, fun X hX => ?_⟩
  show X 0 [xvr 0, xvr 5, xvu] σ
  have hF : Fr [1, 2, 3, 4] [3, 4, 5, 6, 8, 9, 10] σ σ := Fr.rf
  refine hX 400 0 _ _ ?_
  have hb0 : 0 ≤ σ 5 0 ∧ σ 5 0 ≤ 13 := hp0.1.1; have hb1 : 0 ≤ σ 5 1 ∧ σ 5 1 ≤ 6 := hp0.1.2.1; have hb8 : 0 ≤ σ 5 8 ∧ σ 5 8 ≤ σ 5 9 ∧ σ 5 9 ≤ 52 := hp0.1.2.2.1
  have hca : ∀ i : Nat, (i : Int) < σ 5 9 → 0 ≤ σ 9 i ∧ σ 9 i ≤ 2 := fun i hi => ⟨(hp0.1.2.2.2 i hi).1, hp1 i hi⟩
  refine And.intro (by decide) ?_
  generalize hfl1 : xfl σ 1 2500 1000 = σ1
  have f1 : Fr [1] [] σ σ1 := hfl1 ▸ Fr.fl (by decide)
  have v1 : ∀ j : Nat, j < 2500 → σ1 1 j = 1000 := fun j hj => by rw [← hfl1]; exact xfl_in hj
  have hF := hF.tr f1 (by decide) (by decide)
  have k50 : σ1 5 0 = σ 5 0 := congrFun (hF.1 5 (by decide) (by decide)) 0
  have k51 : σ1 5 1 = σ 5 1 := congrFun (hF.1 5 (by decide) (by decide)) 1
  have k58 : σ1 5 8 = σ 5 8 := congrFun (hF.1 5 (by decide) (by decide)) 8
  have k59 : σ1 5 9 = σ 5 9 := congrFun (hF.1 5 (by decide) (by decide)) 9
  have k9 : σ1 9 = σ 9 := hF.1 9 (by decide) (by decide)
  have k7 : σ1 7 = σ 7 := hF.1 7 (by decide) (by decide)
  have k52 : σ1 5 2 = σ 5 2 := congrFun (hF.1 5 (by decide) (by decide)) 2
  intro v2 e2 l2 h2
  have e2 : v2 = σ1 5 0 := e2
  intro r3 o3 a3 b3
  have hF := hF.p (j := 4) (v := r3) (by decide)
  intro v5 e5 l5 h5
  have e5 : v5 = σ1 5 2 := e5
  refine And.intro (by omega) ?_
  have hF := hF.p (j := 5) (v := v5) (by decide)
  intro v7 e7 l7 h7
  have e7 : v7 = σ1 5 3 := e7
  have hF := hF.p (j := 6) (v := v7) (by decide)
  refine xMVp (sh := shU) (ci := 2) (τ := [5, 6, 7, 8, 9, 10, 11, 12, 13, 14, 15, 16, 17]) (E := xT kX2_heapSize) (t := 5) (r := []) (σ := (xput (xput (xput σ1 0 4 r3) 0 5 v5) 0 6 v7)) rfl rfl xbk_sel (fun Q9 hQ9 => sX2_heapSize (σ := xsel [5, 6, 7, 8, 9, 10, 11, 12, 13, 14, 15, 16, 17] (xput (xput (xput σ1 0 4 r3) 0 5 v5) 0 6 v7))  (show 0 ≤ (σ1 5 8) ∧ (σ1 5 8) ≤ (σ1 5 9) ∧ (σ1 5 9) ≤ 52 from by omega) (fun r9 p9 => hQ9 _ ?_))
  have p9 : r9 = (σ1 5 9) - (σ1 5 8) := p9
  intro r10 o10 a10 b10
  have hF := hF.p (j := 3) (v := r10) (by decide)
  refine And.intro (Nat.le_of_ble_eq_true rfl) ?_
  show xw _ _ _ _ _ _ _ _ _ _ [xvr 0, xvr 5, xvi 0] _ _
  have lp_52 : ∀ (m52 : Nat) (i : Int) (s1 : xS), ((4 - i).toNat) = m52 → (Fr [1, 2, 3, 4] [3, 4, 5, 6, 8, 9, 10] σ s1 ∧ ((0 ≤ s1 0 3 ∧ s1 0 3 ≤ 4 ∧ s1 0 3 ≤ σ 5 9 - σ 5 8) ∧ (0 ≤ s1 0 4 ∧ s1 0 4 ≤ 3)) ∧ (∀ j : Nat, (j : Int) < i → 0 ≤ s1 3 j ∧ s1 3 j ≤ 2) ∧ (0 ≤ i ∧ i ≤ 4)) → X 52 [xvr 0, xvr 5, xvi i] s1 := by
    intro m52
    induction m52 using Nat.strongRecOn with
    | _ m52 ih_52 =>
    intro i s1 hm_52 hv_52
    obtain ⟨hF, h1r, h1c, hv_52⟩ := hv_52
    have k50 : s1 5 0 = σ 5 0 := congrFun (hF.1 5 (by decide) (by decide)) 0
    have k51 : s1 5 1 = σ 5 1 := congrFun (hF.1 5 (by decide) (by decide)) 1
    have k58 : s1 5 8 = σ 5 8 := congrFun (hF.1 5 (by decide) (by decide)) 8
    have k59 : s1 5 9 = σ 5 9 := congrFun (hF.1 5 (by decide) (by decide)) 9
    have k9 : s1 9 = σ 9 := hF.1 9 (by decide) (by decide)
    have k7 : s1 7 = σ 7 := hF.1 7 (by decide) (by decide)
    refine hX 400 52 _ _ ?_
    intro v13 e13 l13 h13
    have e13 : v13 = s1 0 3 := e13
    refine And.intro (fun c14 => ?_) (fun c14 => ?_)
    · refine And.intro (by decide) ?_
      generalize hfl15 : xfl s1 4 6 0 = σ15
      have f15 : Fr [4] [] s1 σ15 := hfl15 ▸ Fr.fl (by decide)
      have v15 : ∀ j : Nat, j < 6 → σ15 4 j = 0 := fun j hj => by rw [← hfl15]; exact xfl_in hj
      have hF := hF.tr f15 (by decide) (by decide)
      have hF93 : σ15 3 = s1 3 := f15.1 3 (by decide) (by decide)
      have k93 : σ15 0 3 = s1 0 3 := f15.2 3 (by decide)
      have k94 : σ15 0 4 = s1 0 4 := f15.2 4 (by decide)
      refine And.intro (Nat.le_of_ble_eq_true rfl) ?_
      show xw _ _ _ _ _ _ _ _ _ _ [xvr 0, xvr 5, xvi 0] _ _
      have lp_93 : ∀ (m93 : Nat) (k : Int) (s2 : xS), ((3 - k).toNat) = m93 → (Fr [1, 2, 3, 4] [3, 4, 5, 6, 8, 9, 10] σ s2 ∧ ((0 ≤ s2 0 3 ∧ s2 0 3 ≤ 4) ∧ (0 ≤ s2 0 4 ∧ s2 0 4 ≤ 3)) ∧ (∀ j : Nat, (j : Int) < s2 0 3 → 0 ≤ s2 3 j ∧ s2 3 j ≤ 2) ∧ (0 ≤ k ∧ k ≤ 3)) → X 93 [xvr 0, xvr 5, xvi k] s2 := by
        intro m93
        induction m93 using Nat.strongRecOn with
        | _ m93 ih_93 =>
        intro k s2 hm_93 hv_93
        obtain ⟨hF, h2r, h2c, hv_93⟩ := hv_93
        have k50 : s2 5 0 = σ 5 0 := congrFun (hF.1 5 (by decide) (by decide)) 0
        have k51 : s2 5 1 = σ 5 1 := congrFun (hF.1 5 (by decide) (by decide)) 1
        have k58 : s2 5 8 = σ 5 8 := congrFun (hF.1 5 (by decide) (by decide)) 8
        have k59 : s2 5 9 = σ 5 9 := congrFun (hF.1 5 (by decide) (by decide)) 9
        have k9 : s2 9 = σ 9 := hF.1 9 (by decide) (by decide)
        have k7 : s2 7 = σ 7 := hF.1 7 (by decide) (by decide)
        refine hX 400 93 _ _ ?_
        intro v17 e17 l17 h17
        have e17 : v17 = s2 0 4 := e17
        refine And.intro (fun c18 => ?_) (fun c18 => ?_)
        · have hF := hF.p (j := 8) (v := 0) (by decide)
          intro v20 e20 l20 h20
          have e20 : v20 = s2 5 14 := e20
          have hF := hF.p (j := 9) (v := v20) (by decide)
          intro v22 e22 l22 h22
          have e22 : v22 = s2 5 16 := e22
          have hF := hF.p (j := 10) (v := v22) (by decide)
          refine xMVp (sh := shU) (ci := 0) (τ := [0, 1, 2, 3, 4]) (E := xT kX0_pack) (t := 0) (r := []) (σ := (xput (xput (xput s2 0 8 0) 0 9 v20) 0 10 v22)) rfl rfl xbk_sel (fun Q24 hQ24 => sX0_pack (σ := xsel [0, 1, 2, 3, 4] (xput (xput (xput s2 0 8 0) 0 9 v20) 0 10 v22))   (fun r24 => hQ24 _ ?_))
          refine And.intro rfl ?_
          exact hQ _ _ hF ⟨(show 0 ≤ s2 0 3 ∧ s2 0 3 ≤ 4 from by omega), (show 0 = 0 from by omega), (show 0 ≤ s2 0 4 ∧ s2 0 4 ≤ 3 from by omega), h2c⟩
        · refine xMVp (sh := shU) (ci := 2) (τ := [5, 6, 7, 8, 9, 10, 11, 12, 13, 14, 15, 16, 17]) (E := xT kX2_inHands) (t := 5) (r := [xvi k]) (σ := s2) rfl rfl xbk_sel (fun Q25 hQ25 => sX2_inHands (σ := xsel [5, 6, 7, 8, 9, 10, 11, 12, 13, 14, 15, 16, 17] s2) (kind := k) (show 0 ≤ (s2 5 1) ∧ (s2 5 1) ≤ 6 from by omega) (show ∀ p k, p < 6 → k < 13 → 0 ≤ s2 7 (13 * p + k) ∧ s2 7 (13 * p + k) ≤ 4 from by rw [k7]; exact fun p k hp hk => hp0.2.1.1.h4 hp0.2.1.2 hp hk) (show 0 ≤ k ∧ k ≤ 12 from by omega) (fun r25 p25 => hQ25 _ ?_))
          have p25 : 0 ≤ r25 ∧ r25 ≤ sm 6 (fun p => s2 7 (13 * p + k.toNat)) := p25
          refine xMVp (sh := shU) (ci := 2) (τ := [5, 6, 7, 8, 9, 10, 11, 12, 13, 14, 15, 16, 17]) (E := xT kX2_inHeap) (t := 5) (r := [xvi k]) (σ := s2) rfl rfl xbk_sel (fun Q26 hQ26 => sX2_inHeap (σ := xsel [5, 6, 7, 8, 9, 10, 11, 12, 13, 14, 15, 16, 17] s2) (kind := k) (show 0 ≤ (s2 5 8) ∧ (s2 5 8) ≤ (s2 5 9) ∧ (s2 5 9) ≤ 52 from by omega) (show 0 ≤ k ∧ k ≤ 12 from by omega) (fun r26 p26 => hQ26 _ ?_))
          have p26 : 0 ≤ r26 ∧ r26 ≤ gcf (s2 9) ((s2 5 8)) ((s2 5 9)) k.toNat := p26
          intro z27 t27 e27 l27 h27
          try have w27 : t27 = 0 := by omega
          refine And.intro (rfl) (And.intro (⟨by omega, by omega⟩) ?_)
          have hF := hF.pt (t := 2) (j := k.toNat) (v := z27) (by decide) (by decide)
          refine xMVp (sh := shU) (ci := 2) (τ := [5, 6, 7, 8, 9, 10, 11, 12, 13, 14, 15, 16, 17]) (E := xT kX2_held) (t := 5) (r := [xvi 0, xvi k]) (σ := (xput s2 2 k.toNat z27)) rfl rfl xbk_sel (fun Q29 hQ29 => sX2_held (σ := xsel [5, 6, 7, 8, 9, 10, 11, 12, 13, 14, 15, 16, 17] (xput s2 2 k.toNat z27)) (p := 0) (kind := k) (show 0 ≤ 0 ∧ 0 ≤ 5 from by omega) (show 0 ≤ k ∧ k ≤ 12 from by omega) (fun r29 p29 => hQ29 _ ?_))
          have p29 : r29 = s2 7 (13 * 0 + k).toNat := p29
          refine And.intro (rfl) (And.intro (⟨by omega, by omega⟩) ?_)
          have hF := hF.pt (t := 4) (j := k.toNat) (v := r29) (by decide) (by decide)
          intro z31 t31 e31 l31 h31
          try have w31 : t31 = 0 := by omega
          refine xMVp (sh := shU) (ci := 2) (τ := [5, 6, 7, 8, 9, 10, 11, 12, 13, 14, 15, 16, 17]) (E := xT kX2_held) (t := 5) (r := [xvi 1, xvi k]) (σ := (xput (xput s2 2 k.toNat z27) 4 k.toNat r29)) rfl rfl xbk_sel (fun Q32 hQ32 => sX2_held (σ := xsel [5, 6, 7, 8, 9, 10, 11, 12, 13, 14, 15, 16, 17] (xput (xput s2 2 k.toNat z27) 4 k.toNat r29)) (p := 1) (kind := k) (show 0 ≤ 1 ∧ 1 ≤ 5 from by omega) (show 0 ≤ k ∧ k ≤ 12 from by omega) (fun r32 p32 => hQ32 _ ?_))
          have p32 : r32 = s2 7 (13 * 1 + k).toNat := p32
          refine And.intro (rfl) (And.intro (⟨by omega, by omega⟩) ?_)
          have hF := hF.pt (t := 4) (j := z31.toNat) (v := r32) (by decide) (by decide)
          intro z34 t34 e34 l34 h34
          try have w34 : t34 = 0 := by omega
          show xw _ _ _ _ _ _ _ _ _ _ [xvr 0, xvr 5, xvi z34] _ _
          exact ih_93 _ (show (3 - z34).toNat < m93 from by omega) z34 (xput (xput (xput s2 2 k.toNat z27) 4 k.toNat r29) 4 z31.toNat r32) rfl ⟨hF, (show (0 ≤ s2 0 3 ∧ s2 0 3 ≤ 4) ∧ (0 ≤ s2 0 4 ∧ s2 0 4 ≤ 3) from by omega), h2c, by omega⟩
      exact lp_93 _ 0 σ15 rfl ⟨hF, (show (0 ≤ σ15 0 3 ∧ σ15 0 3 ≤ 4) ∧ (0 ≤ σ15 0 4 ∧ σ15 0 4 ≤ 3) from by omega), (fun j hj => by rw [congrFun (hF93 : σ15 3 = s1 3) j]; exact h1c j (by omega)), by omega⟩
    · intro v35 e35 l35 h35
      have e35 : v35 = s1 5 8 := e35
      intro z36 t36 e36 l36 h36
      try have w36 : t36 = 0 := by omega
      refine And.intro (rfl) (And.intro (⟨by omega, by omega⟩) ?_)
      intro v37 e37 l37 h37
      have e37 : v37 = s1 9 z36.toNat := e37
      rw [k9, show z36 = σ 5 8 + i from by omega] at e37
      refine And.intro (rfl) (And.intro (⟨by omega, by omega⟩) ?_)
      have hF := hF.pt (t := 3) (j := i.toNat) (v := v37) (by decide) (by decide)
      have hst : ∀ z : Int, z = i + 1 → (∀ j : Nat, (j : Int) < z → 0 ≤ (xput s1 3 i.toNat v37) 3 j ∧ (xput s1 3 i.toNat v37) 3 j ≤ 2) := fun z hz j hj => by
        show 0 ≤ xput s1 3 i.toNat v37 3 j ∧ xput s1 3 i.toNat v37 3 j ≤ 2
        rw [xput_up]
        by_cases e : j = i.toNat
        · rw [e, up_s]; have hcz := hca (σ 5 8 + i).toNat (by omega); rw [show v37 = σ 9 (σ 5 8 + i).toNat from e37]; exact hcz
        · rw [up_n e]; exact h1c j (by omega)
      intro z39 t39 e39 l39 h39
      try have w39 : t39 = 0 := by omega
      show xw _ _ _ _ _ _ _ _ _ _ [xvr 0, xvr 5, xvi z39] _ _
      exact ih_52 _ (show (4 - z39).toNat < m52 from by omega) z39 (xput s1 3 i.toNat v37) rfl ⟨hF, (show (0 ≤ s1 0 3 ∧ s1 0 3 ≤ 4 ∧ s1 0 3 ≤ σ 5 9 - σ 5 8) ∧ (0 ≤ s1 0 4 ∧ s1 0 4 ≤ 3) from by omega), hst _ (by omega), by omega⟩
  exact lp_52 _ 0 (xput (xput (xput (xput σ1 0 4 r3) 0 5 v5) 0 6 v7) 0 3 r10) rfl ⟨hF, (show (0 ≤ r10 ∧ r10 ≤ 4 ∧ r10 ≤ σ 5 9 - σ 5 8) ∧ (0 ≤ r3 ∧ r3 ≤ 3) from by omega), (fun j hj => by omega), by omega⟩
