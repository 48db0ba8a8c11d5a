theorem TG.zero {σ : xS} (h0 : σ 5 0 = 0) (h1 : σ 5 1 = 0) (h2 : σ 5 2 = 0) (h8 : σ 5 8 = 0) (h9 : σ 5 9 = 0) (hh : ∀ i : Nat, i < 78 → σ 7 i = 0) (hp : ∀ j : Nat, j < 13 → σ 1 j = 0) : TG σ := by
  have hz : ∀ k : Nat, k < 13 → gsf (σ 7) (σ 9) (σ 5 8) (σ 5 9) k = 0 := by
    intro k hk
    unfold gsf gcf
    rw [sm_z (fun p hp => hh _ (by omega)), sm_z (fun i hi => if_neg (by rw [h8, h9]; omega))]
    rfl
  refine ⟨⟨⟨?_, ?_, ?_, ?_⟩, ?_, ?_⟩, ?_, Or.inl h2, ?_⟩
  · show 0 ≤ σ 5 0 ∧ σ 5 0 ≤ 13; omega
  · show 0 ≤ σ 5 1 ∧ σ 5 1 ≤ 6; omega
  · show 0 ≤ σ 5 8 ∧ σ 5 8 ≤ σ 5 9 ∧ σ 5 9 ≤ 52; omega
  · show ∀ i : Nat, (i : Int) < σ 5 9 → 0 ≤ σ 9 i ∧ σ 9 i ≤ 12; intro i hi; omega
  · show CHx (σ 7); intro p k hp hk; rw [hh _ (by omega)]; decide
  · show CSx (σ 7) (σ 9) (σ 5 8) (σ 5 9); intro k hk; rw [hz k hk]; decide
  · intro k hk; rw [hz k hk, hp k hk]; decide
  · intro i hi; omega
set_option maxHeartbeats 4000000 in
set_option maxRecDepth 100000 in
theorem sX2_clearE {σ : xS} {Q : Option xV → xS → Prop} (hQ : ∀ σ' : xS, Fr [2, 3] [0, 1, 2, 3, 8, 9] σ σ' → (σ' 0 0 = 0 ∧ σ' 0 1 = 0 ∧ σ' 0 2 = 0 ∧ (∀ i : Nat, i < 78 → σ' 2 i = 0) ∧ σ' 0 8 = 0 ∧ σ' 0 9 = 0) → Q none σ') : xT kX2_clear [xvr 0] σ Q := by
  refine ⟨Nat.le_of_ble_eq_true rfl, fun X hX => ?_⟩
  show X 0 [xvr 0] σ
  have hF : Fr [2, 3] [0, 1, 2, 3, 8, 9] σ σ := Fr.rf
  refine hX 400 0 _ _ ?_
  have hF := hF.p (j := 0) (v := 0) (by decide)
  have hF := hF.p (j := 1) (v := 0) (by decide)
  refine And.intro (by omega) ?_
  have hF := hF.p (j := 2) (v := 0) (by decide)
  have hF := hF.p (j := 3) (v := 0) (by decide)
  refine sX2_takeCardsAway (σ := (xput (xput (xput (xput σ 0 0 0) 0 1 0) 0 2 0) 0 3 0))   (fun σ5 f5 p5 => ?_)
  have hF := hF.tr f5 (by decide) (by decide)
  have p5 : (∀ i : Nat, i < 78 → σ5 2 i = 0) ∧ σ5 0 8 = 0 ∧ σ5 0 9 = 0 := p5
  refine And.intro rfl (And.intro rfl ?_)
  exact hQ _ hF ⟨(f5.2 0 (by decide)).trans rfl, (f5.2 1 (by decide)).trans rfl, (f5.2 2 (by decide)).trans rfl, p5.1, p5.2.1, p5.2.2⟩
set_option maxHeartbeats 4000000 in
set_option maxRecDepth 100000 in
theorem pX9_read_a {σ : xS} {size : Int} {Q : Option xV → xS → Prop} {Z : Nat → List xV → xS → Prop} (hZ : ∀ σ' : xS, Fr [1, 2, 5, 6, 7, 8, 9] [2, 3] σ σ' → TG σ' → σ' 0 3 = 0 → Z 22 [xvr 0, xvr 4, xvi size, xvr 5] σ') : xTE kX9_read_a Q Z 0 [xvr 0, xvr 4, xvi size, xvr 5] σ := by
  intro X hX hZZ
  have hF : Fr [1, 2, 5, 6, 7, 8, 9] [2, 3] σ σ := Fr.rf
  refine hX 400 0 _ _ ?_
  refine xMVf (sh := shT0) (ci := 2) (τ := [5, 6, 7, 8, 9, 10, 11, 12, 13, 14, 15, 16, 17]) (E := xT kX2_clear) (t := 5) (r := []) (σ := σ) rfl rfl (fun Q1 hQ1 => sX2_clearE (σ := xsel [5, 6, 7, 8, 9, 10, 11, 12, 13, 14, 15, 16, 17] σ)   (fun ς1 f1 p1 => hQ1 _ _ ?_))
  replace f1 : Fr [5, 7, 8] [] σ (xbk [5, 6, 7, 8, 9, 10, 11, 12, 13, 14, 15, 16, 17] σ ς1) := f1.bk (by decide) (by decide)
  replace p1 : (xbk [5, 6, 7, 8, 9, 10, 11, 12, 13, 14, 15, 16, 17] σ ς1) 5 0 = 0 ∧ (xbk [5, 6, 7, 8, 9, 10, 11, 12, 13, 14, 15, 16, 17] σ ς1) 5 1 = 0 ∧ (xbk [5, 6, 7, 8, 9, 10, 11, 12, 13, 14, 15, 16, 17] σ ς1) 5 2 = 0 ∧ (∀ i : Nat, i < 78 → (xbk [5, 6, 7, 8, 9, 10, 11, 12, 13, 14, 15, 16, 17] σ ς1) 7 i = 0) ∧ (xbk [5, 6, 7, 8, 9, 10, 11, 12, 13, 14, 15, 16, 17] σ ς1) 5 8 = 0 ∧ (xbk [5, 6, 7, 8, 9, 10, 11, 12, 13, 14, 15, 16, 17] σ ς1) 5 9 = 0 := p1
  generalize xbk [5, 6, 7, 8, 9, 10, 11, 12, 13, 14, 15, 16, 17] σ ς1 = σ1 at f1  p1 ⊢
  have hF := hF.tr f1 (by decide) (by decide)
  obtain ⟨pz0, pz1, pz2, pzh, pz8, pz9⟩ := p1
  refine And.intro (by decide) ?_
  generalize hfl2 : xfl σ1 1 13 0 = σ2
  have f2 : Fr [1] [] σ1 σ2 := hfl2 ▸ Fr.fl (by decide)
  have v2 : ∀ j : Nat, j < 13 → σ2 1 j = 0 := fun j hj => by rw [← hfl2]; exact xfl_in hj
  have hF := hF.tr f2 (by decide) (by decide)
  have k0 : σ2 5 0 = 0 := (congrFun (f2.1 5 (by decide) (by decide)) 0).trans pz0
  have k1 : σ2 5 1 = 0 := (congrFun (f2.1 5 (by decide) (by decide)) 1).trans pz1
  have k2 : σ2 5 2 = 0 := (congrFun (f2.1 5 (by decide) (by decide)) 2).trans pz2
  have k8 : σ2 5 8 = 0 := (congrFun (f2.1 5 (by decide) (by decide)) 8).trans pz8
  have k9 : σ2 5 9 = 0 := (congrFun (f2.1 5 (by decide) (by decide)) 9).trans pz9
  have kh : ∀ i : Nat, i < 78 → σ2 7 i = 0 := fun i hi => (congrFun (f2.1 7 (by decide) (by decide)) i).trans (pzh i hi)
  have kp : ∀ j : Nat, j < 13 → σ2 1 j = 0 := v2
  refine And.intro (by omega) ?_
  have hF := hF.p (j := 2) (v := 0) (by decide)
  have hF := hF.p (j := 3) (v := 0) (by decide)
  exact hZZ _ _ _ (hZ _ hF (TG.zero k0 k1 k2 k8 k9 kh kp) (show 0 = 0 from rfl))
set_option maxHeartbeats 4000000 in
set_option maxRecDepth 100000 in
theorem pX9_read_b {σ : xS} {size : Int} {Q : Option xV → xS → Prop} {Z : Nat → List xV → xS → Prop} (hp0 : TG σ) (hp1 : (0 ≤ σ 2 4 ∧ σ 2 4 ≤ σ 2 2 ∧ σ 2 2 ≤ 940)) (hp2 : 0 ≤ σ 0 3) (hQ : ∀ r : Int, ∀ σ' : xS, Fr [1, 2, 5, 6, 7, 8, 9] [2, 3] σ σ' → (TG σ' ∧ (r = 0 ∨ r = 1)) → Q (some (xvi r)) σ') : xTE kX9_read_b Q Z 34 [xvr 0, xvr 4, xvi size, xvr 5] σ := by
  intro X hX hZZ
  have hF : Fr [1, 2, 5, 6, 7, 8, 9] [2, 3] σ σ := Fr.rf
  have lp_34 : ∀ (m34 : Nat) (s1 : xS), ((900 - s1 0 3).toNat) = m34 → (Fr [1, 2, 5, 6, 7, 8, 9] [2, 3] σ s1 ∧ TG s1 ∧ (0 ≤ s1 2 4 ∧ s1 2 4 ≤ s1 2 2 ∧ s1 2 2 ≤ 940) ∧ 0 ≤ s1 0 3) → X 34 [xvr 0, xvr 4, xvi size, xvr 5] s1 := by
    intro m34
    induction m34 using Nat.strongRecOn with
    | _ m34 ih_34 =>
    intro s1 hm_34 hv_34
    obtain ⟨hF, hT, hrd, hv_34⟩ := hv_34
    refine hX 400 34 _ _ ?_
    have lp_92 : ∀ (_ : Unit), (True) → X 92 [xvr 0, xvr 4, xvi size, xvr 5] s1 := by
      intro _ hv_92
      refine hX 400 92 _ _ ?_
      have lp_116 : ∀ (s3 : xS), (Fr [1, 2, 5, 6, 7, 8, 9] [2, 3] σ s3 ∧ TG s3) → X 116 [xvr 0, xvr 4, xvi size, xvr 5] s3 := by
        intro s3 hv_116
        obtain ⟨hF, hT⟩ := hv_116
        refine hX 400 116 _ _ ?_
        refine And.intro rfl ?_
        refine And.intro (by omega) ?_
        exact hQ _ _ hF ⟨hT, by omega⟩
      refine xMVp (sh := shT) (ci := 6) (τ := [2, 3, 4]) (E := xT kX6_isAt) (t := 2) (r := [xvi 302]) (σ := s1) rfl rfl xbk_sel (fun Q4 hQ4 => sX6_isAt (σ := xsel [2, 3, 4] s1) (wanted := 302)  (fun r4 p4 => hQ4 _ ?_))
      have p4 : (r4 = 1 ∧ (s1 2 5) = 302) ∨ (r4 = 0 ∧ ¬ (s1 2 5) = 302) := p4
      refine And.intro (fun c5 => ?_) (fun c5 => ?_)
      · replace p4 : (s1 2 5) = 302 := by
          rcases p4 with q | q
          · exact q.2
          · exact absurd q.1 (by omega)
        exact lp_116 s1 ⟨hF, hT⟩
      · replace p4 : ¬ (s1 2 5) = 302 := by
          rcases p4 with q | q
          · exact absurd q.1 (by omega)
          · exact q.2
        refine xMVf (sh := shT) (ci := 6) (τ := [2, 3, 4]) (E := xT kX6_fail) (t := 2) (r := [xvi 1]) (σ := s1) rfl rfl (fun Q6 hQ6 => sX6_fail (σ := xsel [2, 3, 4] s1) (kind := 1)  (fun r6 ς6 f6 p6 => hQ6 _ _ ?_))
        have kq6_2 : (xbk [2, 3, 4] s1 ς6) 2 2 = s1 2 2 := f6.2 2 (by decide)
        have kq6_4 : (xbk [2, 3, 4] s1 ς6) 2 4 = s1 2 4 := f6.2 4 (by decide)
        have kq6_5 : (xbk [2, 3, 4] s1 ς6) 2 5 = s1 2 5 := f6.2 5 (by decide)
        have kq6_7 : (xbk [2, 3, 4] s1 ς6) 2 7 = s1 2 7 := f6.2 7 (by decide)
        have kq6_8 : (xbk [2, 3, 4] s1 ς6) 2 8 = s1 2 8 := f6.2 8 (by decide)
        replace f6 : Fr [2] [] s1 (xbk [2, 3, 4] s1 ς6) := f6.bk (by decide) (by decide)
        replace p6 : r6 = 0 := p6
        generalize xbk [2, 3, 4] s1 ς6 = σ6 at f6 kq6_2 kq6_4 kq6_5 kq6_7 kq6_8 p6 ⊢
        have hF := hF.tr f6 (by decide) (by decide)
        have hT := hT.fr f6 (by decide) (by decide) (by decide) (by decide)
        refine And.intro (fun c7 => ?_) (fun c7 => ?_)
        · refine And.intro rfl ?_
          refine And.intro (by omega) ?_
          exact hQ _ _ hF ⟨hT, by omega⟩
        · exact lp_116 σ6 ⟨hF, hT⟩
    intro v8 e8 l8 h8
    have e8 : v8 = s1 0 3 := e8
    refine And.intro (fun c9 => ?_) (fun c9 => ?_)
    · exact lp_92 () (show True from by first | trivial | omega | (refine ⟨by assumption, ?_⟩; omega) | (refine ⟨?_, ?_⟩ <;> omega))
    · refine xMVp (sh := shT) (ci := 6) (τ := [2, 3, 4]) (E := xT kX6_isAt) (t := 2) (r := [xvi 302]) (σ := s1) rfl rfl xbk_sel (fun Q10 hQ10 => sX6_isAt (σ := xsel [2, 3, 4] s1) (wanted := 302)  (fun r10 p10 => hQ10 _ ?_))
      have p10 : (r10 = 1 ∧ (s1 2 5) = 302) ∨ (r10 = 0 ∧ ¬ (s1 2 5) = 302) := p10
      refine And.intro (fun c11 => ?_) (fun c11 => ?_)
      · replace p10 : (s1 2 5) = 302 := by
          rcases p10 with q | q
          · exact q.2
          · exact absurd q.1 (by omega)
        exact lp_92 () (show True from by first | trivial | omega | (refine ⟨by assumption, ?_⟩; omega) | (refine ⟨?_, ?_⟩ <;> omega))
      · replace p10 : ¬ (s1 2 5) = 302 := by
          rcases p10 with q | q
          · exact absurd q.1 (by omega)
          · exact q.2
        have lp_77 : ∀ (s2 : xS), (Fr [1, 2, 5, 6, 7, 8, 9] [2, 3] σ s2 ∧ TG s2) → X 77 [xvr 0, xvr 4, xvi size, xvr 5] s2 := by
          intro s2 hv_77
          obtain ⟨hF, hT⟩ := hv_77
          refine hX 400 77 _ _ ?_
          refine And.intro rfl ?_
          refine And.intro (by omega) ?_
          exact hQ _ _ hF ⟨hT, by omega⟩
        refine sX9_readLine (σ := s1)  (show TG s1 from hT) (show (0 ≤ (s1 2 4) ∧ (s1 2 4) ≤ (s1 2 2) ∧ (s1 2 2) ≤ 940) from by omega) (fun r13 σ13 f13 p13 => ?_)
        have hF := hF.tr f13 (by decide) (by decide)
        have p13 : TG σ13 ∧ (0 ≤ σ13 2 4 ∧ σ13 2 4 ≤ σ13 2 2 ∧ σ13 2 2 ≤ 940) ∧ (r13 = 0 ∨ r13 = 1) := p13
        obtain ⟨hT, hrd2, hr01⟩ := p13
        have kl : σ13 0 3 = s1 0 3 := f13.2 3 (by decide)
        refine And.intro (fun c14 => ?_) (fun c14 => ?_)
        · exact lp_77 σ13 ⟨hF, hT⟩
        · refine xMVf (sh := shT) (ci := 6) (τ := [2, 3, 4]) (E := xT kX6_pass) (t := 2) (r := [xvi 59]) (σ := σ13) rfl rfl (fun Q15 hQ15 => sX6_pass (σ := xsel [2, 3, 4] σ13) (wanted := 59) (show 0 ≤ (σ13 2 4) ∧ (σ13 2 4) ≤ (σ13 2 2) ∧ (σ13 2 2) ≤ 940 from by omega) (fun r15 ς15 f15 p15 => hQ15 _ _ ?_))
          have kq15_2 : (xbk [2, 3, 4] σ13 ς15) 2 2 = σ13 2 2 := f15.2 2 (by decide)
          replace f15 : Fr [2] [] σ13 (xbk [2, 3, 4] σ13 ς15) := f15.bk (by decide) (by decide)
          replace p15 : (0 ≤ (xbk [2, 3, 4] σ13 ς15) 2 4 ∧ (xbk [2, 3, 4] σ13 ς15) 2 4 ≤ (σ13 2 2)) ∧ (r15 = 0 ∨ r15 = 1) := p15
          generalize xbk [2, 3, 4] σ13 ς15 = σ15 at f15 kq15_2 p15 ⊢
          have hF := hF.tr f15 (by decide) (by decide)
          have hT := hT.fr f15 (by decide) (by decide) (by decide) (by decide)
          have kl2 := f15.2 3 (by decide)
          refine And.intro (fun c16 => ?_) (fun c16 => ?_)
          · intro v17 e17 l17 h17
            have e17 : v17 = σ15 0 3 := e17
            intro z18 t18 e18 l18 h18
            try have w18 : t18 = 0 := by omega
            have hF := hF.p (j := 3) (v := z18) (by decide)
            exact ih_34 _ (show (900 - (z18)).toNat < m34 from by omega) (xput σ15 0 3 z18) rfl ⟨hF, (show TG (xput σ15 0 3 z18) from hT), (show 0 ≤ σ15 2 4 ∧ σ15 2 4 ≤ σ15 2 2 ∧ σ15 2 2 ≤ 940 from by omega), (show 0 ≤ z18 from by omega)⟩
          · exact lp_77 σ15 ⟨hF, hT⟩
  exact lp_34 _ σ rfl ⟨hF, hp0, hp1, hp2⟩
