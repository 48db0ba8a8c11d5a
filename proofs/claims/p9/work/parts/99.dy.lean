/-- the rows of an evening's lines -/
def RWx (f : Nat → Int) (n : Int) : Prop := ∀ k : Nat, (k : Int) < n → (0 ≤ f (4 * k) ∧ f (4 * k) ≤ 5) ∧ (0 ≤ f (4 * k + 1) ∧ f (4 * k + 1) ≤ 5) ∧ (0 ≤ f (4 * k + 2) ∧ f (4 * k + 2) ≤ 12)
theorem RWx.zero {f : Nat → Int} {n : Int} (h : n = 0) : RWx f n := fun k hk => by omega
theorem RWx.keep {f g : Nat → Int} {n : Int} (h : RWx f n) (e : ∀ j : Nat, (j : Int) < 4 * n → g j = f j) : RWx g n := fun k hk => by
  rw [e _ (by omega), e _ (by omega), e _ (by omega)]; exact h k hk
theorem RWx.step {f : Nat → Int} {n : Int} (h : RWx f n) (hn : 0 ≤ n) (a : 0 ≤ f (4 * n).toNat ∧ f (4 * n).toNat ≤ 5) (b : 0 ≤ f (4 * n + 1).toNat ∧ f (4 * n + 1).toNat ≤ 5) (c : 0 ≤ f (4 * n + 2).toNat ∧ f (4 * n + 2).toNat ≤ 12) : RWx f (n + 1) := fun k hk => by
  by_cases e : (k : Int) < n
  · exact h k e
  · have e1 : 4 * k = (4 * n).toNat := by omega
    have e2 : 4 * k + 1 = (4 * n + 1).toNat := by omega
    have e3 : 4 * k + 2 = (4 * n + 2).toNat := by omega
    rw [e2, e3, e1]
    exact ⟨a, b, c⟩
set_option maxHeartbeats 4000000 in
set_option maxRecDepth 100000 in
theorem pX1_read_a {σ : xS} {size : Int} {Q : Option xV → xS → Prop} {Z : Nat → List xV → xS → Prop} (hZ : ∀ σ' : xS, Fr [1, 2] [2] σ σ' → σ' 0 2 = 0 → Z 5 [xvr 0, xvr 4, xvi size, xvr 5] σ') : xTE kX1_read_a Q Z 0 [xvr 0, xvr 4, xvi size, xvr 5] σ := by
  intro X hX hZZ
  have hF : Fr [1, 2] [2] σ σ := Fr.rf
  refine hX 400 0 _ _ ?_
  have hF := hF.p (j := 2) (v := 0) (by decide)
  exact hZZ _ _ _ (hZ _ hF (show 0 = 0 from rfl))
set_option maxHeartbeats 4000000 in
set_option maxRecDepth 100000 in
theorem pX1_read_b {σ : xS} {size : Int} {Q : Option xV → xS → Prop} {Z : Nat → List xV → xS → Prop} (hp0 : 0 ≤ σ 5 0 ∧ σ 5 0 ≤ 13) (hp1 : 0 ≤ σ 5 1 ∧ σ 5 1 ≤ 6) (hp2 : (0 ≤ σ 2 4 ∧ σ 2 4 ≤ σ 2 2 ∧ σ 2 2 ≤ 940)) (hp3 : σ 0 2 = 0) (hQ : ∀ r : Int, ∀ σ' : xS, Fr [1, 2] [2] σ σ' → (RWx (σ' 1) (σ' 0 2) ∧ (0 ≤ σ' 0 2 ∧ σ' 0 2 ≤ 30) ∧ (r = 0 ∨ r = 1)) → Q (some (xvi r)) σ') : xTE kX1_read_b Q Z 17 [xvr 0, xvr 4, xvi size, xvr 5] σ := by
  intro X hX hZZ
  have hF : Fr [1, 2] [2] σ σ := Fr.rf
  have lp_17 : ∀ (m17 : Nat) (s1 : xS), ((31 - s1 0 2).toNat) = m17 → (Fr [1, 2] [2] σ s1 ∧ RWx (s1 1) (s1 0 2) ∧ (0 ≤ s1 0 2 ∧ s1 0 2 ≤ 30) ∧ (0 ≤ s1 2 4 ∧ s1 2 4 ≤ s1 2 2 ∧ s1 2 2 ≤ 940)) → X 17 [xvr 0, xvr 4, xvi size, xvr 5] s1 := by
    intro m17
    induction m17 using Nat.strongRecOn with
    | _ m17 ih_17 =>
    intro s1 hm_17 hv_17
    obtain ⟨hF, hRW, hl1, hrd⟩ := hv_17
    have k50 : s1 5 0 = σ 5 0 := congrFun (hF.1 5 (by decide) (by decide)) 0
    have k51 : s1 5 1 = σ 5 1 := congrFun (hF.1 5 (by decide) (by decide)) 1
    refine hX 400 17 _ _ ?_
    have lp_74 : ∀ (_ : Unit), (True) → X 74 [xvr 0, xvr 4, xvi size, xvr 5] s1 := by
      intro _ hv_74
      refine hX 400 74 _ _ ?_
      refine And.intro rfl ?_
      refine And.intro (by omega) ?_
      exact hQ _ _ hF ⟨hRW, by omega, by omega⟩
    intro v3 e3 l3 h3
    have e3 : v3 = s1 0 2 := e3
    refine And.intro (fun c4 => ?_) (fun c4 => ?_)
    · exact lp_74 () (show True from by first | trivial | omega | (refine ⟨by assumption, ?_⟩; omega) | (refine ⟨?_, ?_⟩ <;> omega))
    · refine xMVp (sh := shE) (ci := 6) (τ := [2, 3, 4]) (E := xT kX6_isAt) (t := 2) (r := [xvi 302]) (σ := s1) rfl rfl xbk_sel (fun Q5 hQ5 => sX6_isAt (σ := xsel [2, 3, 4] s1) (wanted := 302)  (fun r5 p5 => hQ5 _ ?_))
      have p5 : (r5 = 1 ∧ (s1 2 5) = 302) ∨ (r5 = 0 ∧ ¬ (s1 2 5) = 302) := p5
      refine And.intro (fun c6 => ?_) (fun c6 => ?_)
      · replace p5 : (s1 2 5) = 302 := by
          rcases p5 with q | q
          · exact q.2
          · exact absurd q.1 (by omega)
        exact lp_74 () (show True from by first | trivial | omega | (refine ⟨by assumption, ?_⟩; omega) | (refine ⟨?_, ?_⟩ <;> omega))
      · replace p5 : ¬ (s1 2 5) = 302 := by
          rcases p5 with q | q
          · exact absurd q.1 (by omega)
          · exact q.2
        have lp_59 : ∀ (s2 : xS), (Fr [1, 2] [2] σ s2 ∧ RWx (s2 1) (s2 0 2) ∧ (0 ≤ s2 0 2 ∧ s2 0 2 ≤ 30)) → X 59 [xvr 0, xvr 4, xvi size, xvr 5] s2 := by
          intro s2 hv_59
          obtain ⟨hF, hRW, hl2⟩ := hv_59
          refine hX 400 59 _ _ ?_
          refine And.intro rfl ?_
          refine And.intro (by omega) ?_
          exact hQ _ _ hF ⟨hRW, by omega, by omega⟩
        refine sX1_readLine (σ := s1)  (show 0 ≤ (s1 0 2) ∧ (s1 0 2) ≤ 30 from by omega) (show 0 ≤ (s1 5 0) ∧ (s1 5 0) ≤ 13 from by omega) (show 0 ≤ (s1 5 1) ∧ (s1 5 1) ≤ 6 from by omega) (show (0 ≤ (s1 2 4) ∧ (s1 2 4) ≤ (s1 2 2) ∧ (s1 2 2) ≤ 940) from by omega) (fun r8 σ8 f8 p8 => ?_)
        have hF := hF.tr f8 (by decide) (by decide)
        have p8 : (∀ j : Nat, ((j : Int) < 4 * (s1 0 2)) → σ8 1 j = s1 1 j) ∧ (0 ≤ σ8 2 4 ∧ σ8 2 4 ≤ σ8 2 2 ∧ σ8 2 2 ≤ 940) ∧ (r8 = 0 ∨ (r8 = 1 ∧ (s1 0 2) ≤ 29 ∧ (0 ≤ σ8 1 (4 * (s1 0 2)).toNat ∧ σ8 1 (4 * (s1 0 2)).toNat ≤ 5) ∧ (0 ≤ σ8 1 (4 * (s1 0 2) + 1).toNat ∧ σ8 1 (4 * (s1 0 2) + 1).toNat ≤ 5) ∧ (0 ≤ σ8 1 (4 * (s1 0 2) + 2).toNat ∧ σ8 1 (4 * (s1 0 2) + 2).toNat ≤ 12))) := p8
        obtain ⟨hHL, hrd2, hr01⟩ := p8
        have kl : σ8 0 2 = s1 0 2 := f8.2 2 (by decide)
        have hRW : RWx (σ8 1) (σ8 0 2) := by rw [kl]; exact hRW.keep hHL
        refine And.intro (fun c9 => ?_) (fun c9 => ?_)
        · exact lp_59 σ8 ⟨hF, (by first | exact hRWp | exact hRW), by omega⟩
        · refine xMVf (sh := shE) (ci := 6) (τ := [2, 3, 4]) (E := xT kX6_pass) (t := 2) (r := [xvi 59]) (σ := σ8) rfl rfl (fun Q10 hQ10 => sX6_pass (σ := xsel [2, 3, 4] σ8) (wanted := 59) (show 0 ≤ (σ8 2 4) ∧ (σ8 2 4) ≤ (σ8 2 2) ∧ (σ8 2 2) ≤ 940 from by omega) (fun r10 ς10 f10 p10 => hQ10 _ _ ?_))
          have kq10_2 : (xbk [2, 3, 4] σ8 ς10) 2 2 = σ8 2 2 := f10.2 2 (by decide)
          replace f10 : Fr [2] [] σ8 (xbk [2, 3, 4] σ8 ς10) := f10.bk (by decide) (by decide)
          replace p10 : (0 ≤ (xbk [2, 3, 4] σ8 ς10) 2 4 ∧ (xbk [2, 3, 4] σ8 ς10) 2 4 ≤ (σ8 2 2)) ∧ (r10 = 0 ∨ r10 = 1) := p10
          generalize xbk [2, 3, 4] σ8 ς10 = σ10 at f10 kq10_2 p10 ⊢
          have hF := hF.tr f10 (by decide) (by decide)
          have kl2 := f10.2 2 (by decide)
          have k11 := f10.1 1 (by decide) (by decide)
          have hRWp : RWx (σ10 1) (σ10 0 2) := by rw [k11, kl2]; exact hRW
          refine And.intro (fun c11 => ?_) (fun c11 => ?_)
          · have hRWn : ∀ z : Int, z = σ10 0 2 + 1 → RWx (σ10 1) z := fun z hz => by
              rcases hr01 with h | ⟨_, h29, hA, hB, hC⟩
              · exfalso; omega
              · rw [hz]
                have e9 : σ10 0 2 = s1 0 2 := by omega
                refine RWx.step hRWp (by omega) ?_ ?_ ?_
                · rw [k11, e9]; exact hA
                · rw [k11, e9]; exact hB
                · rw [k11, e9]; exact hC
            have h29 : s1 0 2 ≤ 29 := by omega
            intro v12 e12 l12 h12
            have e12 : v12 = σ10 0 2 := e12
            intro z13 t13 e13 l13 h13
            try have w13 : t13 = 0 := by omega
            have hF := hF.p (j := 2) (v := z13) (by decide)
            exact ih_17 _ (show (31 - (z13)).toNat < m17 from by omega) (xput σ10 0 2 z13) rfl ⟨hF, (show RWx (σ10 1) z13 from hRWn _ (by omega)), (show 0 ≤ z13 ∧ z13 ≤ 30 from by omega), (show 0 ≤ σ10 2 4 ∧ σ10 2 4 ≤ σ10 2 2 ∧ σ10 2 2 ≤ 940 from by omega)⟩
          · exact lp_59 σ10 ⟨hF, (by first | exact hRWp | exact hRW), by omega⟩
  exact lp_17 _ σ rfl ⟨hF, RWx.zero hp3, by omega, hp2⟩
set_option maxHeartbeats 4000000 in
set_option maxRecDepth 100000 in
theorem pX8_read_a {σ : xS} {size : Int} {Q : Option xV → xS → Prop} {Z : Nat → List xV → xS → Prop} (hZ : ∀ σ' : xS, Fr [1, 2, 3] [2] σ σ' → σ' 1 1 = 0 → Z 12 [xvr 0, xvr 5, xvi size, xvr 6] σ') : xTE kX8_read_a Q Z 0 [xvr 0, xvr 5, xvi size, xvr 6] σ := by
  intro X hX hZZ
  have hF : Fr [1, 2, 3] [2] σ σ := Fr.rf
  refine hX 400 0 _ _ ?_
  refine xMVf (sh := shS0) (ci := 7) (τ := [1, 2]) (E := xT kX7_clear) (t := 1) (r := []) (σ := σ) rfl rfl (fun Q1 hQ1 => sX7_clear (σ := xsel [1, 2] σ)   (fun ς1 f1 p1 => hQ1 _ _ ?_))
  replace f1 : Fr [1] [] σ (xbk [1, 2] σ ς1) := f1.bk (by decide) (by decide)
  replace p1 : (xbk [1, 2] σ ς1) 1 1 = 0 := p1
  generalize xbk [1, 2] σ ς1 = σ1 at f1  p1 ⊢
  have hF := hF.tr f1 (by decide) (by decide)
  have hF := hF.p (j := 2) (v := 0) (by decide)
  exact hZZ _ _ _ (hZ _ hF (show σ1 1 1 = 0 from by omega))
set_option maxHeartbeats 4000000 in
set_option maxRecDepth 100000 in
theorem pX8_read_b {σ : xS} {size : Int} {Q : Option xV → xS → Prop} {Z : Nat → List xV → xS → Prop} (hp0 : (0 ≤ σ 1 1 ∧ σ 1 1 ≤ 40)) (hp1 : (0 ≤ σ 3 4 ∧ σ 3 4 ≤ σ 3 2 ∧ σ 3 2 ≤ 940)) (hp2 : (0 ≤ σ 6 1 ∧ σ 6 1 ≤ 6)) (hQ : ∀ r : Int, ∀ σ' : xS, Fr [1, 2, 3] [2] σ σ' → ((0 ≤ σ' 1 1 ∧ σ' 1 1 ≤ 40) ∧ (r = 0 ∨ r = 1)) → Q (some (xvi r)) σ') : xTE kX8_read_b Q Z 24 [xvr 0, xvr 5, xvi size, xvr 6] σ := by
  intro X hX hZZ
  have hF : Fr [1, 2, 3] [2] σ σ := Fr.rf
  refine hX 400 24 _ _ ?_
  refine SE_i (n := 9) (depth := 1) (σ := σ) (by omega) (show 0 ≤ σ 1 1 ∧ σ 1 1 ≤ 40 from by omega) (show 0 ≤ σ 3 4 ∧ σ 3 4 ≤ σ 3 2 ∧ σ 3 2 ≤ 940 from by omega) (show 0 ≤ σ 6 1 ∧ σ 6 1 ≤ 6 from by omega) (fun r1 σ1 f1 p1 => ?_)
  have hF := hF.tr f1 (by decide) (by decide)
  refine And.intro (fun c2 => ?_) (fun c2 => ?_)
  · have lp_59 : ∀ (s2 : xS), (Fr [1, 2, 3] [2] σ s2 ∧ (0 ≤ s2 1 1 ∧ s2 1 1 ≤ 40)) → X 59 [xvr 0, xvr 5, xvi size, xvr 6] s2 := by
      intro s2 hv_59
      obtain ⟨hF, hm2⟩ := hv_59
      refine hX 400 59 _ _ ?_
      refine And.intro rfl ?_
      refine And.intro (by omega) ?_
      exact hQ _ _ hF ⟨(show 0 ≤ s2 1 1 ∧ s2 1 1 ≤ 40 from by omega), by omega⟩
    refine xMVp (sh := shS) (ci := 6) (τ := [3, 4, 5]) (E := xT kX6_isAt) (t := 3) (r := [xvi 302]) (σ := σ1) rfl rfl xbk_sel (fun Q4 hQ4 => sX6_isAt (σ := xsel [3, 4, 5] σ1) (wanted := 302)  (fun r4 p4 => hQ4 _ ?_))
    have p4 : (r4 = 1 ∧ (σ1 3 5) = 302) ∨ (r4 = 0 ∧ ¬ (σ1 3 5) = 302) := p4
    refine And.intro (fun c5 => ?_) (fun c5 => ?_)
    · replace p4 : (σ1 3 5) = 302 := by
        rcases p4 with q | q
        · exact q.2
        · exact absurd q.1 (by omega)
      exact lp_59 σ1 ⟨hF, (show 0 ≤ σ1 1 1 ∧ σ1 1 1 ≤ 40 from by omega)⟩
    · replace p4 : ¬ (σ1 3 5) = 302 := by
        rcases p4 with q | q
        · exact absurd q.1 (by omega)
        · exact q.2
      refine xMVf (sh := shS) (ci := 6) (τ := [3, 4, 5]) (E := xT kX6_fail) (t := 3) (r := [xvi 1]) (σ := σ1) rfl rfl (fun Q6 hQ6 => sX6_fail (σ := xsel [3, 4, 5] σ1) (kind := 1)  (fun r6 ς6 f6 p6 => hQ6 _ _ ?_))
      have kq6_2 : (xbk [3, 4, 5] σ1 ς6) 3 2 = σ1 3 2 := f6.2 2 (by decide)
      have kq6_4 : (xbk [3, 4, 5] σ1 ς6) 3 4 = σ1 3 4 := f6.2 4 (by decide)
      have kq6_5 : (xbk [3, 4, 5] σ1 ς6) 3 5 = σ1 3 5 := f6.2 5 (by decide)
      have kq6_7 : (xbk [3, 4, 5] σ1 ς6) 3 7 = σ1 3 7 := f6.2 7 (by decide)
      have kq6_8 : (xbk [3, 4, 5] σ1 ς6) 3 8 = σ1 3 8 := f6.2 8 (by decide)
      replace f6 : Fr [3] [] σ1 (xbk [3, 4, 5] σ1 ς6) := f6.bk (by decide) (by decide)
      replace p6 : r6 = 0 := p6
      generalize xbk [3, 4, 5] σ1 ς6 = σ6 at f6 kq6_2 kq6_4 kq6_5 kq6_7 kq6_8 p6 ⊢
      have hF := hF.tr f6 (by decide) (by decide)
      have km6 : σ6 1 1 = σ1 1 1 := congrFun (f6.1 1 (by decide) (by decide)) 1
      have kp6 : σ6 6 1 = σ 6 1 := congrFun (hF.1 6 (by decide) (by decide)) 1
      refine And.intro (fun c7 => ?_) (fun c7 => ?_)
      · refine And.intro rfl ?_
        refine And.intro (by omega) ?_
        exact hQ _ _ hF ⟨(show 0 ≤ σ6 1 1 ∧ σ6 1 1 ≤ 40 from by omega), by omega⟩
      · exact lp_59 σ6 ⟨hF, (show 0 ≤ σ6 1 1 ∧ σ6 1 1 ≤ 40 from by omega)⟩
  · refine And.intro rfl ?_
    refine And.intro (by omega) ?_
    exact hQ _ _ hF ⟨(show 0 ≤ σ1 1 1 ∧ σ1 1 1 ≤ 40 from by omega), by omega⟩
