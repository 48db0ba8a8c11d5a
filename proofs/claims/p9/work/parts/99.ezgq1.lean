set_option maxHeartbeats 4000000 in
set_option maxRecDepth 100000 in
theorem pX9_read_bF {b : Nat → Int} {n m : Int} {s : TSx} {σ : xS} {size : Int} {Q : Option xV → xS → Prop} {Z : Nat → List xV → xS → Prop} (hp0 : TG σ) (hp1 : (0 ≤ σ 2 4 ∧ σ 2 4 ≤ σ 2 2 ∧ σ 2 2 ≤ 940)) (hp2 : σ 0 3 = 0) (hp3 : RTC σ b n m s) (hp4 : 0 ≤ s.p ∧ s.p ≤ n) (hQ : ∀ r : Int, ∀ σ' : xS, Fr [1, 2, 5, 6, 7, 8, 9] [2, 3] σ σ' → (TG σ' ∧ (0 ≤ σ' 2 4 ∧ σ' 2 4 ≤ σ' 2 2 ∧ σ' 2 2 ≤ 940) ∧ ((r = 1 ∧ ∃ (i : Nat) (t : TSx), TRN b n m i s t ∧ tkc b n m t.p = 302 ∧ RTC σ' b n m t ∧ σ' 0 3 = i) ∨ (r = 0 ∧ ∃ (i : Nat) (t : TSx), TRN b n m i s t ∧ ¬ tkc b n m t.p = 302 ∧ tst b n m t = .inl (σ' 2 9, σ' 2 10)))) → Q (some (xvi r)) σ') : xTE kX9_read_b Q Z 34 [xvr 0, xvr 4, xvi size, xvr 5] σ := by
  intro X hX hZZ
  have hF : Fr [1, 2, 5, 6, 7, 8, 9] [2, 3] σ σ := Fr.rf
  have lp_34 : ∀ (m34 : Nat) (s1 : xS), ((900 - s1 0 3).toNat) = m34 → (Fr [1, 2, 5, 6, 7, 8, 9] [2, 3] σ s1 ∧ TG s1 ∧ (0 ≤ s1 2 4 ∧ s1 2 4 ≤ s1 2 2 ∧ s1 2 2 ≤ 940) ∧ ∃ (i : Nat) (t : TSx), s1 0 3 = i ∧ RTC s1 b n m t ∧ TRN b n m i s t ∧ (0 ≤ t.p ∧ t.p ≤ n ∧ 2 * (i : Int) ≤ t.p)) → X 34 [xvr 0, xvr 4, xvi size, xvr 5] s1 := by
    intro m34
    induction m34 using Nat.strongRecOn with
    | _ m34 ih_34 =>
    intro s1 hm_34 hv_34
    obtain ⟨hF, hT, hrd, i, t, hi, hRT, hTR, hpp⟩ := hv_34
    obtain ⟨⟨hb, hs, hm, hw⟩, hrc, hr9⟩ := id hRT.1
    have tk5 : s1 2 5 = tkc b n m t.p := hrc.1
    have tk4 : s1 2 4 = tkp b n m t.p := hrc.2.2.2.2
    refine hX 400 34 _ _ ?_
    have lp_92 : ∀ (_ : Unit), (tkc b n m t.p = 302) → X 92 [xvr 0, xvr 4, xvi size, xvr 5] s1 := by
      intro _ hv_92
      refine hX 400 92 _ _ ?_
      have lp_116 : ∀ (s3 : xS), (Fr [1, 2, 5, 6, 7, 8, 9] [2, 3] σ s3 ∧ TG s3 ∧ (0 ≤ s3 2 4 ∧ s3 2 4 ≤ s3 2 2 ∧ s3 2 2 ≤ 940) ∧ ∃ (i : Nat) (t : TSx), TRN b n m i s t ∧ tkc b n m t.p = 302 ∧ RTC s3 b n m t ∧ s3 0 3 = i) → X 116 [xvr 0, xvr 4, xvi size, xvr 5] s3 := by
        intro s3 hv_116
        obtain ⟨hF, hT, hrd, he⟩ := hv_116
        refine hX 400 116 _ _ ?_
        refine And.intro rfl ?_
        refine And.intro (by omega) ?_
        exact hQ _ _ hF ⟨hT, hrd, Or.inl ⟨rfl, he⟩⟩
      refine xMVp (sh := shT) (ci := 6) (τ := [2, 3, 4]) (E := xT kX6_isAt) (t := 2) (r := [xvi 302]) (σ := s1) rfl rfl xbk_sel (fun Q4 hQ4 => sX6_isAt (σ := xsel [2, 3, 4] s1) (wanted := 302)  (fun r4 p4 => hQ4 _ ?_))
      have p4 : (r4 = 1 ∧ (s1 2 5) = 302) ∨ (r4 = 0 ∧ ¬ (s1 2 5) = 302) := p4
      refine And.intro (fun c5 => ?_) (fun c5 => ?_)
      · replace p4 : (s1 2 5) = 302 := by
          rcases p4 with q | q
          · exact q.2
          · exact absurd q.1 (by omega)
        exact lp_116 s1 ⟨hF, hT, hrd, i, t, hTR, by omega, hRT, hi⟩
      · replace p4 : ¬ (s1 2 5) = 302 := by
          rcases p4 with q | q
          · exact absurd q.1 (by omega)
          · exact q.2
        exfalso; omega
    intro v6 e6 l6 h6
    have e6 : v6 = s1 0 3 := e6
    refine And.intro (fun c7 => ?_) (fun c7 => ?_)
    · exact lp_92 () (show tkc b n m t.p = 302 from by first | trivial | omega | (refine ⟨by assumption, ?_⟩; omega) | (refine ⟨?_, ?_⟩ <;> omega))
    · refine xMVp (sh := shT) (ci := 6) (τ := [2, 3, 4]) (E := xT kX6_isAt) (t := 2) (r := [xvi 302]) (σ := s1) rfl rfl xbk_sel (fun Q8 hQ8 => sX6_isAt (σ := xsel [2, 3, 4] s1) (wanted := 302)  (fun r8 p8 => hQ8 _ ?_))
      have p8 : (r8 = 1 ∧ (s1 2 5) = 302) ∨ (r8 = 0 ∧ ¬ (s1 2 5) = 302) := p8
      refine And.intro (fun c9 => ?_) (fun c9 => ?_)
      · replace p8 : (s1 2 5) = 302 := by
          rcases p8 with q | q
          · exact q.2
          · exact absurd q.1 (by omega)
        exact lp_92 () (show tkc b n m t.p = 302 from by first | trivial | omega | (refine ⟨by assumption, ?_⟩; omega) | (refine ⟨?_, ?_⟩ <;> omega))
      · replace p8 : ¬ (s1 2 5) = 302 := by
          rcases p8 with q | q
          · exact absurd q.1 (by omega)
          · exact q.2
        have lp_77 : ∀ (s2 : xS), (Fr [1, 2, 5, 6, 7, 8, 9] [2, 3] σ s2 ∧ TG s2 ∧ (0 ≤ s2 2 4 ∧ s2 2 4 ≤ s2 2 2 ∧ s2 2 2 ≤ 940) ∧ ∃ (i : Nat) (t : TSx), TRN b n m i s t ∧ ¬ tkc b n m t.p = 302 ∧ tst b n m t = .inl (s2 2 9, s2 2 10)) → X 77 [xvr 0, xvr 4, xvi size, xvr 5] s2 := by
          intro s2 hv_77
          obtain ⟨hF, hT, hrd, he⟩ := hv_77
          refine hX 400 77 _ _ ?_
          refine And.intro rfl ?_
          refine And.intro (by omega) ?_
          exact hQ _ _ hF ⟨hT, hrd, Or.inr ⟨rfl, he⟩⟩
        have hne : ¬ tkc b n m t.p = 302 := by omega
        refine sX9_readLineF (σ := s1) hT hrd hRT (fun r11 σ11 f11 p11 => ?_)
        have hF := hF.tr f11 (by decide) (by decide)
        have kl : σ11 0 3 = s1 0 3 := f11.2 3 (by decide)
        obtain ⟨hT, hrd, hbl, hL⟩ := p11
        refine And.intro (fun c12 => ?_) (fun c12 => ?_)
        · exact lp_77 σ11 ⟨hF, hT, hrd, i, t, hTR, hne, by
            rcases hL with ⟨z, _⟩ | ⟨_, z⟩
            · exact absurd z (by omega)
            · exact tst_l z⟩
        · obtain ⟨u, hu, hRu⟩ : ∃ u, tln b n m t = .inr u ∧ RTC σ11 b n m u := by
            rcases hL with ⟨_, z⟩ | ⟨z, _⟩
            · exact z
            · exact absurd z (by omega)
          clear hb hs hm hw hrc hr9 tk5 tk4
          obtain ⟨⟨hb, hs, hm, hw⟩, hrc, hr9⟩ := id hRu.1
          have tk5 : σ11 2 5 = tkc b n m u.p := hrc.1
          have tk4 : σ11 2 4 = tkp b n m u.p := hrc.2.2.2.2
          refine xMVf (sh := shT) (ci := 6) (τ := [2, 3, 4]) (E := xT kX6_pass) (t := 2) (r := [xvi 59]) (σ := σ11) rfl rfl (fun Q13 hQ13 => sX6_passF (σ := xsel [2, 3, 4] σ11) (b := b) (n := n) (m := m) (p := u.p) (wanted := 59) hrd ⟨hb, hs, hm⟩ hw hrc hr9 (fun r13 ς13 f13 p13 => hQ13 _ _ ?_))
          have p13 : (r13 = 1 ∧ tkc b n m u.p = 59 ∧ (0 ≤ (xbk [2, 3, 4] σ11 ς13) 2 4 ∧ (xbk [2, 3, 4] σ11 ς13) 2 4 ≤ n) ∧ (xbk [2, 3, 4] σ11 ς13) 2 9 = 0 ∧ RCs (xsel [2, 3, 4] (xbk [2, 3, 4] σ11 ς13)) b n m (tkp b n m u.p)) ∨ (r13 = 0 ∧ ¬ tkc b n m u.p = 59 ∧ (0 ≤ (xbk [2, 3, 4] σ11 ς13) 2 4 ∧ (xbk [2, 3, 4] σ11 ς13) 2 4 ≤ n) ∧ (xbk [2, 3, 4] σ11 ς13) 2 9 = 1 ∧ (xbk [2, 3, 4] σ11 ς13) 2 10 = tka b n m u.p) := p13
          have hb : (xbk [2, 3, 4] σ11 ς13) 4 = b := (f13.1 2 (by decide) (by decide)).trans hb
          have hw : WDS ((xbk [2, 3, 4] σ11 ς13) 3) := by
            have e9 : (xbk [2, 3, 4] σ11 ς13) 3 = σ11 3 := f13.1 1 (by decide) (by decide)
            rw [e9]; exact hw
          have hs : (xbk [2, 3, 4] σ11 ς13) 2 2 = n := (f13.2 2 (by decide)).trans hs
          have hm : (xbk [2, 3, 4] σ11 ς13) 2 3 = m := (f13.2 3 (by decide)).trans hm
          replace f13 : Fr [2] [] σ11 (xbk [2, 3, 4] σ11 ς13) := f13.bk (by decide) (by decide)
          generalize xbk [2, 3, 4] σ11 ς13 = σ13 at f13 hb hw hs hm p13 ⊢
          have hF := hF.tr f13 (by decide) (by decide)
          have hT := hT.fr f13 (by decide) (by decide) (by decide) (by decide)
          have kl2 : σ13 0 3 = σ11 0 3 := f13.2 3 (by decide)
          refine And.intro (fun c14 => ?_) (fun c14 => ?_)
          · obtain ⟨h59, hq4, hr9, hrc⟩ : tkc b n m u.p = 59 ∧ (0 ≤ σ13 2 4 ∧ σ13 2 4 ≤ n) ∧ σ13 2 9 = 0 ∧ RCs (xsel [2, 3, 4] σ13) b n m (tkp b n m u.p) := by
              rcases p13 with z | z
              · exact z.2
              · exact absurd z.1 (by omega)
            have hRn : RTC σ13 b n m (u.wp (tkp b n m u.p)) := hRu.ps f13 ⟨⟨hb, hs, hm, hw⟩, hrc, hr9⟩
            intro v15 e15 l15 h15
            have e15 : v15 = σ13 0 3 := e15
            intro z16 t16 e16 l16 h16
            try have w16 : t16 = 0 := by omega
            have hF := hF.p (j := 3) (v := z16) (by decide)
            exact ih_34 _ (show (900 - (z16)).toNat < m34 from by omega) (xput σ13 0 3 z16) rfl ⟨hF, hT, (show 0 ≤ σ13 2 4 ∧ σ13 2 4 ≤ σ13 2 2 ∧ σ13 2 2 ≤ 940 from by omega), i + 1, (u.wp (tkp b n m u.p)), (show z16 = ((i + 1 : Nat) : Int) from by omega), (show RTC σ13 b n m (u.wp (tkp b n m u.p)) from hRn), ⟨t, hTR, hne, tst_1 hu h59⟩, (by
                    have z : t.p + 2 ≤ tkp b n m u.p ∧ tkp b n m u.p ≤ n := tst_p hpp.1 hpp.2.1 (tst_1 hu h59)
                    show 0 ≤ tkp b n m u.p ∧ tkp b n m u.p ≤ n ∧ 2 * ((i + 1 : Nat) : Int) ≤ tkp b n m u.p
                    omega)⟩
          · exact lp_77 σ13 ⟨hF, hT, (show 0 ≤ σ13 2 4 ∧ σ13 2 4 ≤ σ13 2 2 ∧ σ13 2 2 ≤ 940 from by omega), i, t, hTR, hne, by
              rcases p13 with z | z
              · exact absurd z.1 (by omega)
              · rw [z.2.2.2.1, z.2.2.2.2]; exact tst_0 hu z.2.1⟩
  exact lp_34 _ σ rfl ⟨hF, hp0, hp1, 0, s, hp2, hp3, rfl, hp4.1, hp4.2, by omega⟩

