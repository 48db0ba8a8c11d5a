theorem sX9_readHandJ {σ : xS}  {Q : Option xV → xS → Prop} (hp0 : TG σ) (hp1 : (0 ≤ σ 2 4 ∧ σ 2 4 ≤ σ 2 2 ∧ σ 2 2 ≤ 940)) (hp2_ : CRD σ) (hQ : ∀ r : Int, ∀ σ' : xS, Fr [1, 2, 5, 7, 8] [] σ σ' → ((TG σ' ∧ (0 ≤ σ' 2 4 ∧ σ' 2 4 ≤ σ' 2 2 ∧ σ' 2 2 ≤ 940) ∧ (r = 0 ∨ r = 1)) ∧ (CRD σ')) → Q (some (xvi r)) σ') : xT kX9_readHand [xvr 0, xvr 5] σ Q := by
  refine jkX9_readHand _ _ (fun o ς => ∃ r : Int, o = some (xvi r) ∧ Fr [1, 2, 5, 7, 8] [] σ ς ∧ ((TG ς ∧ (0 ≤ ς 2 4 ∧ ς 2 4 ≤ ς 2 2 ∧ ς 2 2 ≤ 940) ∧ (r = 0 ∨ r = 1)))) (fun o ς => ∃ r : Int, o = some (xvi r) ∧ Fr [1, 2, 5, 7, 8] [] σ ς ∧ ((CRD ς))) _ (sX9_readHand hp0 hp1 (fun r ς f p => ⟨r, rfl, f, p⟩)) (sX9_readHandC hp0 hp1 hp2_ (fun r ς f p => ⟨r, rfl, f, p⟩)) (fun o ς h1 h2 => ?_)
  obtain ⟨r, rfl, f0, p0⟩ := h1
  obtain ⟨r2, e2, f1, p1⟩ := h2
  have e3 : r = r2 := by cases e2; rfl
  subst e3
  exact hQ r ς f0 ⟨p0, p1⟩
set_option maxHeartbeats 4000000 in
set_option maxRecDepth 100000 in
theorem sX9_readLineC {σ : xS} {Q : Option xV → xS → Prop} (hp0 : TG σ) (hp1 : (0 ≤ σ 2 4 ∧ σ 2 4 ≤ σ 2 2 ∧ σ 2 2 ≤ 940)) (hp2 : CRD σ) (hQ : ∀ r : Int, ∀ σ' : xS, Fr [1, 2, 5, 6, 7, 8, 9] [2] σ σ' → (CRD σ') → Q (some (xvi r)) σ') : xT kX9_readLine [xvr 0, xvr 5] σ Q := by
  refine ⟨Nat.le_of_ble_eq_true rfl, fun X hX => ?_⟩
  show X 0 [xvr 0, xvr 5] σ
  have hF : Fr [1, 2, 5, 6, 7, 8, 9] [2] σ σ := Fr.rf
  refine hX 400 0 _ _ ?_
  have hD := hp2
  intro v1 e1 l1 h1
  have e1 : v1 = σ 2 5 := e1
  refine And.intro (fun c2 => ?_) (And.intro rfl ?_)
  · refine xMVf (sh := shT) (ci := 6) (τ := [2, 3, 4]) (E := xT kX6_fail) (t := 2) (r := [xvi 1]) (σ := σ) rfl rfl (fun Q3 hQ3 => sX6_fail (σ := xsel [2, 3, 4] σ) (kind := 1)  (fun r3 ς3 f3 p3 => hQ3 _ _ ?_))
    have kq3_2 : (xbk [2, 3, 4] σ ς3) 2 2 = σ 2 2 := f3.2 2 (by decide)
    have kq3_4 : (xbk [2, 3, 4] σ ς3) 2 4 = σ 2 4 := f3.2 4 (by decide)
    have kq3_5 : (xbk [2, 3, 4] σ ς3) 2 5 = σ 2 5 := f3.2 5 (by decide)
    have kq3_7 : (xbk [2, 3, 4] σ ς3) 2 7 = σ 2 7 := f3.2 7 (by decide)
    have kq3_8 : (xbk [2, 3, 4] σ ς3) 2 8 = σ 2 8 := f3.2 8 (by decide)
    replace f3 : Fr [2] [] σ (xbk [2, 3, 4] σ ς3) := f3.bk (by decide) (by decide)
    replace p3 : r3 = 0 := p3
    generalize xbk [2, 3, 4] σ ς3 = σ3 at f3 kq3_2 kq3_4 kq3_5 kq3_7 kq3_8 p3 ⊢
    have hF := hF.tr f3 (by decide) (by decide)
    have hD : CRD σ3 := hD.fr f3
    refine And.intro rfl ?_
    refine And.intro (by omega) ?_
    exact hQ _ _ hF hD
  refine And.intro (fun c2 => ?_) ?_
  · refine sX9_readKinds (σ := σ) hp0 hp1 (fun r4 σ4 f4 p4 => ?_)
    have hF := hF.tr f4 (by decide) (by decide)
    have hbl : r4 = 0 ∨ r4 = 1 := p4.2.2
    have hD : CRD σ4 := hp2.fr f4
    refine And.intro rfl ?_
    refine And.intro (by omega) ?_
    exact hQ _ _ hF hD
  refine And.intro (fun c2 => ?_) ?_
  · refine sX9_readPerson (σ := σ) hp0 hp1 (fun r5 σ5 f5 p5 => ?_)
    have hF := hF.tr f5 (by decide) (by decide)
    have hbl : r5 = 0 ∨ r5 = 1 := p5.2.2
    have hD : CRD σ5 := hp2.fr f5
    refine And.intro rfl ?_
    refine And.intro (by omega) ?_
    exact hQ _ _ hF hD
  refine And.intro (fun c2 => ?_) ?_
  · refine sX9_readHandJ (σ := σ) hp0 hp1 hp2 (fun r6 σ6 f6 p6 => ?_)
    have hF := hF.tr f6 (by decide) (by decide)
    have hbl : r6 = 0 ∨ r6 = 1 := p6.1.2.2
    have hD : CRD σ6 := p6.2
    refine And.intro rfl ?_
    refine And.intro (by omega) ?_
    exact hQ _ _ hF hD
  refine And.intro (fun c2 => ?_) ?_
  · refine sX9_readHeap (σ := σ) hp0 hp1 (fun r7 σ7 f7 p7 => ?_)
    have hF := hF.tr f7 (by decide) (by decide)
    have hbl : r7 = 0 ∨ r7 = 1 := p7.2.2
    have hD : CRD σ7 := hp2.fr f7
    refine And.intro rfl ?_
    refine And.intro (by omega) ?_
    exact hQ _ _ hF hD
  refine And.intro (fun c2 => ?_) ?_
  · refine sX9_readAgain (σ := σ) hp0 hp1 (fun r8 σ8 f8 p8 => ?_)
    have hF := hF.tr f8 (by decide) (by decide)
    have hbl : r8 = 0 ∨ r8 = 1 := p8.2.2
    have hD : CRD σ8 := hp2.fr f8
    refine And.intro rfl ?_
    refine And.intro (by omega) ?_
    exact hQ _ _ hF hD
  refine And.intro (fun c2 => ?_) ?_
  · refine sX9_readRefill (σ := σ) hp0 hp1 (fun r9 σ9 f9 p9 => ?_)
    have hF := hF.tr f9 (by decide) (by decide)
    have hbl : r9 = 0 ∨ r9 = 1 := p9.2.2
    have hD : CRD σ9 := hp2.fr f9
    refine And.intro rfl ?_
    refine And.intro (by omega) ?_
    exact hQ _ _ hF hD
  exact trivial
theorem sX9_readLineJ {σ : xS} {b : Nat → Int} {n m : Int} {s : TSx} {Q : Option xV → xS → Prop} (hp0 : TG σ) (hp1 : (0 ≤ σ 2 4 ∧ σ 2 4 ≤ σ 2 2 ∧ σ 2 2 ≤ 940)) (hp2 : RTC σ b n m s) (hp2_ : CRD σ) (hQ : ∀ r : Int, ∀ σ' : xS, Fr [1, 2, 5, 6, 7, 8, 9] [2] σ σ' → ((TG σ' ∧ (0 ≤ σ' 2 4 ∧ σ' 2 4 ≤ σ' 2 2 ∧ σ' 2 2 ≤ 940) ∧ (r = 0 ∨ r = 1) ∧ LNC σ' b n m s r) ∧ (CRD σ')) → Q (some (xvi r)) σ') : xT kX9_readLine [xvr 0, xvr 5] σ Q := by
  refine jkX9_readLine _ _ (fun o ς => ∃ r : Int, o = some (xvi r) ∧ Fr [1, 2, 5, 6, 7, 8, 9] [2] σ ς ∧ ((TG ς ∧ (0 ≤ ς 2 4 ∧ ς 2 4 ≤ ς 2 2 ∧ ς 2 2 ≤ 940) ∧ (r = 0 ∨ r = 1) ∧ LNC ς b n m s r))) (fun o ς => ∃ r : Int, o = some (xvi r) ∧ Fr [1, 2, 5, 6, 7, 8, 9] [2] σ ς ∧ ((CRD ς))) _ (sX9_readLineF hp0 hp1 hp2 (fun r ς f p => ⟨r, rfl, f, p⟩)) (sX9_readLineC hp0 hp1 hp2_ (fun r ς f p => ⟨r, rfl, f, p⟩)) (fun o ς h1 h2 => ?_)
  obtain ⟨r, rfl, f0, p0⟩ := h1
  obtain ⟨r2, e2, f1, p1⟩ := h2
  have e3 : r = r2 := by cases e2; rfl
  subst e3
  exact hQ r ς f0 ⟨p0, p1⟩
set_option maxHeartbeats 4000000 in
set_option maxRecDepth 100000 in
theorem pX9_read_bC {b : Nat → Int} {n m : Int} {s : TSx} {σ : xS} {size : Int} {Q : Option xV → xS → Prop} {Z : Nat → List xV → xS → Prop} (hp0 : TGC σ) (hp1 : (0 ≤ σ 2 4 ∧ σ 2 4 ≤ σ 2 2 ∧ σ 2 2 ≤ 940)) (hp2 : σ 0 3 = 0) (hp3 : RTC σ b n m s) (hp4 : 0 ≤ s.p ∧ s.p ≤ n) (hQ : ∀ r : Int, ∀ σ' : xS, Fr [1, 2, 5, 6, 7, 8, 9] [2, 3] σ σ' → (TGC σ' ∧ (0 ≤ σ' 2 4 ∧ σ' 2 4 ≤ σ' 2 2 ∧ σ' 2 2 ≤ 940) ∧ ((r = 1 ∧ ∃ (i : Nat) (t : TSx), TRN b n m i s t ∧ tkc b n m t.p = 302 ∧ RTC σ' b n m t ∧ σ' 0 3 = i) ∨ (r = 0 ∧ ∃ (i : Nat) (t : TSx), TRN b n m i s t ∧ ¬ tkc b n m t.p = 302 ∧ tst b n m t = .inl (σ' 2 9, σ' 2 10)))) → Q (some (xvi r)) σ') : xTE kX9_read_b Q Z 34 [xvr 0, xvr 4, xvi size, xvr 5] σ := by
  intro X hX hZZ
  have hF : Fr [1, 2, 5, 6, 7, 8, 9] [2, 3] σ σ := Fr.rf
  have lp_34 : ∀ (m34 : Nat) (s1 : xS), ((900 - s1 0 3).toNat) = m34 → (Fr [1, 2, 5, 6, 7, 8, 9] [2, 3] σ s1 ∧ TGC s1 ∧ (0 ≤ s1 2 4 ∧ s1 2 4 ≤ s1 2 2 ∧ s1 2 2 ≤ 940) ∧ ∃ (i : Nat) (t : TSx), s1 0 3 = i ∧ RTC s1 b n m t ∧ TRN b n m i s t ∧ (0 ≤ t.p ∧ t.p ≤ n ∧ 2 * (i : Int) ≤ t.p)) → X 34 [xvr 0, xvr 4, xvi size, xvr 5] s1 := by
    intro m34
    induction m34 using Nat.strongRecOn with
    | _ m34 ih_34 =>
    intro s1 hm_34 hv_34
    obtain ⟨hF, hT, hrd, i, t, hi, hRT, hTR, hpp⟩ := hv_34
    obtain ⟨⟨hb, hs, hm, hw⟩, hrc, hr9⟩ := id hRT.1
    have tk5 : s1 2 5 = tkc b n m t.p := hrc.1
    have tk4 : s1 2 4 = tkp b n m t.p := hrc.2.2.2.2
    refine hX 400 34 _ _ ?_
    have lp_92 : ∀ (_ : Unit), (tkc b n m t.p = 302) → X 92 [xvr 0, xvr 4, xvi size, xvr 5] s1 := by
      intro _ hv_92
      refine hX 400 92 _ _ ?_
      have lp_116 : ∀ (s3 : xS), (Fr [1, 2, 5, 6, 7, 8, 9] [2, 3] σ s3 ∧ TGC s3 ∧ (0 ≤ s3 2 4 ∧ s3 2 4 ≤ s3 2 2 ∧ s3 2 2 ≤ 940) ∧ ∃ (i : Nat) (t : TSx), TRN b n m i s t ∧ tkc b n m t.p = 302 ∧ RTC s3 b n m t ∧ s3 0 3 = i) → X 116 [xvr 0, xvr 4, xvi size, xvr 5] s3 := by
        intro s3 hv_116
        obtain ⟨hF, hT, hrd, he⟩ := hv_116
        refine hX 400 116 _ _ ?_
        refine And.intro rfl ?_
        refine And.intro (by omega) ?_
        exact hQ _ _ hF ⟨hT, hrd, Or.inl ⟨rfl, he⟩⟩
      refine xMVp (sh := shT) (ci := 6) (τ := [2, 3, 4]) (E := xT kX6_isAt) (t := 2) (r := [xvi 302]) (σ := s1) rfl rfl xbk_sel (fun Q4 hQ4 => sX6_isAt (σ := xsel [2, 3, 4] s1) (wanted := 302)  (fun r4 p4 => hQ4 _ ?_))
      have p4 : (r4 = 1 ∧ (s1 2 5) = 302) ∨ (r4 = 0 ∧ ¬ (s1 2 5) = 302) := p4
      refine And.intro (fun c5 => ?_) (fun c5 => ?_)
      · replace p4 : (s1 2 5) = 302 := by
          rcases p4 with q | q
          · exact q.2
          · exact absurd q.1 (by omega)
        exact lp_116 s1 ⟨hF, hT, hrd, i, t, hTR, by omega, hRT, hi⟩
      · replace p4 : ¬ (s1 2 5) = 302 := by
          rcases p4 with q | q
          · exact absurd q.1 (by omega)
          · exact q.2
        exfalso; omega
    intro v6 e6 l6 h6
    have e6 : v6 = s1 0 3 := e6
    refine And.intro (fun c7 => ?_) (fun c7 => ?_)
    · exact lp_92 () (show tkc b n m t.p = 302 from by first | trivial | omega | (refine ⟨by assumption, ?_⟩; omega) | (refine ⟨?_, ?_⟩ <;> omega))
    · refine xMVp (sh := shT) (ci := 6) (τ := [2, 3, 4]) (E := xT kX6_isAt) (t := 2) (r := [xvi 302]) (σ := s1) rfl rfl xbk_sel (fun Q8 hQ8 => sX6_isAt (σ := xsel [2, 3, 4] s1) (wanted := 302)  (fun r8 p8 => hQ8 _ ?_))
      have p8 : (r8 = 1 ∧ (s1 2 5) = 302) ∨ (r8 = 0 ∧ ¬ (s1 2 5) = 302) := p8
      refine And.intro (fun c9 => ?_) (fun c9 => ?_)
      · replace p8 : (s1 2 5) = 302 := by
          rcases p8 with q | q
          · exact q.2
          · exact absurd q.1 (by omega)
        exact lp_92 () (show tkc b n m t.p = 302 from by first | trivial | omega | (refine ⟨by assumption, ?_⟩; omega) | (refine ⟨?_, ?_⟩ <;> omega))
      · replace p8 : ¬ (s1 2 5) = 302 := by
          rcases p8 with q | q
          · exact absurd q.1 (by omega)
          · exact q.2
        have lp_77 : ∀ (s2 : xS), (Fr [1, 2, 5, 6, 7, 8, 9] [2, 3] σ s2 ∧ TGC s2 ∧ (0 ≤ s2 2 4 ∧ s2 2 4 ≤ s2 2 2 ∧ s2 2 2 ≤ 940) ∧ ∃ (i : Nat) (t : TSx), TRN b n m i s t ∧ ¬ tkc b n m t.p = 302 ∧ tst b n m t = .inl (s2 2 9, s2 2 10)) → X 77 [xvr 0, xvr 4, xvi size, xvr 5] s2 := by
          intro s2 hv_77
          obtain ⟨hF, hT, hrd, he⟩ := hv_77
          refine hX 400 77 _ _ ?_
          refine And.intro rfl ?_
          refine And.intro (by omega) ?_
          exact hQ _ _ hF ⟨hT, hrd, Or.inr ⟨rfl, he⟩⟩
        have hne : ¬ tkc b n m t.p = 302 := by omega
        refine sX9_readLineJ (σ := s1) hT.1 hrd hRT hT.2 (fun r11 σ11 f11 p11 => ?_)
        have hF := hF.tr f11 (by decide) (by decide)
        have kl : σ11 0 3 = s1 0 3 := f11.2 3 (by decide)
        obtain ⟨⟨hT0, hrd, hbl, hL⟩, hC9⟩ := p11
        have hT : TGC σ11 := ⟨hT0, hC9⟩
        refine And.intro (fun c12 => ?_) (fun c12 => ?_)
        · exact lp_77 σ11 ⟨hF, hT, hrd, i, t, hTR, hne, by
            rcases hL with ⟨z, _⟩ | ⟨_, z⟩
            · exact absurd z (by omega)
            · exact tst_l z⟩
        · obtain ⟨u, hu, hRu⟩ : ∃ u, tln b n m t = .inr u ∧ RTC σ11 b n m u := by
            rcases hL with ⟨_, z⟩ | ⟨z, _⟩
            · exact z
            · exact absurd z (by omega)
          clear hb hs hm hw hrc hr9 tk5 tk4
          obtain ⟨⟨hb, hs, hm, hw⟩, hrc, hr9⟩ := id hRu.1
          have tk5 : σ11 2 5 = tkc b n m u.p := hrc.1
          have tk4 : σ11 2 4 = tkp b n m u.p := hrc.2.2.2.2
          refine xMVf (sh := shT) (ci := 6) (τ := [2, 3, 4]) (E := xT kX6_pass) (t := 2) (r := [xvi 59]) (σ := σ11) rfl rfl (fun Q13 hQ13 => sX6_passF (σ := xsel [2, 3, 4] σ11) (b := b) (n := n) (m := m) (p := u.p) (wanted := 59) hrd ⟨hb, hs, hm⟩ hw hrc hr9 (fun r13 ς13 f13 p13 => hQ13 _ _ ?_))
          have p13 : (r13 = 1 ∧ tkc b n m u.p = 59 ∧ (0 ≤ (xbk [2, 3, 4] σ11 ς13) 2 4 ∧ (xbk [2, 3, 4] σ11 ς13) 2 4 ≤ n) ∧ (xbk [2, 3, 4] σ11 ς13) 2 9 = 0 ∧ RCs (xsel [2, 3, 4] (xbk [2, 3, 4] σ11 ς13)) b n m (tkp b n m u.p)) ∨ (r13 = 0 ∧ ¬ tkc b n m u.p = 59 ∧ (0 ≤ (xbk [2, 3, 4] σ11 ς13) 2 4 ∧ (xbk [2, 3, 4] σ11 ς13) 2 4 ≤ n) ∧ (xbk [2, 3, 4] σ11 ς13) 2 9 = 1 ∧ (xbk [2, 3, 4] σ11 ς13) 2 10 = tka b n m u.p) := p13
          have hb : (xbk [2, 3, 4] σ11 ς13) 4 = b := (f13.1 2 (by decide) (by decide)).trans hb
          have hw : WDS ((xbk [2, 3, 4] σ11 ς13) 3) := by
            have e9 : (xbk [2, 3, 4] σ11 ς13) 3 = σ11 3 := f13.1 1 (by decide) (by decide)
            rw [e9]; exact hw
          have hs : (xbk [2, 3, 4] σ11 ς13) 2 2 = n := (f13.2 2 (by decide)).trans hs
          have hm : (xbk [2, 3, 4] σ11 ς13) 2 3 = m := (f13.2 3 (by decide)).trans hm
          replace f13 : Fr [2] [] σ11 (xbk [2, 3, 4] σ11 ς13) := f13.bk (by decide) (by decide)
          generalize xbk [2, 3, 4] σ11 ς13 = σ13 at f13 hb hw hs hm p13 ⊢
          have hF := hF.tr f13 (by decide) (by decide)
          have hT := hT.fr f13 (by decide) (by decide) (by decide) (by decide)
          have kl2 : σ13 0 3 = σ11 0 3 := f13.2 3 (by decide)
          refine And.intro (fun c14 => ?_) (fun c14 => ?_)
          · obtain ⟨h59, hq4, hr9, hrc⟩ : tkc b n m u.p = 59 ∧ (0 ≤ σ13 2 4 ∧ σ13 2 4 ≤ n) ∧ σ13 2 9 = 0 ∧ RCs (xsel [2, 3, 4] σ13) b n m (tkp b n m u.p) := by
              rcases p13 with z | z
              · exact z.2
              · exact absurd z.1 (by omega)
            have hRn : RTC σ13 b n m (u.wp (tkp b n m u.p)) := hRu.ps f13 ⟨⟨hb, hs, hm, hw⟩, hrc, hr9⟩
            intro v15 e15 l15 h15
            have e15 : v15 = σ13 0 3 := e15
            intro z16 t16 e16 l16 h16
            try have w16 : t16 = 0 := by omega
            have hF := hF.p (j := 3) (v := z16) (by decide)
            exact ih_34 _ (show (900 - (z16)).toNat < m34 from by omega) (xput σ13 0 3 z16) rfl ⟨hF, hT, (show 0 ≤ σ13 2 4 ∧ σ13 2 4 ≤ σ13 2 2 ∧ σ13 2 2 ≤ 940 from by omega), i + 1, (u.wp (tkp b n m u.p)), (show z16 = ((i + 1 : Nat) : Int) from by omega), (show RTC σ13 b n m (u.wp (tkp b n m u.p)) from hRn), ⟨t, hTR, hne, tst_1 hu h59⟩, (by
                    have z : t.p + 2 ≤ tkp b n m u.p ∧ tkp b n m u.p ≤ n := tst_p hpp.1 hpp.2.1 (tst_1 hu h59)
                    show 0 ≤ tkp b n m u.p ∧ tkp b n m u.p ≤ n ∧ 2 * ((i + 1 : Nat) : Int) ≤ tkp b n m u.p
                    omega)⟩
          · exact lp_77 σ13 ⟨hF, hT, (show 0 ≤ σ13 2 4 ∧ σ13 2 4 ≤ σ13 2 2 ∧ σ13 2 2 ≤ 940 from by omega), i, t, hTR, hne, by
              rcases p13 with z | z
              · exact absurd z.1 (by omega)
              · rw [z.2.2.2.1, z.2.2.2.2]; exact tst_0 hu z.2.1⟩
  exact lp_34 _ σ rfl ⟨hF, hp0, hp1, 0, s, hp2, hp3, rfl, hp4.1, hp4.2, by omega⟩
