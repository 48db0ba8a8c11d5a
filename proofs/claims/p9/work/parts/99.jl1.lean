set_option maxHeartbeats 4000000 in
set_option maxRecDepth 100000 in
theorem pX10_play_aF {f R : Nat → Int} {w : Nat → Bool} {σ : xS} {n : Int} {Q : Option xV → xS → Prop} {Z : Nat → List xV → xS → Prop} (hp0 : JG (xsel [2, 3, 4, 5, 6, 7, 8, 9, 10, 11, 12, 13, 14] σ)) (hp1 : 0 ≤ σ 0 1 ∧ σ 0 1 ≤ 940) (hp2 : gmC 2 σ f) (hp3 : TV f) (hp4 : RLC f (σ 1) (σ 0 1) n → ∀ k : Nat, (k : Int) < f 1 → σ 1 k = R k) (hQ : ∀ r : Int, ∀ σ' : xS, Fr [2, 3, 4, 5, 6, 7, 8, 9, 10, 11, 12, 13, 14, 15, 16, 17, 18, 19, 20, 21, 22, 23, 24, 25, 26, 27, 43] [1] σ σ' → ((JG (xsel [2, 3, 4, 5, 6, 7, 8, 9, 10, 11, 12, 13, 14] σ') ∧ σ' 0 1 = 0) ∧ ((¬ RLC f (σ 1) (σ 0 1) n ∧ r = -1 ∧ STC σ σ') ∨ (RLC f (σ 1) (σ 0 1) n ∧ r = 0 ∧ STC σ σ' ∧ (2 ≤ f 1 → plyD f R n.toNat = 0)))) → Q (some (xvi r)) σ')(hZ : ∀ (done : Int) (u : xV) (σ' : xS), Fr [2, 3, 4, 5, 6, 7, 8, 9, 10, 11, 12, 13, 14, 15, 16, 17, 18, 19, 20, 21, 22, 23, 24, 25, 26, 27, 43] [1] σ σ' → JG (xsel [2, 3, 4, 5, 6, 7, 8, 9, 10, 11, 12, 13, 14] σ') → JG (xsel [15, 16, 17, 18, 19, 20, 21, 22, 23, 24, 25, 26, 27] σ') → σ' 0 1 = 0 → PLM f R n σ σ' done → Z 147 [xvr 0, xvi n, xvi 1, xvi done, u] σ') : xTE (kX10_play_a w) Q Z 0 [xvr 0, xvi n, xvu, xvu, xvu] σ := by
  intro X hX hZZ
  have hF : Fr [2, 3, 4, 5, 6, 7, 8, 9, 10, 11, 12, 13, 14, 15, 16, 17, 18, 19, 20, 21, 22, 23, 24, 25, 26, 27, 43] [1] σ σ := Fr.rf
  refine hX 400 0 _ _ ?_
  have hb0 : 0 ≤ σ 2 0 ∧ σ 2 0 ≤ 13 := hp0.1.1.1
  have hb1 : 0 ≤ σ 2 1 ∧ σ 2 1 ≤ 6 := hp0.1.1.2.1
  have hb8 : 0 ≤ σ 2 8 ∧ σ 2 8 ≤ σ 2 9 ∧ σ 2 9 ≤ 52 := hp0.1.1.2.2.1
  have hb9 : 0 ≤ σ 11 2 ∧ σ 11 2 ≤ 52 := hp0.1.2.2.2
  have hag : σ 2 2 = 0 ∨ σ 2 2 = 1 := hp0.2.1
  have n21 : σ 2 1 = f 1 := hp2.1.n0 (i := 1) (by decide)
  refine And.intro (fun c1 => ?_) (fun c1 => ?_)
  · refine hX 400 23 _ _ ?_
    refine And.intro (Nat.le_of_ble_eq_true rfl) ?_
    show xw _ _ _ _ _ _ _ _ _ _ [xvr 0, xvi n, xvi 0, xvu, xvu] _ _
    have hF := hF.p (j := 1) (v := 0) (by decide)
    refine And.intro (fun c3 => absurd (by decide) c3) (fun _ => ?_)
    refine And.intro rfl ?_
    exact hQ _ _ hF ⟨⟨(show JG (xsel [2, 3, 4, 5, 6, 7, 8, 9, 10, 11, 12, 13, 14] (xput σ 0 1 0)) from hp0), (show 0 = 0 from by omega)⟩, Or.inl ⟨(fun z => by first | exact absurd z p0 | (have y := z.1; omega)), rfl, fun u hu => xput_ne (by omega)⟩⟩
  · refine And.intro (fun c4 => ?_) (fun c4 => ?_)
    · refine hX 400 23 _ _ ?_
      refine And.intro (Nat.le_of_ble_eq_true rfl) ?_
      show xw _ _ _ _ _ _ _ _ _ _ [xvr 0, xvi n, xvi 0, xvu, xvu] _ _
      have hF := hF.p (j := 1) (v := 0) (by decide)
      refine And.intro (fun c6 => absurd (by decide) c6) (fun _ => ?_)
      refine And.intro rfl ?_
      exact hQ _ _ hF ⟨⟨(show JG (xsel [2, 3, 4, 5, 6, 7, 8, 9, 10, 11, 12, 13, 14] (xput σ 0 1 0)) from hp0), (show 0 = 0 from by omega)⟩, Or.inl ⟨(fun z => by first | exact absurd z p0 | (have y := z.1; omega)), rfl, fun u hu => xput_ne (by omega)⟩⟩
    · refine xMVp (sh := (shW wlVF0 w)) (ci := 10) (τ := tB) (E := xT kX10_hasRulesOnTape) (t := 0) (r := []) (σ := σ) rfl rfl xbk_sel (fun Q7 hQ7 => sX10_hasRulesF (σ := xsel tB σ) (by show 0 ≤ σ 2 1 ∧ σ 2 1 ≤ 6; omega) (by show 0 ≤ σ 0 1 ∧ σ 0 1 ≤ 940; omega) (fun r7 p7 => hQ7 _ ?_))
      replace p7 : (r7 = 1 ∧ RLC f (σ 1) (σ 0 1) n) ∨ (r7 = 0 ∧ ¬ RLC f (σ 1) (σ 0 1) n) := by
        rcases p7 with ⟨q1, q2⟩ | ⟨q1, q2⟩
        · refine Or.inl ⟨q1, by omega, ?_, ?_, ?_⟩
          · have z : ¬ σ 2 1 = 0 := q2.1
            omega
          · have z : σ 0 1 = σ 2 1 := q2.2.1
            omega
          · intro k hk
            exact q2.2.2 k (by show (k : Int) < σ 2 1; omega)
        · refine Or.inr ⟨q1, fun z => q2 ⟨?_, ?_, ?_⟩⟩
          · show ¬ σ 2 1 = 0
            have := z.2.1; omega
          · show σ 0 1 = σ 2 1
            have := z.2.2.1; omega
          · intro k hk
            have hk : (k : Int) < σ 2 1 := hk
            exact z.2.2.2 k (by omega)
      refine And.intro (fun c8 => ?_) (fun c8 => ?_)
      · replace p7 : ¬ RLC f (σ 1) (σ 0 1) n := by
          rcases p7 with q | q
          · exact absurd q.1 (by omega)
          · exact q.2
        refine hX 400 23 _ _ ?_
        refine And.intro (Nat.le_of_ble_eq_true rfl) ?_
        show xw _ _ _ _ _ _ _ _ _ _ [xvr 0, xvi n, xvi 0, xvu, xvu] _ _
        have hF := hF.p (j := 1) (v := 0) (by decide)
        refine And.intro (fun c10 => absurd (by decide) c10) (fun _ => ?_)
        refine And.intro rfl ?_
        exact hQ _ _ hF ⟨⟨(show JG (xsel [2, 3, 4, 5, 6, 7, 8, 9, 10, 11, 12, 13, 14] (xput σ 0 1 0)) from hp0), (show 0 = 0 from by omega)⟩, Or.inl ⟨(fun z => by first | exact absurd z p7 | (have y := z.1; omega)), rfl, fun u hu => xput_ne (by omega)⟩⟩
      · replace p7 : RLC f (σ 1) (σ 0 1) n := by
          rcases p7 with q | q
          · exact q.2
          · exact absurd q.1 (by omega)
        refine And.intro (Nat.le_of_ble_eq_true rfl) ?_
        show xw _ _ _ _ _ _ _ _ _ _ [xvr 0, xvi n, xvi 1, xvu, xvu] _ _
        have hF := hF.p (j := 1) (v := 0) (by decide)
        refine And.intro (fun _ => ?_) (fun c12 => absurd c12 (by decide))
        have hRl : RLC f (σ 1) (σ 0 1) n := p7
        have hfx : gmC 2 (xput σ 0 1 0) f := hp2.eq (fun t _ _ => xput_ne (by omega))
        refine xMVf (sh := (shW wlVF0 w)) (ci := 2) (τ := [15, 16, 17, 18, 19, 20, 21, 22, 23, 24, 25, 26, 27, 2, 3, 4, 5, 6, 7, 8, 9, 10, 11, 12, 13, 14]) (E := xT kX2_copyFrom) (t := 15) (r := [xvr 2]) (σ := (xput σ 0 1 0)) rfl rfl (fun Q13 hQ13 => sX2_copyFromJ (f := f) (σ := xsel [15, 16, 17, 18, 19, 20, 21, 22, 23, 24, 25, 26, 27, 2, 3, 4, 5, 6, 7, 8, 9, 10, 11, 12, 13, 14] (xput σ 0 1 0)) (by exact hp0.1.2.2.2) (by exact hp0.2.1) (hfx.src (tb := 15)) (fun ς13 f13 p13 _ q13 => hQ13 _ _ ?_))
        have hJT : JG (xsel [15, 16, 17, 18, 19, 20, 21, 22, 23, 24, 25, 26, 27] (xbk [15, 16, 17, 18, 19, 20, 21, 22, 23, 24, 25, 26, 27, 2, 3, 4, 5, 6, 7, 8, 9, 10, 11, 12, 13, 14] (xput σ 0 1 0) ς13)) := by
          obtain ⟨c1, c2, c3, c4, c5⟩ := p13
          exact JG.cp (f := xsel [2, 3, 4, 5, 6, 7, 8, 9, 10, 11, 12, 13, 14] σ) hp0 c1 c2 c3 c4 c5
        have hg15 : gmC 15 (xbk [15, 16, 17, 18, 19, 20, 21, 22, 23, 24, 25, 26, 27, 2, 3, 4, 5, 6, 7, 8, 9, 10, 11, 12, 13, 14] (xput σ 0 1 0) ς13) f := gm_bk q13.1 (q13.2.1.trans hfx.2) (by decide)
        have hn16 : ∀ j : Nat, j < 6 → (xbk [15, 16, 17, 18, 19, 20, 21, 22, 23, 24, 25, 26, 27, 2, 3, 4, 5, 6, 7, 8, 9, 10, 11, 12, 13, 14] (xput σ 0 1 0) ς13) 16 j = σ 3 j := fun j hj => q13.2.2 j (by omega)
        replace f13 : Fr [15, 16, 17, 18, 19, 20, 21, 22, 23, 24, 25, 26, 27] [] (xput σ 0 1 0) (xbk [15, 16, 17, 18, 19, 20, 21, 22, 23, 24, 25, 26, 27, 2, 3, 4, 5, 6, 7, 8, 9, 10, 11, 12, 13, 14] (xput σ 0 1 0) ς13) := f13.bk (by decide) (by decide)
        clear p13 q13
        generalize xbk [15, 16, 17, 18, 19, 20, 21, 22, 23, 24, 25, 26, 27, 2, 3, 4, 5, 6, 7, 8, 9, 10, 11, 12, 13, 14] (xput σ 0 1 0) ς13 = σ13 at f13 hJT hg15 hn16 ⊢
        have hF := hF.tr f13 (by decide) (by decide)
        have hJ : JG (xsel [2, 3, 4, 5, 6, 7, 8, 9, 10, 11, 12, 13, 14] σ13) := JG.fr2 (show JG (xsel [2, 3, 4, 5, 6, 7, 8, 9, 10, 11, 12, 13, 14] (xput σ 0 1 0)) from hp0) f13 (by decide)
        have hz1 : σ13 0 1 = 0 := f13.2 1 (by decide)
        have hg2 : gmC 2 σ13 f := hfx.eq (fun t _ _ => f13.1 t (by omega) (by simp; omega))
        have hsm : ∀ t : Nat, ((2 ≤ t ∧ t ≤ 14) ∨ t = 43) → σ13 t = σ t := fun t ht => (f13.1 t (by omega) (by simp; omega)).trans (xput_ne (by omega))
        refine And.intro (Nat.le_of_ble_eq_true rfl) ?_
        show xw _ _ _ _ _ _ _ _ _ _ [xvr 0, xvi n, xvi 1, xvi 0, xvu] _ _
        have lp_49 : ∀ (m49 : Nat) (done : Int) (u14_4 : xV) (s1 : xS), ((n - done).toNat) = m49 → (Fr [2, 3, 4, 5, 6, 7, 8, 9, 10, 11, 12, 13, 14, 15, 16, 17, 18, 19, 20, 21, 22, 23, 24, 25, 26, 27, 43] [1] σ s1 ∧ JG (xsel [2, 3, 4, 5, 6, 7, 8, 9, 10, 11, 12, 13, 14] s1) ∧ JG (xsel [15, 16, 17, 18, 19, 20, 21, 22, 23, 24, 25, 26, 27] s1) ∧ s1 0 1 = 0 ∧ (0 ≤ done ∧ done ≤ n) ∧ (gmC 15 s1 f ∧ ∀ j : Nat, j < 6 → s1 16 j = σ 3 j) ∧ (done = 0 → ∀ t : Nat, ((2 ≤ t ∧ t ≤ 14) ∨ t = 43) → s1 t = σ t) ∧ ∃ g rp : Nat → Int, (gmC 2 s1 g ∧ TV g ∧ g 1 = f 1 ∧ ∀ j : Nat, j < 6 → s1 3 j = σ 3 j) ∧ (f 1 < 2 → done = 0) ∧ (2 ≤ f 1 → plyN g R (n - done).toNat = plyN f R n.toNat ∧ done + plyD g R (n - done).toNat = plyD f R n.toNat ∧ (∀ i : Nat, i < 8 → s1 43 i = rp i) ∧ plyR rp g R (n - done).toNat = plyR (σ 43) f R n.toNat)) → X 49 [xvr 0, xvi n, xvi 1, xvi done, u14_4] s1 := by
          intro m49
          induction m49 using Nat.strongRecOn with
          | _ m49 ih_49 =>
          intro done u14_4 s1 hm_49 hv_49
          obtain ⟨hF, hJ, hJT, hz1, hv_49, ⟨hg15, hn16⟩, hsm, g, rp, ⟨hg2, hT, hg1, hnm⟩, hone, hply⟩ := hv_49
          have hC := hJ.1
          have m0 := hT.1.1.1.1
          have m1 := hT.1.1.1.2.1
          have hT4 := hT.2.2.2
          have hT6 := hT.2.2.1
          have h24 : s1 2 14 = g 4 := hg2.2
          have h1t : s1 1 = σ 1 := hF.1 1 (by decide) (by decide)
          refine hX 400 49 _ _ ?_
          have lp_143 : ∀ (u15_4 : xV), (f 1 < 2 ∨ (n - done).toNat = 0 ∨ g 4 = -1) → X 143 [xvr 0, xvi n, xvi 1, xvi done, u15_4] s1 := by
            intro u15_4 hv_143
            have hfin : 2 ≤ f 1 → gmC 2 s1 (plyN f R n.toNat) ∧ done = plyD f R n.toNat ∧ ∀ i : Nat, i < 8 → s1 43 i = plyR (σ 43) f R n.toNat i := fun h2 => by
              obtain ⟨a1, a2, a3, a4⟩ := hply h2
              obtain ⟨b1, b2, b3⟩ := ply_e (r := rp) (f := g) (R := R) (n := (n - done).toNat) (by omega)
              exact ⟨by rw [← a1, b1]; exact hg2, by omega, fun i hi => by rw [← a4, b3]; exact a3 i hi⟩
            refine hX 400 143 _ _ ?_
            refine And.intro (fun c16 => ?_) (fun c16 => ?_)
            · refine hX 400 158 _ _ ?_
              refine And.intro rfl ?_
              exact hQ _ _ hF ⟨⟨hJ, hz1⟩, Or.inr ⟨hRl, by omega, (fun u hu => by
                  by_cases c : (2 ≤ u ∧ u ≤ 14) ∨ u = 43
                  · exact hsm (by omega) u c
                  · exact hF.1 u (by omega) (by simp; omega)), fun h2 => by have z := (hfin h2).2.1; omega⟩⟩
            · exact hZZ _ _ _ (hZ _ _ _ hF hJ hJT hz1 ⟨by omega, hRl, by omega, (hfin (by omega)).2.1, ⟨hg15, hn16⟩, (hfin (by omega)).1, hnm, (hfin (by omega)).2.2⟩)
          refine And.intro (fun c17 => ?_) (fun c17 => ?_)
          · exact lp_143 (u14_4) (by first | omega | exact (Classical.em (f 1 < 2)).elim Or.inl (fun c2 => by have z := hB (by omega); omega))
          · intro v18 e18 l18 h18
            have e18 : v18 = s1 2 14 := e18
            refine gx_hasPerson2 (sh := (shW wlVF0 w)) (f := g) (σ := s1) (p := v18) rfl hg2 (fun r19 p19 => ?_)
            refine And.intro (fun c20 => ?_) (fun c20 => ?_)
            · replace p19 : v18 < 0 ∨ g 1 ≤ v18 := by
                rcases p19 with q | q
                · exact absurd q.1 (by omega)
                · exact q.2
              exact lp_143 (u14_4) (by first | omega | exact (Classical.em (f 1 < 2)).elim Or.inl (fun c2 => by have z := hB (by omega); omega))
            · replace p19 : 0 ≤ v18 ∧ v18 < g 1 := by
                rcases p19 with q | q
                · exact q.2
                · exact absurd q.1 (by omega)
              intro v21 e21 l21 h21
              have e21 : v21 = s1 2 14 := e21
              intro v22 e22 l22 h22
              have e22 : v22 = s1 2 14 := e22
              refine And.intro (Or.inl rfl) (And.intro (⟨by omega, by omega⟩) ?_)
              intro v23 e23 l23 h23
              have e23 : v23 = s1 1 v22.toNat := e23
              have hta : v21 = g 4 := by omega
              have hrl : v23 = R (g 4).toNat := by rw [e23, h1t, show v22.toNat = (g 4).toNat from by omega]; exact hp4 hRl _ (by omega)
              refine gx_choice2 (sh := (shW wlVF0 w)) (f := g) (σ := s1) (p := v21) (rule := v23) rfl hg2 hT.1 (by omega) (by omega) (fun r24 p24 => ?_)
              rw [show v21.toNat = (g 4).toNat from by omega, hrl] at p24
              have hB : 2 ≤ g 1 → r24 = bto g R ∧ (0 ≤ r24 / 100 ∧ r24 / 100 < g 1 ∧ ¬ r24 / 100 = g 4) ∧ (0 ≤ r24 % 100 ∧ r24 % 100 ≤ 12) ∧ 1 ≤ g (60 + 13 * (g 4).toNat + (r24 % 100).toNat) := fun h2 => hT.bok (R := R) h2 (by omega) p24
              have hB1 : g 1 < 2 → r24 = -1 := fun h2 => by
                rcases p24 with q | q
                · exact q.1
                · omega
              refine And.intro (Nat.le_of_ble_eq_true rfl) ?_
              show xw _ _ _ _ _ _ _ _ _ _ [xvr 0, xvi n, xvi 1, xvi done, xvi r24] _ _
              refine And.intro (fun c25 => ?_) (fun c25 => ?_)
              · intro v26 e26 l26 h26
                have e26 : v26 = s1 2 14 := e26
                refine And.intro (by omega) ?_
                intro z27 e27 f27 l27 h27
                replace f27 := f27 (by omega) (by omega)
                refine And.intro (by omega) ?_
                intro z28 e28 f28 l28 h28
                replace f28 := f28 (by omega) (by omega)
                have h2g : 2 ≤ g 1 := by
                  by_cases c : 2 ≤ g 1
                  · exact c
                  · have := hB1 (by omega); omega
                obtain ⟨hto, hb1, hb2, hb3⟩ := hB h2g
                have hbb : z27 = r24 / 100 := by omega
                have hkk : z28 = r24 % 100 := by omega
                refine gx_doAsking2 (sh := (shW wlVF0 w)) (f := g) (σ := s1) (p := v26) (q := z27) (kind := z28) (lies := 0) rfl hg2 hT.1 (by omega) (by omega) (by omega) (by omega) (by omega) hT.2.1 (by omega) (by rw [show v26.toNat = (g 4).toNat from by omega, hkk]; exact hb3) (Or.inl rfl) (fun r29 σ29 f29 g29 _ q29 z29j => ?_)
                rw [show v26.toNat = (g 4).toNat from by omega, hbb, hkk, hto] at g29 q29
                have hF := hF.tr f29 (by decide) (by decide)
                obtain ⟨hT2, hO2⟩ := hT.ask (a := (g 4).toNat) (b := (bto g R / 100).toNat) (kind := (bto g R % 100).toNat) (lies := 0) (by omega) (by rw [← hto]; omega) (by rw [← hto]; omega) (by rw [← hto]; omega) (by omega) (by rw [← hto]; exact hb3)
                have hT2 : TV (stA g R) := hT2
                have hO21 : stA g R 1 = g 1 := hO2 1 (by omega)
                have hgA : gmC 2 σ29 (stA g R) := g29
                have hqA : ∀ i : Nat, i < 8 → σ29 43 i = stR g R i := q29
                have hJ29 : JG (xsel [2, 3, 4, 5, 6, 7, 8, 9, 10, 11, 12, 13, 14] σ29) := JG.askd hJ hgA hT2.1.1 (f29.1 6 (by decide) (by decide)) z29j
                have hJT29 : JG (xsel [15, 16, 17, 18, 19, 20, 21, 22, 23, 24, 25, 26, 27] σ29) := jg_sel (tb := 15) hJT (fun j hj => f29.1 _ (by omega) (by simp only [List.mem_cons, List.not_mem_nil, or_false]; omega))
                have hz29 : σ29 0 1 = 0 := (f29.2 1 (by decide)).trans hz1
                have hg1529 : gmC 15 σ29 f := hg15.eq (fun t _ _ => f29.1 t (by omega) (by simp; omega))
                have hn1629 : ∀ j : Nat, j < 6 → σ29 16 j = σ 3 j := fun j hj => (congrFun (f29.1 16 (by decide) (by decide)) j).trans (hn16 j hj)
                have hnm29 : ∀ j : Nat, j < 6 → σ29 3 j = σ 3 j := fun j hj => (congrFun (f29.1 3 (by decide) (by decide)) j).trans (hnm j hj)
                intro z30 t30 e30 l30 h30
                try have w30 : t30 = 0 := by omega
                show xw _ _ _ _ _ _ _ _ _ _ [xvr 0, xvi n, xvi 1, xvi z30, xvi r24] _ _
                exact ih_49 _ (show (n - z30).toNat < m49 from by omega) z30 (xvi r24) σ29 rfl ⟨hF, hJ29, hJT29, hz29, by omega, ⟨hg1529, hn1629⟩, (fun h => absurd h (by omega)), stA g R, stR g R, ⟨hgA, hT2, by omega, hnm29⟩, (fun h => absurd h (by omega)), fun h2 => by
                            obtain ⟨a1, a2, a3, a4⟩ := hply h2
                            rw [show (n - done).toNat = (n - z30).toNat + 1 from by omega, plyN_s, if_neg (by omega)] at a1
                            rw [show (n - done).toNat = (n - z30).toNat + 1 from by omega, plyD_s, if_neg (by omega)] at a2
                            rw [show (n - done).toNat = (n - z30).toNat + 1 from by omega, plyR_s, if_neg (by omega)] at a4
                            exact ⟨a1, by omega, hqA, a4⟩⟩
              · exact lp_143 (xvi r24) (by first | omega | exact (Classical.em (f 1 < 2)).elim Or.inl (fun c2 => by have z := hB (by omega); omega))
        exact lp_49 _ 0 (xvu) σ13 rfl ⟨hF, hJ, hJT, hz1, by omega, ⟨hg15, hn16⟩, (fun _ => hsm), f, σ 43, ⟨hg2, hp3, rfl, fun j _ => congrFun (hsm 3 (by omega)) j⟩, (fun _ => rfl), fun _ => ⟨by rw [Int.sub_zero], by rw [Int.sub_zero]; omega, (fun i _ => congrFun (hsm 43 (by omega)) i), by rw [Int.sub_zero]⟩⟩
